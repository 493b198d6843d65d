def y_Mo_dispatch : MethodName := ⟨"ClassWorksModel", "dispatch", "(III)I"⟩
abbrev b_Mo_dispatch : ByteArray := prog_14_method_86_code
theorem d_Mo_dispatch_0 : decode b_Mo_dispatch 0 = .ok (.bipush (-2), 2) := by decide +kernel
theorem d_Mo_dispatch_2 : decode b_Mo_dispatch 2 = .ok (.istore 4, 2) := by decide +kernel
theorem d_Mo_dispatch_4 : decode b_Mo_dispatch 4 = .ok (.iload_n 1, 1) := by decide +kernel
theorem d_Mo_dispatch_5 : decode b_Mo_dispatch 5 = .ok (.istore 5, 2) := by decide +kernel
theorem d_Mo_dispatch_7 : decode b_Mo_dispatch 7 = .ok (.iload 5, 2) := by decide +kernel
theorem d_Mo_dispatch_9 : decode b_Mo_dispatch 9 = .ok (.ifCond .lt 58, 3) := by decide +kernel
theorem d_Mo_dispatch_12 : decode b_Mo_dispatch 12 = .ok (.iload 4, 2) := by decide +kernel
theorem d_Mo_dispatch_14 : decode b_Mo_dispatch 14 = .ok (.ifCond .ge 53, 3) := by decide +kernel
theorem d_Mo_dispatch_17 : decode b_Mo_dispatch 17 = .ok (.aload_n 0, 1) := by decide +kernel
theorem d_Mo_dispatch_18 : decode b_Mo_dispatch 18 = .ok (.iload 5, 2) := by decide +kernel
theorem d_Mo_dispatch_20 : decode b_Mo_dispatch 20 = .ok (.iload_n 2, 1) := by decide +kernel
theorem d_Mo_dispatch_21 : decode b_Mo_dispatch 21 = .ok (.iload_n 3, 1) := by decide +kernel
theorem d_Mo_dispatch_22 : decode b_Mo_dispatch 22 = .ok (.invokevirtual 752, 3) := by decide +kernel
theorem d_Mo_dispatch_25 : decode b_Mo_dispatch 25 = .ok (.istore 6, 2) := by decide +kernel
theorem d_Mo_dispatch_27 : decode b_Mo_dispatch 27 = .ok (.iload 6, 2) := by decide +kernel
theorem d_Mo_dispatch_29 : decode b_Mo_dispatch 29 = .ok (.ifCond .lt 23, 3) := by decide +kernel
theorem d_Mo_dispatch_32 : decode b_Mo_dispatch 32 = .ok (.aload_n 0, 1) := by decide +kernel
theorem d_Mo_dispatch_33 : decode b_Mo_dispatch 33 = .ok (.getfield 522, 3) := by decide +kernel
theorem d_Mo_dispatch_36 : decode b_Mo_dispatch 36 = .ok (.getfield 453, 3) := by decide +kernel
theorem d_Mo_dispatch_39 : decode b_Mo_dispatch 39 = .ok (.iload 6, 2) := by decide +kernel
theorem d_Mo_dispatch_41 : decode b_Mo_dispatch 41 = .ok (.iaload, 1) := by decide +kernel
theorem d_Mo_dispatch_42 : decode b_Mo_dispatch 42 = .ok (.iconst 5, 1) := by decide +kernel
theorem d_Mo_dispatch_43 : decode b_Mo_dispatch 43 = .ok (.iand, 1) := by decide +kernel
theorem d_Mo_dispatch_44 : decode b_Mo_dispatch 44 = .ok (.ifCond .ne 8, 3) := by decide +kernel
theorem d_Mo_dispatch_47 : decode b_Mo_dispatch 47 = .ok (.iload 6, 2) := by decide +kernel
theorem d_Mo_dispatch_49 : decode b_Mo_dispatch 49 = .ok (.goto 5, 3) := by decide +kernel
theorem d_Mo_dispatch_52 : decode b_Mo_dispatch 52 = .ok (.bipush (-2), 2) := by decide +kernel
theorem d_Mo_dispatch_54 : decode b_Mo_dispatch 54 = .ok (.istore 4, 2) := by decide +kernel
theorem d_Mo_dispatch_56 : decode b_Mo_dispatch 56 = .ok (.aload_n 0, 1) := by decide +kernel
theorem d_Mo_dispatch_57 : decode b_Mo_dispatch 57 = .ok (.iload 5, 2) := by decide +kernel
theorem d_Mo_dispatch_59 : decode b_Mo_dispatch 59 = .ok (.invokevirtual 725, 3) := by decide +kernel
theorem d_Mo_dispatch_62 : decode b_Mo_dispatch 62 = .ok (.istore 5, 2) := by decide +kernel
theorem d_Mo_dispatch_64 : decode b_Mo_dispatch 64 = .ok (.goto (-57), 3) := by decide +kernel
theorem d_Mo_dispatch_67 : decode b_Mo_dispatch 67 = .ok (.iload 4, 2) := by decide +kernel
theorem d_Mo_dispatch_69 : decode b_Mo_dispatch 69 = .ok (.ifCond .ge 13, 3) := by decide +kernel
theorem d_Mo_dispatch_72 : decode b_Mo_dispatch 72 = .ok (.aload_n 0, 1) := by decide +kernel
theorem d_Mo_dispatch_73 : decode b_Mo_dispatch 73 = .ok (.iload_n 1, 1) := by decide +kernel
theorem d_Mo_dispatch_74 : decode b_Mo_dispatch 74 = .ok (.iload_n 2, 1) := by decide +kernel
theorem d_Mo_dispatch_75 : decode b_Mo_dispatch 75 = .ok (.iload_n 3, 1) := by decide +kernel
theorem d_Mo_dispatch_76 : decode b_Mo_dispatch 76 = .ok (.iconst 1, 1) := by decide +kernel
theorem d_Mo_dispatch_77 : decode b_Mo_dispatch 77 = .ok (.invokevirtual 862, 3) := by decide +kernel
theorem d_Mo_dispatch_80 : decode b_Mo_dispatch 80 = .ok (.istore 4, 2) := by decide +kernel
theorem d_Mo_dispatch_82 : decode b_Mo_dispatch 82 = .ok (.iload 4, 2) := by decide +kernel
theorem d_Mo_dispatch_84 : decode b_Mo_dispatch 84 = .ok (.ifCond .lt 19, 3) := by decide +kernel
theorem d_Mo_dispatch_87 : decode b_Mo_dispatch 87 = .ok (.aload_n 0, 1) := by decide +kernel
theorem d_Mo_dispatch_88 : decode b_Mo_dispatch 88 = .ok (.getfield 522, 3) := by decide +kernel
theorem d_Mo_dispatch_91 : decode b_Mo_dispatch 91 = .ok (.getfield 453, 3) := by decide +kernel
theorem d_Mo_dispatch_94 : decode b_Mo_dispatch 94 = .ok (.iload 4, 2) := by decide +kernel
theorem d_Mo_dispatch_96 : decode b_Mo_dispatch 96 = .ok (.iaload, 1) := by decide +kernel
theorem d_Mo_dispatch_97 : decode b_Mo_dispatch 97 = .ok (.bipush 8, 2) := by decide +kernel
theorem d_Mo_dispatch_99 : decode b_Mo_dispatch 99 = .ok (.iand, 1) := by decide +kernel
theorem d_Mo_dispatch_100 : decode b_Mo_dispatch 100 = .ok (.ifCond .eq 14, 3) := by decide +kernel
theorem d_Mo_dispatch_103 : decode b_Mo_dispatch 103 = .ok (.aload_n 0, 1) := by decide +kernel
theorem d_Mo_dispatch_104 : decode b_Mo_dispatch 104 = .ok (.bipush 58, 2) := by decide +kernel
theorem d_Mo_dispatch_106 : decode b_Mo_dispatch 106 = .ok (.bipush 18, 2) := by decide +kernel
theorem d_Mo_dispatch_108 : decode b_Mo_dispatch 108 = .ok (.invokevirtual 850, 3) := by decide +kernel
theorem d_Mo_dispatch_111 : decode b_Mo_dispatch 111 = .ok (.goto 5, 3) := by decide +kernel
theorem d_Mo_dispatch_114 : decode b_Mo_dispatch 114 = .ok (.iload 4, 2) := by decide +kernel
theorem d_Mo_dispatch_116 : decode b_Mo_dispatch 116 = .ok (.ireturn, 1) := by decide +kernel
abbrev ru_Mo_dispatch : Room := { frames := 55, cells := 0, slots := 0, locals := 1269 }
def wj_Mo_dispatch_116 (y : Ly) (Post : St → Int32 → Prop) (a0 : Nat) (s_j116 : St) (z0j116 : Int32) : Prop := Post s_j116 z0j116
def wj_Mo_dispatch_103 (y : Ly) (Post : St → Int32 → Prop) (a0 : Nat) (s_j103 : St) : Prop := wu_Mo_fails y (fun (s_2 : St) (r_1 : Int32) => wj_Mo_dispatch_116 y Post a0 s_2 r_1) s_j103 a0 58 18
def wj_Mo_dispatch_82 (y : Ly) (Post : St → Int32 → Prop) (a0 : Nat) (s_j82 : St) (x4j82 : Int32) : Prop := ((x4j82 < 0 → wj_Mo_dispatch_103 y Post a0 s_j82) ∧ (¬ (x4j82 < 0) → ∃ b_3 : Nat, sO s_j82 a0 45 = some b_3 ∧ cl b_3 = 13 ∧ xA y s_j82 b_3 20 x4j82 (fun x_6 : Int32 => (((x_6 &&& 8) = 0 → wj_Mo_dispatch_116 y Post a0 s_j82 x4j82) ∧ (¬ ((x_6 &&& 8) = 0) → wj_Mo_dispatch_103 y Post a0 s_j82)))))
def wj_Mo_dispatch_67 (y : Ly) (Post : St → Int32 → Prop) (a0 : Nat) (s_j67 : St) (x1j67 : Int32) (x2j67 : Int32) (x3j67 : Int32) (x4j67 : Int32) : Prop := ((0 ≤ x4j67 → wj_Mo_dispatch_82 y Post a0 s_j67 x4j67) ∧ (¬ (0 ≤ x4j67) → wu_Mo_inFaces y (fun (s_8 : St) (r_7 : Int32) => wj_Mo_dispatch_82 y Post a0 s_8 r_7) s_j67 a0 x1j67 x2j67 x3j67 1))
def wj_Mo_dispatch_54 (y : Ly) (Post : St → Int32 → Prop) (K_7 : St → Int32 → Int32 → Int32 → Int32 → Int32 → Prop) (a0 : Nat) (s_j54 : St) (x1j54 : Int32) (x2j54 : Int32) (x3j54 : Int32) (x5j54 : Int32) (z0j54 : Int32) : Prop := wu_Mo_parentOf y (fun (s_12 : St) (r_11 : Int32) => K_7 s_12 x1j54 x2j54 x3j54 z0j54 r_11) s_j54 a0 x5j54
def wj_Mo_dispatch_52 (y : Ly) (Post : St → Int32 → Prop) (K_7 : St → Int32 → Int32 → Int32 → Int32 → Int32 → Prop) (a0 : Nat) (s_j52 : St) (x1j52 : Int32) (x2j52 : Int32) (x3j52 : Int32) (x5j52 : Int32) : Prop := wj_Mo_dispatch_54 y Post K_7 a0 s_j52 x1j52 x2j52 x3j52 x5j52 (-2)
def wb_Mo_dispatch_7 (y : Ly) (Post : St → Int32 → Prop) (K_7 : St → Int32 → Int32 → Int32 → Int32 → Int32 → Prop) (a0 : Nat) (s_h7 : St) (x1h7 : Int32) (x2h7 : Int32) (x3h7 : Int32) (x4h7 : Int32) (x5h7 : Int32) : Prop := ((x5h7 < 0 → wj_Mo_dispatch_67 y Post a0 s_h7 x1h7 x2h7 x3h7 x4h7) ∧ (¬ (x5h7 < 0) → ((0 ≤ x4h7 → wj_Mo_dispatch_67 y Post a0 s_h7 x1h7 x2h7 x3h7 x4h7) ∧ (¬ (0 ≤ x4h7) → wu_Mo_methodIn y (fun (s_10 : St) (r_9 : Int32) => ((r_9 < 0 → wj_Mo_dispatch_52 y Post K_7 a0 s_10 x1h7 x2h7 x3h7 x5h7) ∧ (¬ (r_9 < 0) → ∃ b_13 : Nat, sO s_10 a0 45 = some b_13 ∧ cl b_13 = 13 ∧ xA y s_10 b_13 20 r_9 (fun x_16 : Int32 => ((¬ (x_16 &&& 5) = 0 → wj_Mo_dispatch_52 y Post K_7 a0 s_10 x1h7 x2h7 x3h7 x5h7) ∧ ((x_16 &&& 5) = 0 → wj_Mo_dispatch_54 y Post K_7 a0 s_10 x1h7 x2h7 x3h7 x5h7 r_9)))))) s_h7 a0 x5h7 x2h7 x3h7))))
def wl_Mo_dispatch_7 (y : Ly) (Post : St → Int32 → Prop) (a0 : Nat) (s_h7 : St) (x1h7 : Int32) (x2h7 : Int32) (x3h7 : Int32) (x4h7 : Int32) (x5h7 : Int32) : Prop := ∃ (I : St → Int32 → Int32 → Int32 → Int32 → Int32 → Prop) (μ : St → Int32 → Int32 → Int32 → Int32 → Int32 → Nat), I s_h7 x1h7 x2h7 x3h7 x4h7 x5h7 ∧ ∀ (u : St) (t0 : Int32) (t1 : Int32) (t2 : Int32) (t3 : Int32) (t4 : Int32), I u t0 t1 t2 t3 t4 → wb_Mo_dispatch_7 y Post (fun z t0q t1q t2q t3q t4q => I z t0q t1q t2q t3q t4q ∧ μ z t0q t1q t2q t3q t4q < μ u t0 t1 t2 t3 t4) a0 u t0 t1 t2 t3 t4
def wu_Mo_dispatch (y : Ly) (Post : St → Int32 → Prop) (σ : St) (a0 : Nat) (v1 : Int32) (v2 : Int32) (v3 : Int32) : Prop := wl_Mo_dispatch_7 y Post a0 σ v1 v2 v3 (-2) v1
set_option maxHeartbeats 4000000 in
set_option maxRecDepth 100000 in
theorem cu_Mo_dispatch (l : Launch) (D : va_G) (g : Nat → ClassId) (ad : Nat → Nat) (y : Ly) (Post : St → Int32 → Prop) (σ : St) (a0 : Nat) (v1 : Int32) (v2 : Int32) (v3 : Int32) (sz : Nat) (h_a0 : cl a0 = 14) (h : wu_Mo_dispatch y Post σ a0 v1 v2 v3) : Met l y_Mo_dispatch (mw y_Mo_dispatch b_Mo_dispatch 7 (some .int)) ru_Mo_dispatch (PC g D [] [.ref (ad a0), .int v1, .int v2, .int v3] sz (ws g ad y σ)) (va_Qi (fun (r : Int32) (u : St) => Post u r) (QW D (va_A (ws g ad y σ) sz) (fun u => ws g ad y u)) (va_A (ws g ad y σ) sz)) 0 0 (va_A (ws g ad y σ) sz) := by
  refine ofI (by decide +kernel) (Nat.le_of_ble_eq_true rfl) ?_
  intro p e s m args below meth c A Q ls H locs G hsz hP hD hS hl hret
  subst hsz
  have hl : lv_has ls 7 [(0, .ref (ad a0)), (1, .int v1), (2, .int v2), (3, .int v3)] := hl
  unfold wu_Mo_dispatch at h
  refine lv_bipush (v := (-2)) G.1 G.2.1 d_Mo_dispatch_0 (by decide) ?_
  refine lv_istore (lv' := [(4, .int (-2)), (0, .ref (ad a0)), (1, .int v1), (2, .int v2), (3, .int v3)]) G.1 G.2.1 d_Mo_dispatch_2 hl (by decide) rfl (fun ls hl => ?_)
  refine lv_iload_n G.1 G.2.1 d_Mo_dispatch_4 rfl (lv_at hl 2 rfl) ?_
  refine lv_istore (lv' := [(5, .int v1), (4, .int (-2)), (0, .ref (ad a0)), (1, .int v1), (2, .int v2), (3, .int v3)]) G.1 G.2.1 d_Mo_dispatch_5 hl (by decide) rfl (fun ls hl => ?_)
  unfold wl_Mo_dispatch_7 at h
  obtain ⟨I_7, μ_7, hI_7, hB_7⟩ := h
  have L_7 : ∀ (n_7 : Nat) (s_h7 : St) (x1h7 : Int32) (x2h7 : Int32) (x3h7 : Int32) (x4h7 : Int32) (x5h7 : Int32), μ_7 s_h7 x1h7 x2h7 x3h7 x4h7 x5h7 < n_7 → I_7 s_h7 x1h7 x2h7 x3h7 x4h7 x5h7 → ∀ (H : Heap) (locs : List Loc), va_P D CL (ws g ad y s_h7) H → va_D A (ws g ad y s_h7) → va_S A s.heap H locs → ∀ ls, lv_has ls 7 [(0, .ref (ad a0)), (1, .int x1h7), (2, .int x2h7), (3, .int x3h7), (4, .int x4h7), (5, .int x5h7)] → W p l e ru_Mo_dispatch s m args below meth c H locs 0 0 Q (F0 m 7 ls []) := by
    intro n_7
    induction n_7 with
    | zero => intro s_h7 x1h7 x2h7 x3h7 x4h7 x5h7 hμ; exact absurd hμ (Nat.not_lt_zero _)
    | succ n_7 ih_7 =>
      intro s_h7 x1h7 x2h7 x3h7 x4h7 x5h7 hμ_7 hJ H locs hP hD hS ls hl
      obtain ⟨K_7, hK_7, h⟩ : ∃ K : St → Int32 → Int32 → Int32 → Int32 → Int32 → Prop, (∀ z (t0 : Int32) (t1 : Int32) (t2 : Int32) (t3 : Int32) (t4 : Int32), K z t0 t1 t2 t3 t4 → I_7 z t0 t1 t2 t3 t4 ∧ μ_7 z t0 t1 t2 t3 t4 < μ_7 s_h7 x1h7 x2h7 x3h7 x4h7 x5h7) ∧ wb_Mo_dispatch_7 y Post K a0 s_h7 x1h7 x2h7 x3h7 x4h7 x5h7 := ⟨_, fun _ _ _ _ _ _ h => h, hB_7 s_h7 x1h7 x2h7 x3h7 x4h7 x5h7 hJ⟩
      unfold wb_Mo_dispatch_7 at h
      refine lv_iload G.1 G.2.1 d_Mo_dispatch_7 (lv_at hl 5 rfl) ?_
      have J_67 : ∀ (s_j67 : St) (x1j67 : Int32) (x2j67 : Int32) (x3j67 : Int32) (x4j67 : Int32) (H : Heap) (locs : List Loc), wj_Mo_dispatch_67 y Post a0 s_j67 x1j67 x2j67 x3j67 x4j67 → va_P D CL (ws g ad y s_j67) H → va_D A (ws g ad y s_j67) → va_S A s.heap H locs → ∀ ls, lv_has ls 7 [(0, .ref (ad a0)), (1, .int x1j67), (2, .int x2j67), (3, .int x3j67), (4, .int x4j67)] → W p l e ru_Mo_dispatch s m args below meth c H locs 0 0 Q (F0 m 67 ls []) := by
        intro s_j67 x1j67 x2j67 x3j67 x4j67 H locs h hP hD hS ls hl
        unfold wj_Mo_dispatch_67 at h
        refine lv_iload G.1 G.2.1 d_Mo_dispatch_67 (lv_at hl 4 rfl) ?_
        have J_82 : ∀ (s_j82 : St) (x4j82 : Int32) (H : Heap) (locs : List Loc), wj_Mo_dispatch_82 y Post a0 s_j82 x4j82 → va_P D CL (ws g ad y s_j82) H → va_D A (ws g ad y s_j82) → va_S A s.heap H locs → ∀ ls, lv_has ls 7 [(0, .ref (ad a0)), (4, .int x4j82)] → W p l e ru_Mo_dispatch s m args below meth c H locs 0 0 Q (F0 m 82 ls []) := by
          intro s_j82 x4j82 H locs h hP hD hS ls hl
          unfold wj_Mo_dispatch_82 at h
          refine lv_iload G.1 G.2.1 d_Mo_dispatch_82 (lv_at hl 1 rfl) ?_
          have J_116 : ∀ (s_j116 : St) (z0j116 : Int32) (H : Heap) (locs : List Loc), wj_Mo_dispatch_116 y Post a0 s_j116 z0j116 → va_P D CL (ws g ad y s_j116) H → va_D A (ws g ad y s_j116) → va_S A s.heap H locs → ∀ ls, lv_has ls 7 [] → W p l e ru_Mo_dispatch s m args below meth c H locs 0 0 Q (F0 m 116 ls [.int z0j116]) := by
            intro s_j116 z0j116 H locs h hP hD hS ls hl
            unfold wj_Mo_dispatch_116 at h
            exact hret _ _ _ _ _ _ _ ls h hP hD hS (Nat.le_refl _) (Nat.le_refl _) d_Mo_dispatch_116
          have J_103 : ∀ (s_j103 : St) (H : Heap) (locs : List Loc), wj_Mo_dispatch_103 y Post a0 s_j103 → va_P D CL (ws g ad y s_j103) H → va_D A (ws g ad y s_j103) → va_S A s.heap H locs → ∀ ls, lv_has ls 7 [(0, .ref (ad a0))] → W p l e ru_Mo_dispatch s m args below meth c H locs 0 0 Q (F0 m 103 ls []) := by
            intro s_j103 H locs h hP hD hS ls hl
            unfold wj_Mo_dispatch_103 at h
            refine lv_aload_n G.1 G.2.1 d_Mo_dispatch_103 rfl (lv_at hl 0 rfl) ?_
            refine lv_bipush (v := 58) G.1 G.2.1 d_Mo_dispatch_104 (by decide) ?_
            refine lv_bipush (v := 18) G.1 G.2.1 d_Mo_dispatch_106 (by decide) ?_
            refine ucVi (As := [.int 58, .int 18]) (rest := []) G hP hD hS (cu_Mo_fails l D g ad y _ s_j103 a0 58 18 H.size h_a0 h) w9_Mo_fails q3859 ⟨Nat.le_of_ble_eq_true rfl, Nat.le_of_ble_eq_true rfl⟩ rfl rfl h_a0 (q := (RMo, TMo, 131)) rfl rfl hl.1 rfl (Nat.le_of_ble_eq_true rfl) rfl ⟨Nat.le_refl _, Nat.le_refl _⟩ d_Mo_dispatch_108 (fun r_1 s_2 H locs h hP hD hS => ?_)
            refine lv_goto (tgt := 116) G.1 G.2.1 d_Mo_dispatch_111 (by decide) ?_
            exact J_116 s_2 r_1 H locs h hP hD hS ls (lv_sub hl [] rfl)
          refine lv_if_lt (tgt := 103) G.1 G.2.1 d_Mo_dispatch_84 (by decide) (fun c84 => ?_) (fun c84 => ?_)
          · skip
            have h := h.1 c84
            exact J_103 s_j82 H locs h hP hD hS ls (lv_sub hl [0] rfl)
          · skip
            have h := h.2 c84
            refine lv_aload_n G.1 G.2.1 d_Mo_dispatch_87 rfl (lv_at hl 0 rfl) ?_
            obtain ⟨b_3, e_4, c_5, h⟩ := h
            refine ugf (v := .ref (ad b_3)) G hP h_a0 iMo rfl 45 (by decide) rfl q3109 rfl (by show va_rf ((sO s_j82 a0 45).map ad) = _; rw [e_4]; rfl) d_Mo_dispatch_88 ?_
            refine ugfN (v := .ref (yP y b_3 20)) G hP c_5 iMw rfl 20 (by decide) rfl q2744 rfl rfl d_Mo_dispatch_91 ?_
            refine lv_iload G.1 G.2.1 d_Mo_dispatch_94 (lv_at hl 1 rfl) ?_
            refine uiald G hP (kdp c_5 rfl) (typ c_5 rfl) h d_Mo_dispatch_96 (fun x_6 h => ?_)
            refine lv_bipush (v := 8) G.1 G.2.1 d_Mo_dispatch_97 (by decide) ?_
            refine lv_iand G.1 G.2.1 d_Mo_dispatch_99 ?_
            refine lv_if_eq (tgt := 114) G.1 G.2.1 d_Mo_dispatch_100 (by decide) (fun c100 => ?_) (fun c100 => ?_)
            · skip
              have h := h.1 c100
              refine lv_iload G.1 G.2.1 d_Mo_dispatch_114 (lv_at hl 1 rfl) ?_
              exact J_116 s_j82 x4j82 H locs h hP hD hS ls (lv_sub hl [] rfl)
            · skip
              have h := h.2 c100
              exact J_103 s_j82 H locs h hP hD hS ls (lv_sub hl [0] rfl)
        refine lv_if_ge (tgt := 82) G.1 G.2.1 d_Mo_dispatch_69 (by decide) (fun c69 => ?_) (fun c69 => ?_)
        · skip
          have h := h.1 c69
          exact J_82 s_j67 x4j67 H locs h hP hD hS ls (lv_sub hl [0, 4] rfl)
        · skip
          have h := h.2 c69
          refine lv_aload_n G.1 G.2.1 d_Mo_dispatch_72 rfl (lv_at hl 0 rfl) ?_
          refine lv_iload_n G.1 G.2.1 d_Mo_dispatch_73 rfl (lv_at hl 1 rfl) ?_
          refine lv_iload_n G.1 G.2.1 d_Mo_dispatch_74 rfl (lv_at hl 2 rfl) ?_
          refine lv_iload_n G.1 G.2.1 d_Mo_dispatch_75 rfl (lv_at hl 3 rfl) ?_
          refine lv_iconst (v := 1) G.1 G.2.1 d_Mo_dispatch_76 (by decide) ?_
          refine ucVi (As := [.int x1j67, .int x2j67, .int x3j67, .int 1]) (rest := []) G hP hD hS (cu_Mo_inFaces l D g ad y _ s_j67 a0 x1j67 x2j67 x3j67 1 H.size h_a0 h) w9_Mo_inFaces q3863 ⟨Nat.le_of_ble_eq_true rfl, Nat.le_of_ble_eq_true rfl⟩ rfl rfl h_a0 (q := (RMo, TMo, 131)) rfl rfl hl.1 rfl (Nat.le_of_ble_eq_true rfl) rfl ⟨Nat.le_refl _, Nat.le_refl _⟩ d_Mo_dispatch_77 (fun r_7 s_8 H locs h hP hD hS => ?_)
          refine lv_istore (lv' := [(4, .int r_7), (0, .ref (ad a0)), (1, .int x1j67), (2, .int x2j67), (3, .int x3j67)]) G.1 G.2.1 d_Mo_dispatch_80 hl (by decide) rfl (fun ls hl => ?_)
          exact J_82 s_8 r_7 H locs h hP hD hS ls (lv_sub hl [1, 0] rfl)
      refine lv_if_lt (tgt := 67) G.1 G.2.1 d_Mo_dispatch_9 (by decide) (fun c9 => ?_) (fun c9 => ?_)
      · skip
        have h := h.1 c9
        exact J_67 s_h7 x1h7 x2h7 x3h7 x4h7 H locs h hP hD hS ls (lv_sub hl [0, 1, 2, 3, 4] rfl)
      · skip
        have h := h.2 c9
        refine lv_iload G.1 G.2.1 d_Mo_dispatch_12 (lv_at hl 4 rfl) ?_
        refine lv_if_ge (tgt := 67) G.1 G.2.1 d_Mo_dispatch_14 (by decide) (fun c14 => ?_) (fun c14 => ?_)
        · skip
          have h := h.1 c14
          exact J_67 s_h7 x1h7 x2h7 x3h7 x4h7 H locs h hP hD hS ls (lv_sub hl [0, 1, 2, 3, 4] rfl)
        · skip
          have h := h.2 c14
          refine lv_aload_n G.1 G.2.1 d_Mo_dispatch_17 rfl (lv_at hl 0 rfl) ?_
          refine lv_iload G.1 G.2.1 d_Mo_dispatch_18 (lv_at hl 5 rfl) ?_
          refine lv_iload_n G.1 G.2.1 d_Mo_dispatch_20 rfl (lv_at hl 2 rfl) ?_
          refine lv_iload_n G.1 G.2.1 d_Mo_dispatch_21 rfl (lv_at hl 3 rfl) ?_
          refine ucVi (As := [.int x5h7, .int x2h7, .int x3h7]) (rest := []) G hP hD hS (cu_Mo_methodIn l D g ad y _ s_h7 a0 x5h7 x2h7 x3h7 H.size h_a0 h) w9_Mo_methodIn q3697 ⟨Nat.le_of_ble_eq_true rfl, Nat.le_of_ble_eq_true rfl⟩ rfl rfl h_a0 (q := (RMo, TMo, 131)) rfl rfl hl.1 rfl (Nat.le_of_ble_eq_true rfl) rfl ⟨Nat.le_refl _, Nat.le_refl _⟩ d_Mo_dispatch_22 (fun r_9 s_10 H locs h hP hD hS => ?_)
          refine lv_istore (lv' := [(6, .int r_9), (0, .ref (ad a0)), (1, .int x1h7), (2, .int x2h7), (3, .int x3h7), (4, .int x4h7), (5, .int x5h7)]) G.1 G.2.1 d_Mo_dispatch_25 hl (by decide) rfl (fun ls hl => ?_)
          refine lv_iload G.1 G.2.1 d_Mo_dispatch_27 (lv_at hl 0 rfl) ?_
          have J_54 : ∀ (s_j54 : St) (x1j54 : Int32) (x2j54 : Int32) (x3j54 : Int32) (x5j54 : Int32) (z0j54 : Int32) (H : Heap) (locs : List Loc), wj_Mo_dispatch_54 y Post K_7 a0 s_j54 x1j54 x2j54 x3j54 x5j54 z0j54 → va_P D CL (ws g ad y s_j54) H → va_D A (ws g ad y s_j54) → va_S A s.heap H locs → ∀ ls, lv_has ls 7 [(0, .ref (ad a0)), (1, .int x1j54), (2, .int x2j54), (3, .int x3j54), (5, .int x5j54)] → W p l e ru_Mo_dispatch s m args below meth c H locs 0 0 Q (F0 m 54 ls [.int z0j54]) := by
            intro s_j54 x1j54 x2j54 x3j54 x5j54 z0j54 H locs h hP hD hS ls hl
            unfold wj_Mo_dispatch_54 at h
            refine lv_istore (lv' := [(4, .int z0j54), (0, .ref (ad a0)), (1, .int x1j54), (2, .int x2j54), (3, .int x3j54), (5, .int x5j54)]) G.1 G.2.1 d_Mo_dispatch_54 hl (by decide) rfl (fun ls hl => ?_)
            refine lv_aload_n G.1 G.2.1 d_Mo_dispatch_56 rfl (lv_at hl 1 rfl) ?_
            refine lv_iload G.1 G.2.1 d_Mo_dispatch_57 (lv_at hl 5 rfl) ?_
            refine ucVi (As := [.int x5j54]) (rest := []) G hP hD hS (cu_Mo_parentOf l D g ad y _ s_j54 a0 x5j54 H.size h_a0 h) w9_Mo_parentOf q3689 ⟨Nat.le_of_ble_eq_true rfl, Nat.le_of_ble_eq_true rfl⟩ rfl rfl h_a0 (q := (RMo, TMo, 131)) rfl rfl hl.1 rfl (Nat.le_of_ble_eq_true rfl) rfl ⟨Nat.le_refl _, Nat.le_refl _⟩ d_Mo_dispatch_59 (fun r_11 s_12 H locs h hP hD hS => ?_)
            refine lv_istore (lv' := [(5, .int r_11), (4, .int z0j54), (0, .ref (ad a0)), (1, .int x1j54), (2, .int x2j54), (3, .int x3j54)]) G.1 G.2.1 d_Mo_dispatch_62 hl (by decide) rfl (fun ls hl => ?_)
            refine lv_goto (tgt := 7) G.1 G.2.1 d_Mo_dispatch_64 (by decide) ?_
            have h := hK_7 s_12 x1j54 x2j54 x3j54 z0j54 r_11 h
            exact ih_7 s_12 x1j54 x2j54 x3j54 z0j54 r_11 (Nat.lt_of_lt_of_le h.2 (Nat.le_of_lt_succ hμ_7)) h.1 H locs hP hD hS ls (lv_sub hl [2, 3, 4, 5, 1, 0] rfl)
          have J_52 : ∀ (s_j52 : St) (x1j52 : Int32) (x2j52 : Int32) (x3j52 : Int32) (x5j52 : Int32) (H : Heap) (locs : List Loc), wj_Mo_dispatch_52 y Post K_7 a0 s_j52 x1j52 x2j52 x3j52 x5j52 → va_P D CL (ws g ad y s_j52) H → va_D A (ws g ad y s_j52) → va_S A s.heap H locs → ∀ ls, lv_has ls 7 [(0, .ref (ad a0)), (1, .int x1j52), (2, .int x2j52), (3, .int x3j52), (5, .int x5j52)] → W p l e ru_Mo_dispatch s m args below meth c H locs 0 0 Q (F0 m 52 ls []) := by
            intro s_j52 x1j52 x2j52 x3j52 x5j52 H locs h hP hD hS ls hl
            unfold wj_Mo_dispatch_52 at h
            refine lv_bipush (v := (-2)) G.1 G.2.1 d_Mo_dispatch_52 (by decide) ?_
            exact J_54 s_j52 x1j52 x2j52 x3j52 x5j52 (-2) H locs h hP hD hS ls (lv_sub hl [0, 1, 2, 3, 4] rfl)
          refine W.eq (g2 := F0 m 29 ls [.int r_9]) rfl ?_
          refine lv_if_lt (tgt := 52) G.1 G.2.1 d_Mo_dispatch_29 (by decide) (fun c29 => ?_) (fun c29 => ?_)
          · skip
            have h := h.1 c29
            exact J_52 s_10 x1h7 x2h7 x3h7 x5h7 H locs h hP hD hS ls (lv_sub hl [1, 2, 3, 4, 6] rfl)
          · skip
            have h := h.2 c29
            refine lv_aload_n G.1 G.2.1 d_Mo_dispatch_32 rfl (lv_at hl 1 rfl) ?_
            obtain ⟨b_13, e_14, c_15, h⟩ := h
            refine ugf (v := .ref (ad b_13)) G hP h_a0 iMo rfl 45 (by decide) rfl q3109 rfl (by show va_rf ((sO s_10 a0 45).map ad) = _; rw [e_14]; rfl) d_Mo_dispatch_33 ?_
            refine ugfN (v := .ref (yP y b_13 20)) G hP c_15 iMw rfl 20 (by decide) rfl q2744 rfl rfl d_Mo_dispatch_36 ?_
            refine lv_iload G.1 G.2.1 d_Mo_dispatch_39 (lv_at hl 0 rfl) ?_
            refine uiald G hP (kdp c_15 rfl) (typ c_15 rfl) h d_Mo_dispatch_41 (fun x_16 h => ?_)
            refine lv_iconst (v := 5) G.1 G.2.1 d_Mo_dispatch_42 (by decide) ?_
            refine lv_iand G.1 G.2.1 d_Mo_dispatch_43 ?_
            refine lv_if_ne (tgt := 52) G.1 G.2.1 d_Mo_dispatch_44 (by decide) (fun c44 => ?_) (fun c44 => ?_)
            · skip
              have h := h.1 c44
              exact J_52 s_10 x1h7 x2h7 x3h7 x5h7 H locs h hP hD hS ls (lv_sub hl [1, 2, 3, 4, 6] rfl)
            · skip
              have h := h.2 c44
              refine lv_iload G.1 G.2.1 d_Mo_dispatch_47 (lv_at hl 0 rfl) ?_
              refine lv_goto (tgt := 54) G.1 G.2.1 d_Mo_dispatch_49 (by decide) ?_
              exact J_54 s_10 x1h7 x2h7 x3h7 x5h7 r_9 H locs h hP hD hS ls (lv_sub hl [1, 2, 3, 4, 6] rfl)
  exact L_7 _ σ v1 v2 v3 (-2) v1 (Nat.lt_succ_self _) hI_7 H locs hP hD hS ls (lv_sub hl [2, 3, 4, 5, 1, 0] rfl)
theorem q3851 : Cond.methodLink "ClassWorksModel" 1019 y_Mo_findMethod ∈ lw_ok := lw_okmem (List.mem_of_getElem? (i := 3851) (by decide +kernel)) rfl
theorem q3854 : Cond.code y_Mo_findMethod b_Mo_findMethod 10 (some .int) ∈ lw_ok := lw_okmem (List.mem_of_getElem? (i := 3854) (by decide +kernel)) rfl
theorem q3853 : Cond.instanceMethod y_Mo_findMethod ∈ lw_ok := lw_okmem (List.mem_of_getElem? (i := 3853) (by decide +kernel)) rfl
theorem q252 : Cond.selects y_Mo_findMethod.cls y_Mo_findMethod y_Mo_findMethod ∈ lw_ok := lw_okmem (List.mem_of_getElem? (i := 252) (by decide +kernel)) rfl
theorem w9_Mo_findMethod : CWv y_Mo_findMethod b_Mo_findMethod 10 (some .int) 5 ∧ Cond.instanceMethod y_Mo_findMethod ∈ lw_ok ∧ Cond.selects y_Mo_findMethod.cls y_Mo_findMethod y_Mo_findMethod ∈ lw_ok := ⟨⟨q3854, q348, by decide +kernel, by decide +kernel, by decide +kernel⟩, q3853, q252⟩
theorem q3967 : Cond.methodLink "ClassWorksModel" 1096 y_Mo_dispatch ∈ lw_ok := lw_okmem (List.mem_of_getElem? (i := 3967) (by decide +kernel)) rfl
theorem q3970 : Cond.code y_Mo_dispatch b_Mo_dispatch 7 (some .int) ∈ lw_ok := lw_okmem (List.mem_of_getElem? (i := 3970) (by decide +kernel)) rfl
theorem q3969 : Cond.instanceMethod y_Mo_dispatch ∈ lw_ok := lw_okmem (List.mem_of_getElem? (i := 3969) (by decide +kernel)) rfl
theorem q281 : Cond.selects y_Mo_dispatch.cls y_Mo_dispatch y_Mo_dispatch ∈ lw_ok := lw_okmem (List.mem_of_getElem? (i := 281) (by decide +kernel)) rfl
theorem w9_Mo_dispatch : CWv y_Mo_dispatch b_Mo_dispatch 7 (some .int) 3 ∧ Cond.instanceMethod y_Mo_dispatch ∈ lw_ok ∧ Cond.selects y_Mo_dispatch.cls y_Mo_dispatch y_Mo_dispatch ∈ lw_ok := ⟨⟨q3970, q348, by decide +kernel, by decide +kernel, by decide +kernel⟩, q3969, q281⟩
def y_Mo_callStep : MethodName := ⟨"ClassWorksModel", "callStep", "(IIII)I"⟩
abbrev b_Mo_callStep : ByteArray := prog_14_method_120_code
theorem d_Mo_callStep_0 : decode b_Mo_callStep 0 = .ok (.aload_n 0, 1) := by decide +kernel
theorem d_Mo_callStep_1 : decode b_Mo_callStep 1 = .ok (.getfield 522, 3) := by decide +kernel
theorem d_Mo_callStep_4 : decode b_Mo_callStep 4 = .ok (.getfield 680, 3) := by decide +kernel
theorem d_Mo_callStep_7 : decode b_Mo_callStep 7 = .ok (.iload_n 3, 1) := by decide +kernel
theorem d_Mo_callStep_8 : decode b_Mo_callStep 8 = .ok (.iaload, 1) := by decide +kernel
theorem d_Mo_callStep_9 : decode b_Mo_callStep 9 = .ok (.istore 5, 2) := by decide +kernel
theorem d_Mo_callStep_11 : decode b_Mo_callStep 11 = .ok (.aload_n 0, 1) := by decide +kernel
theorem d_Mo_callStep_12 : decode b_Mo_callStep 12 = .ok (.getfield 522, 3) := by decide +kernel
theorem d_Mo_callStep_15 : decode b_Mo_callStep 15 = .ok (.getfield 683, 3) := by decide +kernel
theorem d_Mo_callStep_18 : decode b_Mo_callStep 18 = .ok (.iload_n 3, 1) := by decide +kernel
theorem d_Mo_callStep_19 : decode b_Mo_callStep 19 = .ok (.iaload, 1) := by decide +kernel
theorem d_Mo_callStep_20 : decode b_Mo_callStep 20 = .ok (.istore 6, 2) := by decide +kernel
theorem d_Mo_callStep_22 : decode b_Mo_callStep 22 = .ok (.aload_n 0, 1) := by decide +kernel
theorem d_Mo_callStep_23 : decode b_Mo_callStep 23 = .ok (.iload 4, 2) := by decide +kernel
theorem d_Mo_callStep_25 : decode b_Mo_callStep 25 = .ok (.aload_n 0, 1) := by decide +kernel
theorem d_Mo_callStep_26 : decode b_Mo_callStep 26 = .ok (.getfield 522, 3) := by decide +kernel
theorem d_Mo_callStep_29 : decode b_Mo_callStep 29 = .ok (.getfield 677, 3) := by decide +kernel
theorem d_Mo_callStep_32 : decode b_Mo_callStep 32 = .ok (.iload_n 3, 1) := by decide +kernel
theorem d_Mo_callStep_33 : decode b_Mo_callStep 33 = .ok (.iaload, 1) := by decide +kernel
theorem d_Mo_callStep_34 : decode b_Mo_callStep 34 = .ok (.iload 5, 2) := by decide +kernel
theorem d_Mo_callStep_36 : decode b_Mo_callStep 36 = .ok (.iload 6, 2) := by decide +kernel
theorem d_Mo_callStep_38 : decode b_Mo_callStep 38 = .ok (.iload_n 2, 1) := by decide +kernel
theorem d_Mo_callStep_39 : decode b_Mo_callStep 39 = .ok (.bipush 12, 2) := by decide +kernel
theorem d_Mo_callStep_41 : decode b_Mo_callStep 41 = .ok (.idiv, 1) := by decide +kernel
theorem d_Mo_callStep_42 : decode b_Mo_callStep 42 = .ok (.invokevirtual 1019, 3) := by decide +kernel
theorem d_Mo_callStep_45 : decode b_Mo_callStep 45 = .ok (.istore 7, 2) := by decide +kernel
theorem d_Mo_callStep_47 : decode b_Mo_callStep 47 = .ok (.iload 7, 2) := by decide +kernel
theorem d_Mo_callStep_49 : decode b_Mo_callStep 49 = .ok (.ifCond .ge 18, 3) := by decide +kernel
theorem d_Mo_callStep_52 : decode b_Mo_callStep 52 = .ok (.aload_n 0, 1) := by decide +kernel
theorem d_Mo_callStep_53 : decode b_Mo_callStep 53 = .ok (.iload 4, 2) := by decide +kernel
theorem d_Mo_callStep_55 : decode b_Mo_callStep 55 = .ok (.aload_n 0, 1) := by decide +kernel
theorem d_Mo_callStep_56 : decode b_Mo_callStep 56 = .ok (.getfield 844, 3) := by decide +kernel
theorem d_Mo_callStep_59 : decode b_Mo_callStep 59 = .ok (.aload_n 0, 1) := by decide +kernel
theorem d_Mo_callStep_60 : decode b_Mo_callStep 60 = .ok (.getfield 847, 3) := by decide +kernel
theorem d_Mo_callStep_63 : decode b_Mo_callStep 63 = .ok (.invokevirtual 1075, 3) := by decide +kernel
theorem d_Mo_callStep_66 : decode b_Mo_callStep 66 = .ok (.ireturn, 1) := by decide +kernel
theorem d_Mo_callStep_67 : decode b_Mo_callStep 67 = .ok (.aload_n 0, 1) := by decide +kernel
theorem d_Mo_callStep_68 : decode b_Mo_callStep 68 = .ok (.getfield 80, 3) := by decide +kernel
theorem d_Mo_callStep_71 : decode b_Mo_callStep 71 = .ok (.iload 6, 2) := by decide +kernel
theorem d_Mo_callStep_73 : decode b_Mo_callStep 73 = .ok (.iaload, 1) := by decide +kernel
theorem d_Mo_callStep_74 : decode b_Mo_callStep 74 = .ok (.istore 8, 2) := by decide +kernel
theorem d_Mo_callStep_76 : decode b_Mo_callStep 76 = .ok (.iload 4, 2) := by decide +kernel
theorem d_Mo_callStep_78 : decode b_Mo_callStep 78 = .ok (.bipush 52, 2) := by decide +kernel
theorem d_Mo_callStep_80 : decode b_Mo_callStep 80 = .ok (.if_icmp .ne 54, 3) := by decide +kernel
theorem d_Mo_callStep_83 : decode b_Mo_callStep 83 = .ok (.aload_n 0, 1) := by decide +kernel
theorem d_Mo_callStep_84 : decode b_Mo_callStep 84 = .ok (.iload 7, 2) := by decide +kernel
theorem d_Mo_callStep_86 : decode b_Mo_callStep 86 = .ok (.bipush 12, 2) := by decide +kernel
theorem d_Mo_callStep_88 : decode b_Mo_callStep 88 = .ok (.idiv, 1) := by decide +kernel
theorem d_Mo_callStep_89 : decode b_Mo_callStep 89 = .ok (.invokevirtual 998, 3) := by decide +kernel
theorem d_Mo_callStep_92 : decode b_Mo_callStep 92 = .ok (.istore 9, 2) := by decide +kernel
theorem d_Mo_callStep_94 : decode b_Mo_callStep 94 = .ok (.iload 9, 2) := by decide +kernel
theorem d_Mo_callStep_96 : decode b_Mo_callStep 96 = .ok (.ifCond .eq 38, 3) := by decide +kernel
theorem d_Mo_callStep_99 : decode b_Mo_callStep 99 = .ok (.iload 9, 2) := by decide +kernel
theorem d_Mo_callStep_101 : decode b_Mo_callStep 101 = .ok (.iconst 3, 1) := by decide +kernel
theorem d_Mo_callStep_102 : decode b_Mo_callStep 102 = .ok (.if_icmp .ne 20, 3) := by decide +kernel
theorem d_Mo_callStep_105 : decode b_Mo_callStep 105 = .ok (.aload_n 0, 1) := by decide +kernel
theorem d_Mo_callStep_106 : decode b_Mo_callStep 106 = .ok (.iload 4, 2) := by decide +kernel
theorem d_Mo_callStep_108 : decode b_Mo_callStep 108 = .ok (.aload_n 0, 1) := by decide +kernel
theorem d_Mo_callStep_109 : decode b_Mo_callStep 109 = .ok (.getfield 844, 3) := by decide +kernel
theorem d_Mo_callStep_112 : decode b_Mo_callStep 112 = .ok (.aload_n 0, 1) := by decide +kernel
theorem d_Mo_callStep_113 : decode b_Mo_callStep 113 = .ok (.getfield 847, 3) := by decide +kernel
theorem d_Mo_callStep_116 : decode b_Mo_callStep 116 = .ok (.invokevirtual 1075, 3) := by decide +kernel
theorem d_Mo_callStep_119 : decode b_Mo_callStep 119 = .ok (.goto 14, 3) := by decide +kernel
theorem d_Mo_callStep_122 : decode b_Mo_callStep 122 = .ok (.iload 9, 2) := by decide +kernel
theorem d_Mo_callStep_124 : decode b_Mo_callStep 124 = .ok (.iconst 2, 1) := by decide +kernel
theorem d_Mo_callStep_125 : decode b_Mo_callStep 125 = .ok (.if_icmp .ne 7, 3) := by decide +kernel
theorem d_Mo_callStep_128 : decode b_Mo_callStep 128 = .ok (.iconst 2, 1) := by decide +kernel
theorem d_Mo_callStep_129 : decode b_Mo_callStep 129 = .ok (.goto 4, 3) := by decide +kernel
theorem d_Mo_callStep_132 : decode b_Mo_callStep 132 = .ok (.iconst 0, 1) := by decide +kernel
theorem d_Mo_callStep_133 : decode b_Mo_callStep 133 = .ok (.ireturn, 1) := by decide +kernel
theorem d_Mo_callStep_134 : decode b_Mo_callStep 134 = .ok (.aload_n 0, 1) := by decide +kernel
theorem d_Mo_callStep_135 : decode b_Mo_callStep 135 = .ok (.iload 4, 2) := by decide +kernel
theorem d_Mo_callStep_137 : decode b_Mo_callStep 137 = .ok (.invokevirtual 1032, 3) := by decide +kernel
theorem d_Mo_callStep_140 : decode b_Mo_callStep 140 = .ok (.iload 8, 2) := by decide +kernel
theorem d_Mo_callStep_142 : decode b_Mo_callStep 142 = .ok (.iload 4, 2) := by decide +kernel
theorem d_Mo_callStep_144 : decode b_Mo_callStep 144 = .ok (.bipush 52, 2) := by decide +kernel
theorem d_Mo_callStep_146 : decode b_Mo_callStep 146 = .ok (.if_icmp .ne 7, 3) := by decide +kernel
theorem d_Mo_callStep_149 : decode b_Mo_callStep 149 = .ok (.iconst 0, 1) := by decide +kernel
theorem d_Mo_callStep_150 : decode b_Mo_callStep 150 = .ok (.goto 4, 3) := by decide +kernel
theorem d_Mo_callStep_153 : decode b_Mo_callStep 153 = .ok (.iconst 1, 1) := by decide +kernel
theorem d_Mo_callStep_154 : decode b_Mo_callStep 154 = .ok (.iadd, 1) := by decide +kernel
theorem d_Mo_callStep_155 : decode b_Mo_callStep 155 = .ok (.istore 9, 2) := by decide +kernel
theorem d_Mo_callStep_157 : decode b_Mo_callStep 157 = .ok (.bipush 44, 2) := by decide +kernel
theorem d_Mo_callStep_159 : decode b_Mo_callStep 159 = .ok (.iload_n 1, 1) := by decide +kernel
theorem d_Mo_callStep_160 : decode b_Mo_callStep 160 = .ok (.imul, 1) := by decide +kernel
theorem d_Mo_callStep_161 : decode b_Mo_callStep 161 = .ok (.bipush 20, 2) := by decide +kernel
theorem d_Mo_callStep_163 : decode b_Mo_callStep 163 = .ok (.iadd, 1) := by decide +kernel
theorem d_Mo_callStep_164 : decode b_Mo_callStep 164 = .ok (.aload_n 0, 1) := by decide +kernel
theorem d_Mo_callStep_165 : decode b_Mo_callStep 165 = .ok (.getfield 917, 3) := by decide +kernel
theorem d_Mo_callStep_168 : decode b_Mo_callStep 168 = .ok (.getfield 933, 3) := by decide +kernel
theorem d_Mo_callStep_171 : decode b_Mo_callStep 171 = .ok (.iload_n 1, 1) := by decide +kernel
theorem d_Mo_callStep_172 : decode b_Mo_callStep 172 = .ok (.iaload, 1) := by decide +kernel
theorem d_Mo_callStep_173 : decode b_Mo_callStep 173 = .ok (.iadd, 1) := by decide +kernel
theorem d_Mo_callStep_174 : decode b_Mo_callStep 174 = .ok (.iload 9, 2) := by decide +kernel
theorem d_Mo_callStep_176 : decode b_Mo_callStep 176 = .ok (.isub, 1) := by decide +kernel
theorem d_Mo_callStep_177 : decode b_Mo_callStep 177 = .ok (.istore 10, 2) := by decide +kernel
theorem d_Mo_callStep_179 : decode b_Mo_callStep 179 = .ok (.iload 4, 2) := by decide +kernel
theorem d_Mo_callStep_181 : decode b_Mo_callStep 181 = .ok (.bipush 52, 2) := by decide +kernel
theorem d_Mo_callStep_183 : decode b_Mo_callStep 183 = .ok (.if_icmp .eq 128, 3) := by decide +kernel
theorem d_Mo_callStep_186 : decode b_Mo_callStep 186 = .ok (.aload_n 0, 1) := by decide +kernel
theorem d_Mo_callStep_187 : decode b_Mo_callStep 187 = .ok (.getfield 917, 3) := by decide +kernel
theorem d_Mo_callStep_190 : decode b_Mo_callStep 190 = .ok (.getfield 936, 3) := by decide +kernel
theorem d_Mo_callStep_193 : decode b_Mo_callStep 193 = .ok (.iload 10, 2) := by decide +kernel
theorem d_Mo_callStep_195 : decode b_Mo_callStep 195 = .ok (.iaload, 1) := by decide +kernel
theorem d_Mo_callStep_196 : decode b_Mo_callStep 196 = .ok (.istore 11, 2) := by decide +kernel
theorem d_Mo_callStep_198 : decode b_Mo_callStep 198 = .ok (.iload 11, 2) := by decide +kernel
theorem d_Mo_callStep_200 : decode b_Mo_callStep 200 = .ok (.ifCond .ne 11, 3) := by decide +kernel
theorem d_Mo_callStep_203 : decode b_Mo_callStep 203 = .ok (.aload_n 0, 1) := by decide +kernel
theorem d_Mo_callStep_204 : decode b_Mo_callStep 204 = .ok (.iconst 0, 1) := by decide +kernel
theorem d_Mo_callStep_205 : decode b_Mo_callStep 205 = .ok (.iconst 2, 1) := by decide +kernel
theorem d_Mo_callStep_206 : decode b_Mo_callStep 206 = .ok (.invokevirtual 1001, 3) := by decide +kernel
theorem d_Mo_callStep_209 : decode b_Mo_callStep 209 = .ok (.iconst 1, 1) := by decide +kernel
theorem d_Mo_callStep_210 : decode b_Mo_callStep 210 = .ok (.ireturn, 1) := by decide +kernel
theorem d_Mo_callStep_211 : decode b_Mo_callStep 211 = .ok (.iload 4, 2) := by decide +kernel
theorem d_Mo_callStep_213 : decode b_Mo_callStep 213 = .ok (.bipush 51, 2) := by decide +kernel
theorem d_Mo_callStep_215 : decode b_Mo_callStep 215 = .ok (.if_icmp .eq 96, 3) := by decide +kernel
theorem d_Mo_callStep_218 : decode b_Mo_callStep 218 = .ok (.aload_n 0, 1) := by decide +kernel
theorem d_Mo_callStep_219 : decode b_Mo_callStep 219 = .ok (.getfield 522, 3) := by decide +kernel
theorem d_Mo_callStep_222 : decode b_Mo_callStep 222 = .ok (.getfield 453, 3) := by decide +kernel
theorem d_Mo_callStep_225 : decode b_Mo_callStep 225 = .ok (.iload 7, 2) := by decide +kernel
theorem d_Mo_callStep_227 : decode b_Mo_callStep 227 = .ok (.iaload, 1) := by decide +kernel
theorem d_Mo_callStep_228 : decode b_Mo_callStep 228 = .ok (.iconst 4, 1) := by decide +kernel
theorem d_Mo_callStep_229 : decode b_Mo_callStep 229 = .ok (.iand, 1) := by decide +kernel
theorem d_Mo_callStep_230 : decode b_Mo_callStep 230 = .ok (.ifCond .ne 81, 3) := by decide +kernel
theorem d_Mo_callStep_233 : decode b_Mo_callStep 233 = .ok (.iload 4, 2) := by decide +kernel
theorem d_Mo_callStep_235 : decode b_Mo_callStep 235 = .ok (.bipush 53, 2) := by decide +kernel
theorem d_Mo_callStep_237 : decode b_Mo_callStep 237 = .ok (.if_icmp .ne 39, 3) := by decide +kernel
theorem d_Mo_callStep_240 : decode b_Mo_callStep 240 = .ok (.aload_n 0, 1) := by decide +kernel
theorem d_Mo_callStep_241 : decode b_Mo_callStep 241 = .ok (.aload_n 0, 1) := by decide +kernel
theorem d_Mo_callStep_242 : decode b_Mo_callStep 242 = .ok (.iload 11, 2) := by decide +kernel
theorem d_Mo_callStep_244 : decode b_Mo_callStep 244 = .ok (.invokevirtual 960, 3) := by decide +kernel
theorem d_Mo_callStep_247 : decode b_Mo_callStep 247 = .ok (.aload_n 0, 1) := by decide +kernel
theorem d_Mo_callStep_248 : decode b_Mo_callStep 248 = .ok (.aload_n 0, 1) := by decide +kernel
theorem d_Mo_callStep_249 : decode b_Mo_callStep 249 = .ok (.getfield 522, 3) := by decide +kernel
theorem d_Mo_callStep_252 : decode b_Mo_callStep 252 = .ok (.getfield 677, 3) := by decide +kernel
theorem d_Mo_callStep_255 : decode b_Mo_callStep 255 = .ok (.iload_n 3, 1) := by decide +kernel
theorem d_Mo_callStep_256 : decode b_Mo_callStep 256 = .ok (.iaload, 1) := by decide +kernel
theorem d_Mo_callStep_257 : decode b_Mo_callStep 257 = .ok (.invokevirtual 601, 3) := by decide +kernel
theorem d_Mo_callStep_260 : decode b_Mo_callStep 260 = .ok (.invokevirtual 963, 3) := by decide +kernel
theorem d_Mo_callStep_263 : decode b_Mo_callStep 263 = .ok (.ifCond .ne 13, 3) := by decide +kernel
theorem d_Mo_callStep_266 : decode b_Mo_callStep 266 = .ok (.aload_n 0, 1) := by decide +kernel
theorem d_Mo_callStep_267 : decode b_Mo_callStep 267 = .ok (.bipush 59, 2) := by decide +kernel
theorem d_Mo_callStep_269 : decode b_Mo_callStep 269 = .ok (.bipush 15, 2) := by decide +kernel
theorem d_Mo_callStep_271 : decode b_Mo_callStep 271 = .ok (.invokevirtual 1001, 3) := by decide +kernel
theorem d_Mo_callStep_274 : decode b_Mo_callStep 274 = .ok (.iconst 1, 1) := by decide +kernel
theorem d_Mo_callStep_275 : decode b_Mo_callStep 275 = .ok (.ireturn, 1) := by decide +kernel
theorem d_Mo_callStep_276 : decode b_Mo_callStep 276 = .ok (.aload_n 0, 1) := by decide +kernel
theorem d_Mo_callStep_277 : decode b_Mo_callStep 277 = .ok (.aload_n 0, 1) := by decide +kernel
theorem d_Mo_callStep_278 : decode b_Mo_callStep 278 = .ok (.iload 11, 2) := by decide +kernel
theorem d_Mo_callStep_280 : decode b_Mo_callStep 280 = .ok (.invokevirtual 960, 3) := by decide +kernel
theorem d_Mo_callStep_283 : decode b_Mo_callStep 283 = .ok (.iload 5, 2) := by decide +kernel
theorem d_Mo_callStep_285 : decode b_Mo_callStep 285 = .ok (.iload 6, 2) := by decide +kernel
theorem d_Mo_callStep_287 : decode b_Mo_callStep 287 = .ok (.invokevirtual 1096, 3) := by decide +kernel
theorem d_Mo_callStep_290 : decode b_Mo_callStep 290 = .ok (.istore 7, 2) := by decide +kernel
theorem d_Mo_callStep_292 : decode b_Mo_callStep 292 = .ok (.iload 7, 2) := by decide +kernel
theorem d_Mo_callStep_294 : decode b_Mo_callStep 294 = .ok (.ifCond .ge 17, 3) := by decide +kernel
theorem d_Mo_callStep_297 : decode b_Mo_callStep 297 = .ok (.aload_n 0, 1) := by decide +kernel
theorem d_Mo_callStep_298 : decode b_Mo_callStep 298 = .ok (.aload_n 0, 1) := by decide +kernel
theorem d_Mo_callStep_299 : decode b_Mo_callStep 299 = .ok (.getfield 844, 3) := by decide +kernel
theorem d_Mo_callStep_302 : decode b_Mo_callStep 302 = .ok (.aload_n 0, 1) := by decide +kernel
theorem d_Mo_callStep_303 : decode b_Mo_callStep 303 = .ok (.getfield 847, 3) := by decide +kernel
theorem d_Mo_callStep_306 : decode b_Mo_callStep 306 = .ok (.invokevirtual 1001, 3) := by decide +kernel
theorem d_Mo_callStep_309 : decode b_Mo_callStep 309 = .ok (.iconst 1, 1) := by decide +kernel
theorem d_Mo_callStep_310 : decode b_Mo_callStep 310 = .ok (.ireturn, 1) := by decide +kernel
theorem d_Mo_callStep_311 : decode b_Mo_callStep 311 = .ok (.iload 7, 2) := by decide +kernel
theorem d_Mo_callStep_313 : decode b_Mo_callStep 313 = .ok (.bipush 12, 2) := by decide +kernel
theorem d_Mo_callStep_315 : decode b_Mo_callStep 315 = .ok (.idiv, 1) := by decide +kernel
theorem d_Mo_callStep_316 : decode b_Mo_callStep 316 = .ok (.bipush 21, 2) := by decide +kernel
theorem d_Mo_callStep_318 : decode b_Mo_callStep 318 = .ok (.if_icmp .ge 32, 3) := by decide +kernel
theorem d_Mo_callStep_321 : decode b_Mo_callStep 321 = .ok (.aload_n 0, 1) := by decide +kernel
theorem d_Mo_callStep_322 : decode b_Mo_callStep 322 = .ok (.getfield 917, 3) := by decide +kernel
theorem d_Mo_callStep_325 : decode b_Mo_callStep 325 = .ok (.getfield 933, 3) := by decide +kernel
theorem d_Mo_callStep_328 : decode b_Mo_callStep 328 = .ok (.iload_n 1, 1) := by decide +kernel
theorem d_Mo_callStep_329 : decode b_Mo_callStep 329 = .ok (.dup2, 1) := by decide +kernel
theorem d_Mo_callStep_330 : decode b_Mo_callStep 330 = .ok (.iaload, 1) := by decide +kernel
theorem d_Mo_callStep_331 : decode b_Mo_callStep 331 = .ok (.iload 9, 2) := by decide +kernel
theorem d_Mo_callStep_333 : decode b_Mo_callStep 333 = .ok (.isub, 1) := by decide +kernel
theorem d_Mo_callStep_334 : decode b_Mo_callStep 334 = .ok (.iastore, 1) := by decide +kernel
theorem d_Mo_callStep_335 : decode b_Mo_callStep 335 = .ok (.aload_n 0, 1) := by decide +kernel
theorem d_Mo_callStep_336 : decode b_Mo_callStep 336 = .ok (.getfield 917, 3) := by decide +kernel
theorem d_Mo_callStep_339 : decode b_Mo_callStep 339 = .ok (.getfield 930, 3) := by decide +kernel
theorem d_Mo_callStep_342 : decode b_Mo_callStep 342 = .ok (.iload_n 1, 1) := by decide +kernel
theorem d_Mo_callStep_343 : decode b_Mo_callStep 343 = .ok (.dup2, 1) := by decide +kernel
theorem d_Mo_callStep_344 : decode b_Mo_callStep 344 = .ok (.iaload, 1) := by decide +kernel
theorem d_Mo_callStep_345 : decode b_Mo_callStep 345 = .ok (.iconst 1, 1) := by decide +kernel
theorem d_Mo_callStep_346 : decode b_Mo_callStep 346 = .ok (.iadd, 1) := by decide +kernel
theorem d_Mo_callStep_347 : decode b_Mo_callStep 347 = .ok (.iastore, 1) := by decide +kernel
theorem d_Mo_callStep_348 : decode b_Mo_callStep 348 = .ok (.iconst 1, 1) := by decide +kernel
theorem d_Mo_callStep_349 : decode b_Mo_callStep 349 = .ok (.ireturn, 1) := by decide +kernel
theorem d_Mo_callStep_350 : decode b_Mo_callStep 350 = .ok (.aload_n 0, 1) := by decide +kernel
theorem d_Mo_callStep_351 : decode b_Mo_callStep 351 = .ok (.getfield 917, 3) := by decide +kernel
theorem d_Mo_callStep_354 : decode b_Mo_callStep 354 = .ok (.getfield 924, 3) := by decide +kernel
theorem d_Mo_callStep_357 : decode b_Mo_callStep 357 = .ok (.bipush 40, 2) := by decide +kernel
theorem d_Mo_callStep_359 : decode b_Mo_callStep 359 = .ok (.if_icmp .ne 12, 3) := by decide +kernel
theorem d_Mo_callStep_362 : decode b_Mo_callStep 362 = .ok (.aload_n 0, 1) := by decide +kernel
theorem d_Mo_callStep_363 : decode b_Mo_callStep 363 = .ok (.iconst 0, 1) := by decide +kernel
theorem d_Mo_callStep_364 : decode b_Mo_callStep 364 = .ok (.bipush 8, 2) := by decide +kernel
theorem d_Mo_callStep_366 : decode b_Mo_callStep 366 = .ok (.invokevirtual 1001, 3) := by decide +kernel
theorem d_Mo_callStep_369 : decode b_Mo_callStep 369 = .ok (.iconst 1, 1) := by decide +kernel
theorem d_Mo_callStep_370 : decode b_Mo_callStep 370 = .ok (.ireturn, 1) := by decide +kernel
theorem d_Mo_callStep_371 : decode b_Mo_callStep 371 = .ok (.aload_n 0, 1) := by decide +kernel
theorem d_Mo_callStep_372 : decode b_Mo_callStep 372 = .ok (.getfield 917, 3) := by decide +kernel
theorem d_Mo_callStep_375 : decode b_Mo_callStep 375 = .ok (.getfield 933, 3) := by decide +kernel
theorem d_Mo_callStep_378 : decode b_Mo_callStep 378 = .ok (.iload_n 1, 1) := by decide +kernel
theorem d_Mo_callStep_379 : decode b_Mo_callStep 379 = .ok (.dup2, 1) := by decide +kernel
theorem d_Mo_callStep_380 : decode b_Mo_callStep 380 = .ok (.iaload, 1) := by decide +kernel
theorem d_Mo_callStep_381 : decode b_Mo_callStep 381 = .ok (.iload 9, 2) := by decide +kernel
theorem d_Mo_callStep_383 : decode b_Mo_callStep 383 = .ok (.isub, 1) := by decide +kernel
theorem d_Mo_callStep_384 : decode b_Mo_callStep 384 = .ok (.iastore, 1) := by decide +kernel
theorem d_Mo_callStep_385 : decode b_Mo_callStep 385 = .ok (.aload_n 0, 1) := by decide +kernel
theorem d_Mo_callStep_386 : decode b_Mo_callStep 386 = .ok (.iload 7, 2) := by decide +kernel
theorem d_Mo_callStep_388 : decode b_Mo_callStep 388 = .ok (.invokevirtual 1004, 3) := by decide +kernel
theorem d_Mo_callStep_391 : decode b_Mo_callStep 391 = .ok (.bipush 44, 2) := by decide +kernel
theorem d_Mo_callStep_393 : decode b_Mo_callStep 393 = .ok (.iload_n 1, 1) := by decide +kernel
theorem d_Mo_callStep_394 : decode b_Mo_callStep 394 = .ok (.iconst 1, 1) := by decide +kernel
theorem d_Mo_callStep_395 : decode b_Mo_callStep 395 = .ok (.iadd, 1) := by decide +kernel
theorem d_Mo_callStep_396 : decode b_Mo_callStep 396 = .ok (.imul, 1) := by decide +kernel
theorem d_Mo_callStep_397 : decode b_Mo_callStep 397 = .ok (.istore 11, 2) := by decide +kernel
theorem d_Mo_callStep_399 : decode b_Mo_callStep 399 = .ok (.iconst 0, 1) := by decide +kernel
theorem d_Mo_callStep_400 : decode b_Mo_callStep 400 = .ok (.istore 12, 2) := by decide +kernel
theorem d_Mo_callStep_402 : decode b_Mo_callStep 402 = .ok (.iload 12, 2) := by decide +kernel
theorem d_Mo_callStep_404 : decode b_Mo_callStep 404 = .ok (.iload 9, 2) := by decide +kernel
theorem d_Mo_callStep_406 : decode b_Mo_callStep 406 = .ok (.if_icmp .ge 61, 3) := by decide +kernel
theorem d_Mo_callStep_409 : decode b_Mo_callStep 409 = .ok (.aload_n 0, 1) := by decide +kernel
theorem d_Mo_callStep_410 : decode b_Mo_callStep 410 = .ok (.getfield 917, 3) := by decide +kernel
theorem d_Mo_callStep_413 : decode b_Mo_callStep 413 = .ok (.getfield 936, 3) := by decide +kernel
theorem d_Mo_callStep_416 : decode b_Mo_callStep 416 = .ok (.iload 11, 2) := by decide +kernel
theorem d_Mo_callStep_418 : decode b_Mo_callStep 418 = .ok (.iload 12, 2) := by decide +kernel
theorem d_Mo_callStep_420 : decode b_Mo_callStep 420 = .ok (.iadd, 1) := by decide +kernel
theorem d_Mo_callStep_421 : decode b_Mo_callStep 421 = .ok (.aload_n 0, 1) := by decide +kernel
theorem d_Mo_callStep_422 : decode b_Mo_callStep 422 = .ok (.getfield 917, 3) := by decide +kernel
theorem d_Mo_callStep_425 : decode b_Mo_callStep 425 = .ok (.getfield 936, 3) := by decide +kernel
theorem d_Mo_callStep_428 : decode b_Mo_callStep 428 = .ok (.iload 10, 2) := by decide +kernel
theorem d_Mo_callStep_430 : decode b_Mo_callStep 430 = .ok (.iload 12, 2) := by decide +kernel
theorem d_Mo_callStep_432 : decode b_Mo_callStep 432 = .ok (.iadd, 1) := by decide +kernel
theorem d_Mo_callStep_433 : decode b_Mo_callStep 433 = .ok (.iaload, 1) := by decide +kernel
theorem d_Mo_callStep_434 : decode b_Mo_callStep 434 = .ok (.iastore, 1) := by decide +kernel
theorem d_Mo_callStep_435 : decode b_Mo_callStep 435 = .ok (.aload_n 0, 1) := by decide +kernel
theorem d_Mo_callStep_436 : decode b_Mo_callStep 436 = .ok (.getfield 917, 3) := by decide +kernel
theorem d_Mo_callStep_439 : decode b_Mo_callStep 439 = .ok (.getfield 939, 3) := by decide +kernel
theorem d_Mo_callStep_442 : decode b_Mo_callStep 442 = .ok (.iload 11, 2) := by decide +kernel
theorem d_Mo_callStep_444 : decode b_Mo_callStep 444 = .ok (.iload 12, 2) := by decide +kernel
theorem d_Mo_callStep_446 : decode b_Mo_callStep 446 = .ok (.iadd, 1) := by decide +kernel
theorem d_Mo_callStep_447 : decode b_Mo_callStep 447 = .ok (.aload_n 0, 1) := by decide +kernel
theorem d_Mo_callStep_448 : decode b_Mo_callStep 448 = .ok (.getfield 917, 3) := by decide +kernel
theorem d_Mo_callStep_451 : decode b_Mo_callStep 451 = .ok (.getfield 939, 3) := by decide +kernel
theorem d_Mo_callStep_454 : decode b_Mo_callStep 454 = .ok (.iload 10, 2) := by decide +kernel
theorem d_Mo_callStep_456 : decode b_Mo_callStep 456 = .ok (.iload 12, 2) := by decide +kernel
theorem d_Mo_callStep_458 : decode b_Mo_callStep 458 = .ok (.iadd, 1) := by decide +kernel
theorem d_Mo_callStep_459 : decode b_Mo_callStep 459 = .ok (.baload, 1) := by decide +kernel
theorem d_Mo_callStep_460 : decode b_Mo_callStep 460 = .ok (.bastore, 1) := by decide +kernel
theorem d_Mo_callStep_461 : decode b_Mo_callStep 461 = .ok (.iinc 12 1, 3) := by decide +kernel
theorem d_Mo_callStep_464 : decode b_Mo_callStep 464 = .ok (.goto (-62), 3) := by decide +kernel
theorem d_Mo_callStep_467 : decode b_Mo_callStep 467 = .ok (.iconst 1, 1) := by decide +kernel
theorem d_Mo_callStep_468 : decode b_Mo_callStep 468 = .ok (.ireturn, 1) := by decide +kernel
abbrev ra_Mo_callStep (mc ms : Nat) : Room := { frames := 471, cells := mc, slots := ms, locals := 11461 }
def wba_Mo_callStep_402 (mc ms : Nat) (Post : Ly → St → Int32 → Nat → Nat → Prop) (K_402 : Ly → St → Nat → Nat → Int32 → Int32 → Int32 → Int32 → Prop) (a0 : Nat) (y_h402 : Ly) (s_h402 : St) (d_h402 e_h402 : Nat) (x9h402 : Int32) (x10h402 : Int32) (x11h402 : Int32) (x12h402 : Int32) : Prop := (d_h402 ≤ mc ∧ e_h402 ≤ ms) ∧ ((x9h402 ≤ x12h402 → Post y_h402 s_h402 1 d_h402 e_h402) ∧ (¬ (x9h402 ≤ x12h402) → ∃ b_23 : Nat, sO s_h402 a0 46 = some b_23 ∧ cl b_23 = 12 ∧ xA y_h402 s_h402 b_23 20 (x10h402 + x12h402) (fun x_26 : Int32 => xS y_h402 s_h402 b_23 20 (x11h402 + x12h402) x_26 (fun s_27 : St => ∃ b_28 : Nat, sO s_27 a0 46 = some b_28 ∧ cl b_28 = 12 ∧ xA y_h402 s_27 b_28 21 (x10h402 + x12h402) (fun x_31 : Int32 => xS y_h402 s_27 b_28 21 (x11h402 + x12h402) (vp_nar .boolean x_31) (fun s_32 : St => K_402 y_h402 s_32 d_h402 e_h402 x9h402 x10h402 x11h402 (x12h402 + 1)))))))
def wla_Mo_callStep_402 (mc ms : Nat) (Post : Ly → St → Int32 → Nat → Nat → Prop) (a0 : Nat) (y_h402 : Ly) (s_h402 : St) (d_h402 e_h402 : Nat) (x9h402 : Int32) (x10h402 : Int32) (x11h402 : Int32) (x12h402 : Int32) : Prop := ∃ (I : Ly → St → Nat → Nat → Int32 → Int32 → Int32 → Int32 → Prop) (μ : Ly → St → Nat → Nat → Int32 → Int32 → Int32 → Int32 → Nat), I y_h402 s_h402 d_h402 e_h402 x9h402 x10h402 x11h402 x12h402 ∧ ∀ (u1 : Ly) (u2 : St) (u3 u4 : Nat) (t0 : Int32) (t1 : Int32) (t2 : Int32) (t3 : Int32), I u1 u2 u3 u4 t0 t1 t2 t3 → wba_Mo_callStep_402 mc ms Post (fun z1 z2 z3 z4 t0q t1q t2q t3q => I z1 z2 z3 z4 t0q t1q t2q t3q ∧ μ z1 z2 z3 z4 t0q t1q t2q t3q < μ u1 u2 u3 u4 t0 t1 t2 t3) a0 u1 u2 u3 u4 t0 t1 t2 t3
def wja_Mo_callStep_311 (mc ms : Nat) (Post : Ly → St → Int32 → Nat → Nat → Prop) (a0 : Nat) (y_j311 : Ly) (s_j311 : St) (d_j311 e_j311 : Nat) (x1j311 : Int32) (x7j311 : Int32) (x9j311 : Int32) (x10j311 : Int32) : Prop := (d_j311 ≤ mc ∧ e_j311 ≤ ms) ∧ ((21 ≤ (x7j311 / 12) → ∃ b_16 : Nat, sO s_j311 a0 46 = some b_16 ∧ cl b_16 = 12 ∧ ((¬ (sV s_j311 b_16 22) = 40 → xA y_j311 s_j311 b_16 19 x1j311 (fun x_19 : Int32 => xS y_j311 s_j311 b_16 19 x1j311 (x_19 - x9j311) (fun s_20 : St => wu_Mo_newFrame y_j311 (fun (s_22 : St) => wla_Mo_callStep_402 mc ms Post a0 y_j311 s_22 d_j311 e_j311 x9j311 x10j311 (44 * (x1j311 + 1)) 0) s_20 a0 x7j311))) ∧ ((sV s_j311 b_16 22) = 40 → ∃ mc_38 ms_39 : Nat, (d_j311 + mc_38 ≤ mc ∧ e_j311 + ms_39 ≤ ms) ∧ wa_Mo_throwNew mc_38 ms_39 y_j311 (fun (y_35 : Ly) (s_34 : St) (d_36 e_37 : Nat) => (d_j311 + d_36 ≤ mc ∧ e_j311 + e_37 ≤ ms) ∧ Post y_35 s_34 1 (d_j311 + d_36) (e_j311 + e_37)) s_j311 a0 0 8))) ∧ (¬ (21 ≤ (x7j311 / 12)) → ∃ b_41 : Nat, sO s_j311 a0 46 = some b_41 ∧ cl b_41 = 12 ∧ xA y_j311 s_j311 b_41 19 x1j311 (fun x_44 : Int32 => xS y_j311 s_j311 b_41 19 x1j311 (x_44 - x9j311) (fun s_45 : St => ∃ b_46 : Nat, sO s_45 a0 46 = some b_46 ∧ cl b_46 = 12 ∧ xA y_j311 s_45 b_46 18 x1j311 (fun x_49 : Int32 => xS y_j311 s_45 b_46 18 x1j311 (x_49 + 1) (fun s_50 : St => Post y_j311 s_50 1 d_j311 e_j311))))))
def wja_Mo_callStep_276 (mc ms : Nat) (Post : Ly → St → Int32 → Nat → Nat → Prop) (a0 : Nat) (y_j276 : Ly) (s_j276 : St) (d_j276 e_j276 : Nat) (x1j276 : Int32) (x5j276 : Int32) (x6j276 : Int32) (x9j276 : Int32) (x10j276 : Int32) (x11j276 : Int32) : Prop := (d_j276 ≤ mc ∧ e_j276 ≤ ms) ∧ wu_Mo_classOfRef y_j276 (fun (s_57 : St) (r_56 : Int32) => wu_Mo_dispatch y_j276 (fun (s_59 : St) (r_58 : Int32) => ((0 ≤ r_58 → wja_Mo_callStep_311 mc ms Post a0 y_j276 s_59 d_j276 e_j276 x1j276 r_58 x9j276 x10j276) ∧ (¬ (0 ≤ r_58) → ∃ mc_65 ms_66 : Nat, (d_j276 + mc_65 ≤ mc ∧ e_j276 + ms_66 ≤ ms) ∧ wa_Mo_throwNew mc_65 ms_66 y_j276 (fun (y_62 : Ly) (s_61 : St) (d_63 e_64 : Nat) => (d_j276 + d_63 ≤ mc ∧ e_j276 + e_64 ≤ ms) ∧ Post y_62 s_61 1 (d_j276 + d_63) (e_j276 + e_64)) s_59 a0 (sV s_59 a0 81) (sV s_59 a0 80)))) s_57 a0 r_56 x5j276 x6j276) s_j276 a0 x11j276
def wja_Mo_callStep_154 (mc ms : Nat) (Post : Ly → St → Int32 → Nat → Nat → Prop) (a0 : Nat) (y_j154 : Ly) (s_j154 : St) (d_j154 e_j154 : Nat) (x1j154 : Int32) (x3j154 : Int32) (x4j154 : Int32) (x5j154 : Int32) (x6j154 : Int32) (x7j154 : Int32) (z0j154 : Int32) (z1j154 : Int32) : Prop := (d_j154 ≤ mc ∧ e_j154 ≤ ms) ∧ ∃ b_12 : Nat, sO s_j154 a0 46 = some b_12 ∧ cl b_12 = 12 ∧ xA y_j154 s_j154 b_12 19 x1j154 (fun x_15 : Int32 => ((x4j154 = 52 → wja_Mo_callStep_311 mc ms Post a0 y_j154 s_j154 d_j154 e_j154 x1j154 x7j154 (z0j154 + z1j154) ((((44 * x1j154) + 20) + x_15) - (z0j154 + z1j154))) ∧ (¬ (x4j154 = 52) → xA y_j154 s_j154 b_12 20 ((((44 * x1j154) + 20) + x_15) - (z0j154 + z1j154)) (fun x_51 : Int32 => ((¬ x_51 = 0 → ((x4j154 = 51 → wja_Mo_callStep_311 mc ms Post a0 y_j154 s_j154 d_j154 e_j154 x1j154 x7j154 (z0j154 + z1j154) ((((44 * x1j154) + 20) + x_15) - (z0j154 + z1j154))) ∧ (¬ (x4j154 = 51) → ∃ b_52 : Nat, sO s_j154 a0 45 = some b_52 ∧ cl b_52 = 13 ∧ xA y_j154 s_j154 b_52 20 x7j154 (fun x_55 : Int32 => ((¬ (x_55 &&& 4) = 0 → wja_Mo_callStep_311 mc ms Post a0 y_j154 s_j154 d_j154 e_j154 x1j154 x7j154 (z0j154 + z1j154) ((((44 * x1j154) + 20) + x_15) - (z0j154 + z1j154))) ∧ ((x_55 &&& 4) = 0 → ((¬ x4j154 = 53 → wja_Mo_callStep_276 mc ms Post a0 y_j154 s_j154 d_j154 e_j154 x1j154 x5j154 x6j154 (z0j154 + z1j154) ((((44 * x1j154) + 20) + x_15) - (z0j154 + z1j154)) x_51) ∧ (x4j154 = 53 → wu_Mo_classOfRef y_j154 (fun (s_69 : St) (r_68 : Int32) => ∃ b_70 : Nat, sO s_69 a0 45 = some b_70 ∧ cl b_70 = 13 ∧ xA y_j154 s_69 b_70 31 x3j154 (fun x_73 : Int32 => wu_Mo_classOf y_j154 (fun (s_75 : St) (r_74 : Int32) => wu_Mo_isBelow y_j154 (fun (s_77 : St) (r_76 : Int32) => ((¬ r_76 = 0 → wja_Mo_callStep_276 mc ms Post a0 y_j154 s_77 d_j154 e_j154 x1j154 x5j154 x6j154 (z0j154 + z1j154) ((((44 * x1j154) + 20) + x_15) - (z0j154 + z1j154)) x_51) ∧ (r_76 = 0 → ∃ mc_83 ms_84 : Nat, (d_j154 + mc_83 ≤ mc ∧ e_j154 + ms_84 ≤ ms) ∧ wa_Mo_throwNew mc_83 ms_84 y_j154 (fun (y_80 : Ly) (s_79 : St) (d_81 e_82 : Nat) => (d_j154 + d_81 ≤ mc ∧ e_j154 + e_82 ≤ ms) ∧ Post y_80 s_79 1 (d_j154 + d_81) (e_j154 + e_82)) s_77 a0 59 15))) s_75 a0 r_68 r_74) s_69 a0 x_73)) s_j154 a0 x_51)))))))) ∧ (x_51 = 0 → ∃ mc_91 ms_92 : Nat, (d_j154 + mc_91 ≤ mc ∧ e_j154 + ms_92 ≤ ms) ∧ wa_Mo_throwNew mc_91 ms_92 y_j154 (fun (y_88 : Ly) (s_87 : St) (d_89 e_90 : Nat) => (d_j154 + d_89 ≤ mc ∧ e_j154 + e_90 ≤ ms) ∧ Post y_88 s_87 1 (d_j154 + d_89) (e_j154 + e_90)) s_j154 a0 0 2))))))
def wja_Mo_callStep_134 (mc ms : Nat) (Post : Ly → St → Int32 → Nat → Nat → Prop) (a0 : Nat) (y_j134 : Ly) (s_j134 : St) (d_j134 e_j134 : Nat) (x1j134 : Int32) (x3j134 : Int32) (x4j134 : Int32) (x5j134 : Int32) (x6j134 : Int32) (x7j134 : Int32) (x8j134 : Int32) : Prop := (d_j134 ≤ mc ∧ e_j134 ≤ ms) ∧ wu_Mo_tally y_j134 (fun (s_11 : St) => ((¬ x4j134 = 52 → wja_Mo_callStep_154 mc ms Post a0 y_j134 s_11 d_j134 e_j134 x1j134 x3j134 x4j134 x5j134 x6j134 x7j134 x8j134 1) ∧ (x4j134 = 52 → wja_Mo_callStep_154 mc ms Post a0 y_j134 s_11 d_j134 e_j134 x1j134 x3j134 x4j134 x5j134 x6j134 x7j134 x8j134 0))) s_j134 a0 x4j134
def wja_Mo_callStep_133 (mc ms : Nat) (Post : Ly → St → Int32 → Nat → Nat → Prop) (a0 : Nat) (y_j133 : Ly) (s_j133 : St) (d_j133 e_j133 : Nat) (z0j133 : Int32) : Prop := (d_j133 ≤ mc ∧ e_j133 ≤ ms) ∧ Post y_j133 s_j133 z0j133 d_j133 e_j133
def wa_Mo_callStep (mc ms : Nat) (y : Ly) (Post : Ly → St → Int32 → Nat → Nat → Prop) (σ : St) (a0 : Nat) (v1 : Int32) (v2 : Int32) (v3 : Int32) (v4 : Int32) : Prop := ∃ b_1 : Nat, sO σ a0 45 = some b_1 ∧ cl b_1 = 13 ∧ xA y σ b_1 32 v3 (fun x_4 : Int32 => xA y σ b_1 33 v3 (fun x_5 : Int32 => xA y σ b_1 31 v3 (fun x_6 : Int32 => wu_Mo_findMethod y (fun (s_8 : St) (r_7 : Int32) => ((0 ≤ r_7 → xA y s_8 a0 31 x_5 (fun x_9 : Int32 => ((¬ v4 = 52 → wja_Mo_callStep_134 mc ms Post a0 y s_8 0 0 v1 v3 v4 x_4 x_5 r_7 x_9) ∧ (v4 = 52 → wu_Mo_startOf y (fun (s_95 : St) (r_94 : Int32) => ((r_94 = 0 → wja_Mo_callStep_134 mc ms Post a0 y s_95 0 0 v1 v3 v4 x_4 x_5 r_7 x_9) ∧ (¬ (r_94 = 0) → ((¬ r_94 = 3 → ((¬ r_94 = 2 → wja_Mo_callStep_133 mc ms Post a0 y s_95 0 0 0) ∧ (r_94 = 2 → wja_Mo_callStep_133 mc ms Post a0 y s_95 0 0 2))) ∧ (r_94 = 3 → ∃ mc_101 ms_102 : Nat, (0 + mc_101 ≤ mc ∧ 0 + ms_102 ≤ ms) ∧ wa_Mo_throwsAt mc_101 ms_102 y (fun (y_98 : Ly) (s_97 : St) (r_96 : Int32) (d_99 e_100 : Nat) => (0 + d_99 ≤ mc ∧ 0 + e_100 ≤ ms) ∧ wja_Mo_callStep_133 mc ms Post a0 y_98 s_97 (0 + d_99) (0 + e_100) r_96) s_95 a0 v4 (sV s_95 a0 81) (sV s_95 a0 80)))))) s_8 a0 (r_7 / 12))))) ∧ (¬ (0 ≤ r_7) → ∃ mc_109 ms_110 : Nat, (0 + mc_109 ≤ mc ∧ 0 + ms_110 ≤ ms) ∧ wa_Mo_throwsAt mc_109 ms_110 y (fun (y_106 : Ly) (s_105 : St) (r_104 : Int32) (d_107 e_108 : Nat) => (0 + d_107 ≤ mc ∧ 0 + e_108 ≤ ms) ∧ Post y_106 s_105 r_104 (0 + d_107) (0 + e_108)) s_8 a0 v4 (sV s_8 a0 81) (sV s_8 a0 80)))) σ a0 v4 x_6 x_4 x_5 (v2 / 12))))
set_option maxHeartbeats 4000000 in
set_option maxRecDepth 100000 in
theorem ca_Mo_callStep (l : Launch) (D : va_G) (g : Nat → ClassId) (ad : Nat → Nat) (mc ms : Nat) (y : Ly) (Post : Ly → St → Int32 → Nat → Nat → Prop) (σ : St) (a0 : Nat) (v1 : Int32) (v2 : Int32) (v3 : Int32) (v4 : Int32) (sz uz : Nat) (h_a0 : cl a0 = 14) (h : wa_Mo_callStep mc ms y Post σ a0 v1 v2 v3 v4) : Met l y_Mo_callStep (mw y_Mo_callStep b_Mo_callStep 13 (some .int)) (ra_Mo_callStep mc ms) (PCu g D [] [.ref (ad a0), .int v1, .int v2, .int v3, .int v4] sz uz (ws g ad y σ)) (va_Qi (fun (r : Int32) (u : Ly × St × Nat × Nat) => Post u.1 u.2.1 r u.2.2.1 u.2.2.2) (QU D (va_A (ws g ad y σ) sz) (fun u => ws g ad u.1 u.2.1) sz uz (fun u => u.2.2.1) (fun u => u.2.2.2)) (va_A (ws g ad y σ) sz)) mc ms (va_A (ws g ad y σ) sz) := by
  refine ofIu (by decide +kernel) (Nat.le_of_ble_eq_true rfl) ?_
  intro p e s m args below meth c A Q ls H locs G hsz hP hD hS hl hret
  subst hsz
  have hl : lv_has ls 13 [(0, .ref (ad a0)), (1, .int v1), (2, .int v2), (3, .int v3), (4, .int v4)] := hl
  have hd : 0 ≤ mc ∧ 0 ≤ ms := ⟨Nat.zero_le _, Nat.zero_le _⟩
  unfold wa_Mo_callStep at h
  refine lv_aload_n G.1 G.2.1 d_Mo_callStep_0 rfl (lv_at hl 0 rfl) ?_
  obtain ⟨b_1, e_2, c_3, h⟩ := h
  refine ugf (v := .ref (ad b_1)) G hP h_a0 iMo rfl 45 (by decide) rfl q3109 rfl (by show va_rf ((sO σ a0 45).map ad) = _; rw [e_2]; rfl) d_Mo_callStep_1 ?_
  refine ugfN (v := .ref (yP y b_1 32)) G hP c_3 iMw rfl 32 (by decide) rfl q2768 rfl rfl d_Mo_callStep_4 ?_
  refine lv_iload_n G.1 G.2.1 d_Mo_callStep_7 rfl (lv_at hl 3 rfl) ?_
  refine uiald G hP (kdp c_3 rfl) (typ c_3 rfl) h d_Mo_callStep_8 (fun x_4 h => ?_)
  refine lv_istore (lv' := [(5, .int x_4), (0, .ref (ad a0)), (1, .int v1), (2, .int v2), (3, .int v3), (4, .int v4)]) G.1 G.2.1 d_Mo_callStep_9 hl (by decide) rfl (fun ls hl => ?_)
  refine lv_aload_n G.1 G.2.1 d_Mo_callStep_11 rfl (lv_at hl 1 rfl) ?_
  refine ugf (v := .ref (ad b_1)) G hP h_a0 iMo rfl 45 (by decide) rfl q3109 rfl (by show va_rf ((sO σ a0 45).map ad) = _; rw [e_2]; rfl) d_Mo_callStep_12 ?_
  refine ugfN (v := .ref (yP y b_1 33)) G hP c_3 iMw rfl 33 (by decide) rfl q2770 rfl rfl d_Mo_callStep_15 ?_
  refine lv_iload_n G.1 G.2.1 d_Mo_callStep_18 rfl (lv_at hl 4 rfl) ?_
  refine uiald G hP (kdp c_3 rfl) (typ c_3 rfl) h d_Mo_callStep_19 (fun x_5 h => ?_)
  refine W.eq (g2 := F0 m 20 ls [.int x_5]) rfl ?_
  refine lv_istore (lv' := [(6, .int x_5), (5, .int x_4), (0, .ref (ad a0)), (1, .int v1), (2, .int v2), (3, .int v3), (4, .int v4)]) G.1 G.2.1 d_Mo_callStep_20 hl (by decide) rfl (fun ls hl => ?_)
  refine lv_aload_n G.1 G.2.1 d_Mo_callStep_22 rfl (lv_at hl 2 rfl) ?_
  refine lv_iload G.1 G.2.1 d_Mo_callStep_23 (lv_at hl 6 rfl) ?_
  refine lv_aload_n G.1 G.2.1 d_Mo_callStep_25 rfl (lv_at hl 2 rfl) ?_
  refine ugf (v := .ref (ad b_1)) G hP h_a0 iMo rfl 45 (by decide) rfl q3109 rfl (by show va_rf ((sO σ a0 45).map ad) = _; rw [e_2]; rfl) d_Mo_callStep_26 ?_
  refine ugfN (v := .ref (yP y b_1 31)) G hP c_3 iMw rfl 31 (by decide) rfl q2766 rfl rfl d_Mo_callStep_29 ?_
  refine lv_iload_n G.1 G.2.1 d_Mo_callStep_32 rfl (lv_at hl 5 rfl) ?_
  refine uiald G hP (kdp c_3 rfl) (typ c_3 rfl) h d_Mo_callStep_33 (fun x_6 h => ?_)
  refine lv_iload G.1 G.2.1 d_Mo_callStep_34 (lv_at hl 1 rfl) ?_
  refine lv_iload G.1 G.2.1 d_Mo_callStep_36 (lv_at hl 0 rfl) ?_
  refine lv_iload_n G.1 G.2.1 d_Mo_callStep_38 rfl (lv_at hl 4 rfl) ?_
  refine lv_bipush (v := 12) G.1 G.2.1 d_Mo_callStep_39 (by decide) ?_
  refine W.eq (g2 := F0 m 41 ls [.int 12, .int v2, .int x_5, .int x_4, .int x_6, .int v4, .ref (ad a0)]) rfl ?_
  refine lv_idiv G.1 G.2.1 d_Mo_callStep_41 (by decide) ?_
  refine ucVi (As := [.int v4, .int x_6, .int x_4, .int x_5, .int (v2 / 12)]) (rest := []) G hP hD hS (cu_Mo_findMethod l D g ad y _ σ a0 v4 x_6 x_4 x_5 (v2 / 12) H.size h_a0 h) w9_Mo_findMethod q3851 ⟨Nat.le_of_ble_eq_true rfl, Nat.le_of_ble_eq_true rfl⟩ rfl rfl h_a0 (q := (RMo, TMo, 131)) rfl rfl hl.1 rfl (Nat.le_of_ble_eq_true rfl) rfl hd d_Mo_callStep_42 (fun r_7 s_8 H locs h hP hD hS => ?_)
  refine lv_istore (lv' := [(7, .int r_7), (6, .int x_5), (5, .int x_4), (0, .ref (ad a0)), (1, .int v1), (2, .int v2), (3, .int v3), (4, .int v4)]) G.1 G.2.1 d_Mo_callStep_45 hl (by decide) rfl (fun ls hl => ?_)
  refine lv_iload G.1 G.2.1 d_Mo_callStep_47 (lv_at hl 0 rfl) ?_
  refine lv_if_ge (tgt := 67) G.1 G.2.1 d_Mo_callStep_49 (by decide) (fun c49 => ?_) (fun c49 => ?_)
  · skip
    have h := h.1 c49
    refine lv_aload_n G.1 G.2.1 d_Mo_callStep_67 rfl (lv_at hl 3 rfl) ?_
    refine ugf (v := .ref (yP y a0 31)) G hP h_a0 iMo rfl 31 (by decide) rfl q3095 rfl rfl d_Mo_callStep_68 ?_
    refine lv_iload G.1 G.2.1 d_Mo_callStep_71 (lv_at hl 1 rfl) ?_
    refine uiald G hP (kdp h_a0 rfl) (typ h_a0 rfl) h d_Mo_callStep_73 (fun x_9 h => ?_)
    refine lv_istore (lv' := [(8, .int x_9), (7, .int r_7), (6, .int x_5), (5, .int x_4), (0, .ref (ad a0)), (1, .int v1), (2, .int v2), (3, .int v3), (4, .int v4)]) G.1 G.2.1 d_Mo_callStep_74 hl (by decide) rfl (fun ls hl => ?_)
    refine lv_iload G.1 G.2.1 d_Mo_callStep_76 (lv_at hl 8 rfl) ?_
    refine lv_bipush (v := 52) G.1 G.2.1 d_Mo_callStep_78 (by decide) ?_
    have J_134 : ∀ (y_j134 : Ly) (s_j134 : St) (d_j134 e_j134 : Nat) (x1j134 : Int32) (x3j134 : Int32) (x4j134 : Int32) (x5j134 : Int32) (x6j134 : Int32) (x7j134 : Int32) (x8j134 : Int32) (H : Heap) (locs : List Loc), wja_Mo_callStep_134 mc ms Post a0 y_j134 s_j134 d_j134 e_j134 x1j134 x3j134 x4j134 x5j134 x6j134 x7j134 x8j134 → va_P D CL (ws g ad y_j134 s_j134) H → va_D A (ws g ad y_j134 s_j134) → va_S A s.heap H locs → ∀ ls, lv_has ls 13 [(0, .ref (ad a0)), (1, .int x1j134), (3, .int x3j134), (4, .int x4j134), (5, .int x5j134), (6, .int x6j134), (7, .int x7j134), (8, .int x8j134)] → W p l e (ra_Mo_callStep mc ms) s m args below meth c H locs d_j134 e_j134 Q (F0 m 134 ls []) := by
      intro y_j134 s_j134 d_j134 e_j134 x1j134 x3j134 x4j134 x5j134 x6j134 x7j134 x8j134 H locs h hP hD hS ls hl
      unfold wja_Mo_callStep_134 at h
      obtain ⟨hd, h⟩ := h
      refine lv_aload_n G.1 G.2.1 d_Mo_callStep_134 rfl (lv_at hl 0 rfl) ?_
      refine lv_iload G.1 G.2.1 d_Mo_callStep_135 (lv_at hl 3 rfl) ?_
      refine ucVv (As := [.int x4j134]) (rest := []) G hP hD hS (cu_Mo_tally l D g ad y_j134 _ s_j134 a0 x4j134 H.size h_a0 h) w9_Mo_tally q3943 ⟨Nat.le_of_ble_eq_true rfl, Nat.le_of_ble_eq_true rfl⟩ rfl rfl h_a0 (q := (RMo, TMo, 131)) rfl rfl hl.1 rfl (Nat.le_of_ble_eq_true rfl) rfl hd d_Mo_callStep_137 (fun s_11 H locs h hP hD hS => ?_)
      refine lv_iload G.1 G.2.1 d_Mo_callStep_140 (lv_at hl 7 rfl) ?_
      refine lv_iload G.1 G.2.1 d_Mo_callStep_142 (lv_at hl 3 rfl) ?_
      refine lv_bipush (v := 52) G.1 G.2.1 d_Mo_callStep_144 (by decide) ?_
      have J_154 : ∀ (y_j154 : Ly) (s_j154 : St) (d_j154 e_j154 : Nat) (x1j154 : Int32) (x3j154 : Int32) (x4j154 : Int32) (x5j154 : Int32) (x6j154 : Int32) (x7j154 : Int32) (z0j154 : Int32) (z1j154 : Int32) (H : Heap) (locs : List Loc), wja_Mo_callStep_154 mc ms Post a0 y_j154 s_j154 d_j154 e_j154 x1j154 x3j154 x4j154 x5j154 x6j154 x7j154 z0j154 z1j154 → va_P D CL (ws g ad y_j154 s_j154) H → va_D A (ws g ad y_j154 s_j154) → va_S A s.heap H locs → ∀ ls, lv_has ls 13 [(0, .ref (ad a0)), (1, .int x1j154), (3, .int x3j154), (4, .int x4j154), (5, .int x5j154), (6, .int x6j154), (7, .int x7j154)] → W p l e (ra_Mo_callStep mc ms) s m args below meth c H locs d_j154 e_j154 Q (F0 m 154 ls [.int z1j154, .int z0j154]) := by
        intro y_j154 s_j154 d_j154 e_j154 x1j154 x3j154 x4j154 x5j154 x6j154 x7j154 z0j154 z1j154 H locs h hP hD hS ls hl
        unfold wja_Mo_callStep_154 at h
        obtain ⟨hd, h⟩ := h
        refine lv_iadd G.1 G.2.1 d_Mo_callStep_154 ?_
        refine lv_istore (lv' := [(9, .int (z0j154 + z1j154)), (0, .ref (ad a0)), (1, .int x1j154), (3, .int x3j154), (4, .int x4j154), (5, .int x5j154), (6, .int x6j154), (7, .int x7j154)]) G.1 G.2.1 d_Mo_callStep_155 hl (by decide) rfl (fun ls hl => ?_)
        refine lv_bipush (v := 44) G.1 G.2.1 d_Mo_callStep_157 (by decide) ?_
        refine lv_iload_n G.1 G.2.1 d_Mo_callStep_159 rfl (lv_at hl 2 rfl) ?_
        refine lv_imul G.1 G.2.1 d_Mo_callStep_160 ?_
        refine lv_bipush (v := 20) G.1 G.2.1 d_Mo_callStep_161 (by decide) ?_
        refine lv_iadd G.1 G.2.1 d_Mo_callStep_163 ?_
        refine lv_aload_n G.1 G.2.1 d_Mo_callStep_164 rfl (lv_at hl 1 rfl) ?_
        obtain ⟨b_12, e_13, c_14, h⟩ := h
        refine ugf (v := .ref (ad b_12)) G hP h_a0 iMo rfl 46 (by decide) rfl q3110 rfl (by show va_rf ((sO s_j154 a0 46).map ad) = _; rw [e_13]; rfl) d_Mo_callStep_165 ?_
        refine ugfN (v := .ref (yP y_j154 b_12 19)) G hP c_14 iMr rfl 19 (by decide) rfl q3011 rfl rfl d_Mo_callStep_168 ?_
        refine lv_iload_n G.1 G.2.1 d_Mo_callStep_171 rfl (lv_at hl 2 rfl) ?_
        refine W.eq (g2 := F0 m 172 ls [.int x1j154, .ref (yP y_j154 b_12 19), .int ((44 * x1j154) + 20)]) rfl ?_
        refine uiald G hP (kdp c_14 rfl) (typ c_14 rfl) h d_Mo_callStep_172 (fun x_15 h => ?_)
        refine lv_iadd G.1 G.2.1 d_Mo_callStep_173 ?_
        refine lv_iload G.1 G.2.1 d_Mo_callStep_174 (lv_at hl 0 rfl) ?_
        refine lv_isub G.1 G.2.1 d_Mo_callStep_176 ?_
        refine lv_istore (lv' := [(10, .int ((((44 * x1j154) + 20) + x_15) - (z0j154 + z1j154))), (9, .int (z0j154 + z1j154)), (0, .ref (ad a0)), (1, .int x1j154), (3, .int x3j154), (4, .int x4j154), (5, .int x5j154), (6, .int x6j154), (7, .int x7j154)]) G.1 G.2.1 d_Mo_callStep_177 hl (by decide) rfl (fun ls hl => ?_)
        refine lv_iload G.1 G.2.1 d_Mo_callStep_179 (lv_at hl 5 rfl) ?_
        refine lv_bipush (v := 52) G.1 G.2.1 d_Mo_callStep_181 (by decide) ?_
        have J_311 : ∀ (y_j311 : Ly) (s_j311 : St) (d_j311 e_j311 : Nat) (x1j311 : Int32) (x7j311 : Int32) (x9j311 : Int32) (x10j311 : Int32) (H : Heap) (locs : List Loc), wja_Mo_callStep_311 mc ms Post a0 y_j311 s_j311 d_j311 e_j311 x1j311 x7j311 x9j311 x10j311 → va_P D CL (ws g ad y_j311 s_j311) H → va_D A (ws g ad y_j311 s_j311) → va_S A s.heap H locs → ∀ ls, lv_has ls 13 [(0, .ref (ad a0)), (1, .int x1j311), (7, .int x7j311), (9, .int x9j311), (10, .int x10j311)] → W p l e (ra_Mo_callStep mc ms) s m args below meth c H locs d_j311 e_j311 Q (F0 m 311 ls []) := by
          intro y_j311 s_j311 d_j311 e_j311 x1j311 x7j311 x9j311 x10j311 H locs h hP hD hS ls hl
          unfold wja_Mo_callStep_311 at h
          obtain ⟨hd, h⟩ := h
          refine lv_iload G.1 G.2.1 d_Mo_callStep_311 (lv_at hl 2 rfl) ?_
          refine lv_bipush (v := 12) G.1 G.2.1 d_Mo_callStep_313 (by decide) ?_
          refine lv_idiv G.1 G.2.1 d_Mo_callStep_315 (by decide) ?_
          refine lv_bipush (v := 21) G.1 G.2.1 d_Mo_callStep_316 (by decide) ?_
          refine lv_icmp_ge (tgt := 350) G.1 G.2.1 d_Mo_callStep_318 (by decide) (fun c318 => ?_) (fun c318 => ?_)
          · skip
            have h := h.1 c318
            refine lv_aload_n G.1 G.2.1 d_Mo_callStep_350 rfl (lv_at hl 0 rfl) ?_
            obtain ⟨b_16, e_17, c_18, h⟩ := h
            refine ugf (v := .ref (ad b_16)) G hP h_a0 iMo rfl 46 (by decide) rfl q3110 rfl (by show va_rf ((sO s_j311 a0 46).map ad) = _; rw [e_17]; rfl) d_Mo_callStep_351 ?_
            refine ugfN (v := .int (sV s_j311 b_16 22)) G hP c_18 iMr rfl 22 (by decide) rfl q3016 rfl rfl d_Mo_callStep_354 ?_
            refine lv_bipush (v := 40) G.1 G.2.1 d_Mo_callStep_357 (by decide) ?_
            refine lv_icmp_ne (tgt := 371) G.1 G.2.1 d_Mo_callStep_359 (by decide) (fun c359 => ?_) (fun c359 => ?_)
            · skip
              have h := h.1 c359
              refine lv_aload_n G.1 G.2.1 d_Mo_callStep_371 rfl (lv_at hl 0 rfl) ?_
              refine W.eq (g2 := F0 m 372 ls [.ref (ad a0)]) rfl ?_
              refine ugf (v := .ref (ad b_16)) G hP h_a0 iMo rfl 46 (by decide) rfl q3110 rfl (by show va_rf ((sO s_j311 a0 46).map ad) = _; rw [e_17]; rfl) d_Mo_callStep_372 ?_
              refine ugfN (v := .ref (yP y_j311 b_16 19)) G hP c_18 iMr rfl 19 (by decide) rfl q3011 rfl rfl d_Mo_callStep_375 ?_
              refine lv_iload_n G.1 G.2.1 d_Mo_callStep_378 rfl (lv_at hl 1 rfl) ?_
              refine lv_dup2_11 G.1 G.2.1 d_Mo_callStep_379 rfl rfl ?_
              refine uiald G hP (kdp c_18 rfl) (typ c_18 rfl) h d_Mo_callStep_380 (fun x_19 h => ?_)
              refine lv_iload G.1 G.2.1 d_Mo_callStep_381 (lv_at hl 3 rfl) ?_
              refine lv_isub G.1 G.2.1 d_Mo_callStep_383 ?_
              refine uiast G hP hD hS (kdp c_18 rfl) (typ c_18 rfl) h d_Mo_callStep_384 (fun s_20 H locs h hP hD hS => ?_)
              refine lv_aload_n G.1 G.2.1 d_Mo_callStep_385 rfl (lv_at hl 0 rfl) ?_
              refine lv_iload G.1 G.2.1 d_Mo_callStep_386 (lv_at hl 2 rfl) ?_
              refine ucVv (As := [.int x7j311]) (rest := []) G hP hD hS (cu_Mo_newFrame l D g ad y_j311 _ s_20 a0 x7j311 H.size h_a0 h) w9_Mo_newFrame q3911 ⟨Nat.le_of_ble_eq_true rfl, Nat.le_of_ble_eq_true rfl⟩ rfl rfl h_a0 (q := (RMo, TMo, 131)) rfl rfl hl.1 rfl (Nat.le_of_ble_eq_true rfl) rfl hd d_Mo_callStep_388 (fun s_22 H locs h hP hD hS => ?_)
              refine lv_bipush (v := 44) G.1 G.2.1 d_Mo_callStep_391 (by decide) ?_
              refine W.eq (g2 := F0 m 393 ls [.int 44]) rfl ?_
              refine lv_iload_n G.1 G.2.1 d_Mo_callStep_393 rfl (lv_at hl 1 rfl) ?_
              refine lv_iconst (v := 1) G.1 G.2.1 d_Mo_callStep_394 (by decide) ?_
              refine lv_iadd G.1 G.2.1 d_Mo_callStep_395 ?_
              refine lv_imul G.1 G.2.1 d_Mo_callStep_396 ?_
              refine lv_istore (lv' := [(11, .int (44 * (x1j311 + 1))), (0, .ref (ad a0)), (1, .int x1j311), (7, .int x7j311), (9, .int x9j311), (10, .int x10j311)]) G.1 G.2.1 d_Mo_callStep_397 hl (by decide) rfl (fun ls hl => ?_)
              refine lv_iconst (v := 0) G.1 G.2.1 d_Mo_callStep_399 (by decide) ?_
              refine lv_istore (lv' := [(12, .int 0), (11, .int (44 * (x1j311 + 1))), (0, .ref (ad a0)), (1, .int x1j311), (7, .int x7j311), (9, .int x9j311), (10, .int x10j311)]) G.1 G.2.1 d_Mo_callStep_400 hl (by decide) rfl (fun ls hl => ?_)
              unfold wla_Mo_callStep_402 at h
              obtain ⟨I_402, μ_402, hI_402, hB_402⟩ := h
              have L_402 : ∀ (n_402 : Nat) (y_h402 : Ly) (s_h402 : St) (d_h402 e_h402 : Nat) (x9h402 : Int32) (x10h402 : Int32) (x11h402 : Int32) (x12h402 : Int32), μ_402 y_h402 s_h402 d_h402 e_h402 x9h402 x10h402 x11h402 x12h402 < n_402 → I_402 y_h402 s_h402 d_h402 e_h402 x9h402 x10h402 x11h402 x12h402 → ∀ (H : Heap) (locs : List Loc), va_P D CL (ws g ad y_h402 s_h402) H → va_D A (ws g ad y_h402 s_h402) → va_S A s.heap H locs → ∀ ls, lv_has ls 13 [(0, .ref (ad a0)), (9, .int x9h402), (10, .int x10h402), (11, .int x11h402), (12, .int x12h402)] → W p l e (ra_Mo_callStep mc ms) s m args below meth c H locs d_h402 e_h402 Q (F0 m 402 ls []) := by
                intro n_402
                induction n_402 with
                | zero => intro y_h402 s_h402 d_h402 e_h402 x9h402 x10h402 x11h402 x12h402 hμ; exact absurd hμ (Nat.not_lt_zero _)
                | succ n_402 ih_402 =>
                  intro y_h402 s_h402 d_h402 e_h402 x9h402 x10h402 x11h402 x12h402 hμ_402 hJ H locs hP hD hS ls hl
                  obtain ⟨K_402, hK_402, h⟩ : ∃ K : Ly → St → Nat → Nat → Int32 → Int32 → Int32 → Int32 → Prop, (∀ z1 z2 z3 z4 (t0 : Int32) (t1 : Int32) (t2 : Int32) (t3 : Int32), K z1 z2 z3 z4 t0 t1 t2 t3 → I_402 z1 z2 z3 z4 t0 t1 t2 t3 ∧ μ_402 z1 z2 z3 z4 t0 t1 t2 t3 < μ_402 y_h402 s_h402 d_h402 e_h402 x9h402 x10h402 x11h402 x12h402) ∧ wba_Mo_callStep_402 mc ms Post K a0 y_h402 s_h402 d_h402 e_h402 x9h402 x10h402 x11h402 x12h402 := ⟨_, fun _ _ _ _ _ _ _ _ h => h, hB_402 y_h402 s_h402 d_h402 e_h402 x9h402 x10h402 x11h402 x12h402 hJ⟩
                  unfold wba_Mo_callStep_402 at h
                  obtain ⟨hd, h⟩ := h
                  refine lv_iload G.1 G.2.1 d_Mo_callStep_402 (lv_at hl 4 rfl) ?_
                  refine lv_iload G.1 G.2.1 d_Mo_callStep_404 (lv_at hl 1 rfl) ?_
                  refine lv_icmp_ge (tgt := 467) G.1 G.2.1 d_Mo_callStep_406 (by decide) (fun c406 => ?_) (fun c406 => ?_)
                  · skip
                    have h := h.1 c406
                    refine lv_iconst (v := 1) G.1 G.2.1 d_Mo_callStep_467 (by decide) ?_
                    exact hret _ (y_h402, s_h402, d_h402, e_h402) _ _ _ _ _ ls h hP hD hS (Nat.le_refl _) (Nat.le_refl _) hd.1 hd.2 d_Mo_callStep_468
                  · skip
                    have h := h.2 c406
                    refine lv_aload_n G.1 G.2.1 d_Mo_callStep_409 rfl (lv_at hl 0 rfl) ?_
                    obtain ⟨b_23, e_24, c_25, h⟩ := h
                    refine ugf (v := .ref (ad b_23)) G hP h_a0 iMo rfl 46 (by decide) rfl q3110 rfl (by show va_rf ((sO s_h402 a0 46).map ad) = _; rw [e_24]; rfl) d_Mo_callStep_410 ?_
                    refine ugfN (v := .ref (yP y_h402 b_23 20)) G hP c_25 iMr rfl 20 (by decide) rfl q3013 rfl rfl d_Mo_callStep_413 ?_
                    refine lv_iload G.1 G.2.1 d_Mo_callStep_416 (lv_at hl 3 rfl) ?_
                    refine lv_iload G.1 G.2.1 d_Mo_callStep_418 (lv_at hl 4 rfl) ?_
                    refine lv_iadd G.1 G.2.1 d_Mo_callStep_420 ?_
                    refine lv_aload_n G.1 G.2.1 d_Mo_callStep_421 rfl (lv_at hl 0 rfl) ?_
                    refine ugf (v := .ref (ad b_23)) G hP h_a0 iMo rfl 46 (by decide) rfl q3110 rfl (by show va_rf ((sO s_h402 a0 46).map ad) = _; rw [e_24]; rfl) d_Mo_callStep_422 ?_
                    refine W.eq (g2 := F0 m 425 ls [.ref (ad b_23), .int (x11h402 + x12h402), .ref (yP y_h402 b_23 20)]) rfl ?_
                    refine ugfN (v := .ref (yP y_h402 b_23 20)) G hP c_25 iMr rfl 20 (by decide) rfl q3013 rfl rfl d_Mo_callStep_425 ?_
                    refine lv_iload G.1 G.2.1 d_Mo_callStep_428 (lv_at hl 2 rfl) ?_
                    refine lv_iload G.1 G.2.1 d_Mo_callStep_430 (lv_at hl 4 rfl) ?_
                    refine lv_iadd G.1 G.2.1 d_Mo_callStep_432 ?_
                    refine uiald G hP (kdp c_25 rfl) (typ c_25 rfl) h d_Mo_callStep_433 (fun x_26 h => ?_)
                    refine uiast G hP hD hS (kdp c_25 rfl) (typ c_25 rfl) h d_Mo_callStep_434 (fun s_27 H locs h hP hD hS => ?_)
                    refine lv_aload_n G.1 G.2.1 d_Mo_callStep_435 rfl (lv_at hl 0 rfl) ?_
                    obtain ⟨b_28, e_29, c_30, h⟩ := h
                    refine ugf (v := .ref (ad b_28)) G hP h_a0 iMo rfl 46 (by decide) rfl q3110 rfl (by show va_rf ((sO s_27 a0 46).map ad) = _; rw [e_29]; rfl) d_Mo_callStep_436 ?_
                    refine ugfN (v := .ref (yP y_h402 b_28 21)) G hP c_30 iMr rfl 21 (by decide) rfl q3015 rfl rfl d_Mo_callStep_439 ?_
                    refine lv_iload G.1 G.2.1 d_Mo_callStep_442 (lv_at hl 3 rfl) ?_
                    refine lv_iload G.1 G.2.1 d_Mo_callStep_444 (lv_at hl 4 rfl) ?_
                    refine lv_iadd G.1 G.2.1 d_Mo_callStep_446 ?_
                    refine W.eq (g2 := F0 m 447 ls [.int (x11h402 + x12h402), .ref (yP y_h402 b_28 21)]) rfl ?_
                    refine lv_aload_n G.1 G.2.1 d_Mo_callStep_447 rfl (lv_at hl 0 rfl) ?_
                    refine ugf (v := .ref (ad b_28)) G hP h_a0 iMo rfl 46 (by decide) rfl q3110 rfl (by show va_rf ((sO s_27 a0 46).map ad) = _; rw [e_29]; rfl) d_Mo_callStep_448 ?_
                    refine ugfN (v := .ref (yP y_h402 b_28 21)) G hP c_30 iMr rfl 21 (by decide) rfl q3015 rfl rfl d_Mo_callStep_451 ?_
                    refine lv_iload G.1 G.2.1 d_Mo_callStep_454 (lv_at hl 2 rfl) ?_
                    refine lv_iload G.1 G.2.1 d_Mo_callStep_456 (lv_at hl 4 rfl) ?_
                    refine lv_iadd G.1 G.2.1 d_Mo_callStep_458 ?_
                    refine uzald G hP (kdp c_30 rfl) (typ c_30 rfl) h d_Mo_callStep_459 (fun x_31 h => ?_)
                    refine uzast G hP hD hS (kdp c_30 rfl) (typ c_30 rfl) h d_Mo_callStep_460 (fun s_32 H locs h hP hD hS => ?_)
                    refine lv_iinc (v := x12h402 + 1) (lv' := [(12, .int (x12h402 + 1)), (0, .ref (ad a0)), (9, .int x9h402), (10, .int x10h402), (11, .int x11h402)]) G.1 G.2.1 d_Mo_callStep_461 hl (k := 4) rfl rfl (by decide) rfl (fun ls hl => ?_)
                    refine lv_goto (tgt := 402) G.1 G.2.1 d_Mo_callStep_464 (by decide) ?_
                    have h := hK_402 y_h402 s_32 d_h402 e_h402 x9h402 x10h402 x11h402 (x12h402 + 1) h
                    exact ih_402 y_h402 s_32 d_h402 e_h402 x9h402 x10h402 x11h402 (x12h402 + 1) (Nat.lt_of_lt_of_le h.2 (Nat.le_of_lt_succ hμ_402)) h.1 H locs hP hD hS ls (lv_sub hl [1, 2, 3, 4, 0] rfl)
              exact L_402 _ y_j311 s_22 d_j311 e_j311 x9j311 x10j311 (44 * (x1j311 + 1)) 0 (Nat.lt_succ_self _) hI_402 H locs hP hD hS ls (lv_sub hl [2, 5, 6, 1, 0] rfl)
            · skip
              have h := h.2 c359
              refine lv_aload_n G.1 G.2.1 d_Mo_callStep_362 rfl (lv_at hl 0 rfl) ?_
              refine W.eq (g2 := F0 m 363 ls [.ref (ad a0)]) rfl ?_
              refine lv_iconst (v := 0) G.1 G.2.1 d_Mo_callStep_363 (by decide) ?_
              refine lv_bipush (v := 8) G.1 G.2.1 d_Mo_callStep_364 (by decide) ?_
              obtain ⟨mc_38, ms_39, hr_40, h⟩ := h
              refine uaVv (As := [.int 0, .int 8]) (rest := []) G hP hD hS (ca_Mo_throwNew l D g ad mc_38 ms_39 y_j311 _ s_j311 a0 0 8 H.size (us H) h_a0 h) w9_Mo_throwNew q3883 ⟨Nat.le_of_ble_eq_true rfl, Nat.le_of_ble_eq_true rfl⟩ rfl rfl h_a0 (q := (RMo, TMo, 131)) rfl rfl hl.1 rfl (Nat.le_of_ble_eq_true rfl) rfl hr_40 d_Mo_callStep_366 (fun y_35 s_34 d_36 e_37 H locs h hP hD hS => ?_)
              have hl := lv_sub (l' := []) hl [] rfl
              obtain ⟨hd, h⟩ := h
              refine lv_iconst (v := 1) G.1 G.2.1 d_Mo_callStep_369 (by decide) ?_
              exact hret _ (y_35, s_34, d_j311 + d_36, e_j311 + e_37) _ _ _ _ _ ls h hP hD hS (Nat.le_refl _) (Nat.le_refl _) hd.1 hd.2 d_Mo_callStep_370
          · skip
            have h := h.2 c318
            refine lv_aload_n G.1 G.2.1 d_Mo_callStep_321 rfl (lv_at hl 0 rfl) ?_
            obtain ⟨b_41, e_42, c_43, h⟩ := h
            refine ugf (v := .ref (ad b_41)) G hP h_a0 iMo rfl 46 (by decide) rfl q3110 rfl (by show va_rf ((sO s_j311 a0 46).map ad) = _; rw [e_42]; rfl) d_Mo_callStep_322 ?_
            refine ugfN (v := .ref (yP y_j311 b_41 19)) G hP c_43 iMr rfl 19 (by decide) rfl q3011 rfl rfl d_Mo_callStep_325 ?_
            refine lv_iload_n G.1 G.2.1 d_Mo_callStep_328 rfl (lv_at hl 1 rfl) ?_
            refine lv_dup2_11 G.1 G.2.1 d_Mo_callStep_329 rfl rfl ?_
            refine uiald G hP (kdp c_43 rfl) (typ c_43 rfl) h d_Mo_callStep_330 (fun x_44 h => ?_)
            refine W.eq (g2 := F0 m 331 ls [.int x_44, .int x1j311, .ref (yP y_j311 b_41 19)]) rfl ?_
            refine lv_iload G.1 G.2.1 d_Mo_callStep_331 (lv_at hl 3 rfl) ?_
            refine lv_isub G.1 G.2.1 d_Mo_callStep_333 ?_
            refine uiast G hP hD hS (kdp c_43 rfl) (typ c_43 rfl) h d_Mo_callStep_334 (fun s_45 H locs h hP hD hS => ?_)
            refine lv_aload_n G.1 G.2.1 d_Mo_callStep_335 rfl (lv_at hl 0 rfl) ?_
            obtain ⟨b_46, e_47, c_48, h⟩ := h
            refine ugf (v := .ref (ad b_46)) G hP h_a0 iMo rfl 46 (by decide) rfl q3110 rfl (by show va_rf ((sO s_45 a0 46).map ad) = _; rw [e_47]; rfl) d_Mo_callStep_336 ?_
            refine ugfN (v := .ref (yP y_j311 b_46 18)) G hP c_48 iMr rfl 18 (by decide) rfl q3009 rfl rfl d_Mo_callStep_339 ?_
            refine lv_iload_n G.1 G.2.1 d_Mo_callStep_342 rfl (lv_at hl 1 rfl) ?_
            refine lv_dup2_11 G.1 G.2.1 d_Mo_callStep_343 rfl rfl ?_
            refine uiald G hP (kdp c_48 rfl) (typ c_48 rfl) h d_Mo_callStep_344 (fun x_49 h => ?_)
            refine lv_iconst (v := 1) G.1 G.2.1 d_Mo_callStep_345 (by decide) ?_
            refine lv_iadd G.1 G.2.1 d_Mo_callStep_346 ?_
            refine uiast G hP hD hS (kdp c_48 rfl) (typ c_48 rfl) h d_Mo_callStep_347 (fun s_50 H locs h hP hD hS => ?_)
            refine W.eq (g2 := F0 m 348 ls []) rfl ?_
            refine lv_iconst (v := 1) G.1 G.2.1 d_Mo_callStep_348 (by decide) ?_
            exact hret _ (y_j311, s_50, d_j311, e_j311) _ _ _ _ _ ls h hP hD hS (Nat.le_refl _) (Nat.le_refl _) hd.1 hd.2 d_Mo_callStep_349
        refine lv_icmp_eq (tgt := 311) G.1 G.2.1 d_Mo_callStep_183 (by decide) (fun c183 => ?_) (fun c183 => ?_)
        · skip
          have h := h.1 c183
          exact J_311 y_j154 s_j154 d_j154 e_j154 x1j154 x7j154 (z0j154 + z1j154) ((((44 * x1j154) + 20) + x_15) - (z0j154 + z1j154)) H locs h hP hD hS ls (lv_sub hl [2, 3, 8, 1, 0] rfl)
        · skip
          have h := h.2 c183
          refine lv_aload_n G.1 G.2.1 d_Mo_callStep_186 rfl (lv_at hl 2 rfl) ?_
          refine ugf (v := .ref (ad b_12)) G hP h_a0 iMo rfl 46 (by decide) rfl q3110 rfl (by show va_rf ((sO s_j154 a0 46).map ad) = _; rw [e_13]; rfl) d_Mo_callStep_187 ?_
          refine ugfN (v := .ref (yP y_j154 b_12 20)) G hP c_14 iMr rfl 20 (by decide) rfl q3013 rfl rfl d_Mo_callStep_190 ?_
          refine lv_iload G.1 G.2.1 d_Mo_callStep_193 (lv_at hl 0 rfl) ?_
          refine W.eq (g2 := F0 m 195 ls [.int ((((44 * x1j154) + 20) + x_15) - (z0j154 + z1j154)), .ref (yP y_j154 b_12 20)]) rfl ?_
          refine uiald G hP (kdp c_14 rfl) (typ c_14 rfl) h d_Mo_callStep_195 (fun x_51 h => ?_)
          refine lv_istore (lv' := [(11, .int x_51), (10, .int ((((44 * x1j154) + 20) + x_15) - (z0j154 + z1j154))), (9, .int (z0j154 + z1j154)), (0, .ref (ad a0)), (1, .int x1j154), (3, .int x3j154), (4, .int x4j154), (5, .int x5j154), (6, .int x6j154), (7, .int x7j154)]) G.1 G.2.1 d_Mo_callStep_196 hl (by decide) rfl (fun ls hl => ?_)
          refine lv_iload G.1 G.2.1 d_Mo_callStep_198 (lv_at hl 0 rfl) ?_
          refine lv_if_ne (tgt := 211) G.1 G.2.1 d_Mo_callStep_200 (by decide) (fun c200 => ?_) (fun c200 => ?_)
          · skip
            have h := h.1 c200
            refine lv_iload G.1 G.2.1 d_Mo_callStep_211 (lv_at hl 6 rfl) ?_
            refine lv_bipush (v := 51) G.1 G.2.1 d_Mo_callStep_213 (by decide) ?_
            refine lv_icmp_eq (tgt := 311) G.1 G.2.1 d_Mo_callStep_215 (by decide) (fun c215 => ?_) (fun c215 => ?_)
            · skip
              have h := h.1 c215
              exact J_311 y_j154 s_j154 d_j154 e_j154 x1j154 x7j154 (z0j154 + z1j154) ((((44 * x1j154) + 20) + x_15) - (z0j154 + z1j154)) H locs h hP hD hS ls (lv_sub hl [3, 4, 9, 2, 1] rfl)
            · skip
              have h := h.2 c215
              refine lv_aload_n G.1 G.2.1 d_Mo_callStep_218 rfl (lv_at hl 3 rfl) ?_
              obtain ⟨b_52, e_53, c_54, h⟩ := h
              refine ugf (v := .ref (ad b_52)) G hP h_a0 iMo rfl 45 (by decide) rfl q3109 rfl (by show va_rf ((sO s_j154 a0 45).map ad) = _; rw [e_53]; rfl) d_Mo_callStep_219 ?_
              refine ugfN (v := .ref (yP y_j154 b_52 20)) G hP c_54 iMw rfl 20 (by decide) rfl q2744 rfl rfl d_Mo_callStep_222 ?_
              refine lv_iload G.1 G.2.1 d_Mo_callStep_225 (lv_at hl 9 rfl) ?_
              refine uiald G hP (kdp c_54 rfl) (typ c_54 rfl) h d_Mo_callStep_227 (fun x_55 h => ?_)
              refine W.eq (g2 := F0 m 228 ls [.int x_55]) rfl ?_
              refine lv_iconst (v := 4) G.1 G.2.1 d_Mo_callStep_228 (by decide) ?_
              refine lv_iand G.1 G.2.1 d_Mo_callStep_229 ?_
              refine lv_if_ne (tgt := 311) G.1 G.2.1 d_Mo_callStep_230 (by decide) (fun c230 => ?_) (fun c230 => ?_)
              · skip
                have h := h.1 c230
                exact J_311 y_j154 s_j154 d_j154 e_j154 x1j154 x7j154 (z0j154 + z1j154) ((((44 * x1j154) + 20) + x_15) - (z0j154 + z1j154)) H locs h hP hD hS ls (lv_sub hl [3, 4, 9, 2, 1] rfl)
              · skip
                have h := h.2 c230
                refine lv_iload G.1 G.2.1 d_Mo_callStep_233 (lv_at hl 6 rfl) ?_
                refine lv_bipush (v := 53) G.1 G.2.1 d_Mo_callStep_235 (by decide) ?_
                have J_276 : ∀ (y_j276 : Ly) (s_j276 : St) (d_j276 e_j276 : Nat) (x1j276 : Int32) (x5j276 : Int32) (x6j276 : Int32) (x9j276 : Int32) (x10j276 : Int32) (x11j276 : Int32) (H : Heap) (locs : List Loc), wja_Mo_callStep_276 mc ms Post a0 y_j276 s_j276 d_j276 e_j276 x1j276 x5j276 x6j276 x9j276 x10j276 x11j276 → va_P D CL (ws g ad y_j276 s_j276) H → va_D A (ws g ad y_j276 s_j276) → va_S A s.heap H locs → ∀ ls, lv_has ls 13 [(0, .ref (ad a0)), (1, .int x1j276), (5, .int x5j276), (6, .int x6j276), (9, .int x9j276), (10, .int x10j276), (11, .int x11j276)] → W p l e (ra_Mo_callStep mc ms) s m args below meth c H locs d_j276 e_j276 Q (F0 m 276 ls []) := by
                  intro y_j276 s_j276 d_j276 e_j276 x1j276 x5j276 x6j276 x9j276 x10j276 x11j276 H locs h hP hD hS ls hl
                  unfold wja_Mo_callStep_276 at h
                  obtain ⟨hd, h⟩ := h
                  refine lv_aload_n G.1 G.2.1 d_Mo_callStep_276 rfl (lv_at hl 0 rfl) ?_
                  refine lv_aload_n G.1 G.2.1 d_Mo_callStep_277 rfl (lv_at hl 0 rfl) ?_
                  refine lv_iload G.1 G.2.1 d_Mo_callStep_278 (lv_at hl 6 rfl) ?_
                  refine ucVi (As := [.int x11j276]) (rest := [.ref (ad a0)]) G hP hD hS (cu_Mo_classOfRef l D g ad y_j276 _ s_j276 a0 x11j276 H.size h_a0 h) w9_Mo_classOfRef q3899 ⟨Nat.le_of_ble_eq_true rfl, Nat.le_of_ble_eq_true rfl⟩ rfl rfl h_a0 (q := (RMo, TMo, 131)) rfl rfl hl.1 rfl (Nat.le_of_ble_eq_true rfl) rfl hd d_Mo_callStep_280 (fun r_56 s_57 H locs h hP hD hS => ?_)
                  refine lv_iload G.1 G.2.1 d_Mo_callStep_283 (lv_at hl 2 rfl) ?_
                  refine lv_iload G.1 G.2.1 d_Mo_callStep_285 (lv_at hl 3 rfl) ?_
                  refine ucVi (As := [.int r_56, .int x5j276, .int x6j276]) (rest := []) G hP hD hS (cu_Mo_dispatch l D g ad y_j276 _ s_57 a0 r_56 x5j276 x6j276 H.size h_a0 h) w9_Mo_dispatch q3967 ⟨Nat.le_of_ble_eq_true rfl, Nat.le_of_ble_eq_true rfl⟩ rfl rfl h_a0 (q := (RMo, TMo, 131)) rfl rfl hl.1 rfl (Nat.le_of_ble_eq_true rfl) rfl hd d_Mo_callStep_287 (fun r_58 s_59 H locs h hP hD hS => ?_)
                  refine lv_istore (lv' := [(7, .int r_58), (0, .ref (ad a0)), (1, .int x1j276), (5, .int x5j276), (6, .int x6j276), (9, .int x9j276), (10, .int x10j276), (11, .int x11j276)]) G.1 G.2.1 d_Mo_callStep_290 hl (by decide) rfl (fun ls hl => ?_)
                  refine lv_iload G.1 G.2.1 d_Mo_callStep_292 (lv_at hl 0 rfl) ?_
                  refine lv_if_ge (tgt := 311) G.1 G.2.1 d_Mo_callStep_294 (by decide) (fun c294 => ?_) (fun c294 => ?_)
                  · skip
                    have h := h.1 c294
                    exact J_311 y_j276 s_59 d_j276 e_j276 x1j276 r_58 x9j276 x10j276 H locs h hP hD hS ls (lv_sub hl [1, 2, 0, 5, 6] rfl)
                  · skip
                    have h := h.2 c294
                    refine lv_aload_n G.1 G.2.1 d_Mo_callStep_297 rfl (lv_at hl 1 rfl) ?_
                    refine W.eq (g2 := F0 m 298 ls [.ref (ad a0)]) rfl ?_
                    refine lv_aload_n G.1 G.2.1 d_Mo_callStep_298 rfl (lv_at hl 1 rfl) ?_
                    refine ugf (v := .int (sV s_59 a0 81)) G hP h_a0 iMo rfl 81 (by decide) rfl q3145 rfl rfl d_Mo_callStep_299 ?_
                    refine lv_aload_n G.1 G.2.1 d_Mo_callStep_302 rfl (lv_at hl 1 rfl) ?_
                    refine ugf (v := .int (sV s_59 a0 80)) G hP h_a0 iMo rfl 80 (by decide) rfl q3144 rfl rfl d_Mo_callStep_303 ?_
                    obtain ⟨mc_65, ms_66, hr_67, h⟩ := h
                    refine uaVv (As := [.int (sV s_59 a0 81), .int (sV s_59 a0 80)]) (rest := []) G hP hD hS (ca_Mo_throwNew l D g ad mc_65 ms_66 y_j276 _ s_59 a0 (sV s_59 a0 81) (sV s_59 a0 80) H.size (us H) h_a0 h) w9_Mo_throwNew q3883 ⟨Nat.le_of_ble_eq_true rfl, Nat.le_of_ble_eq_true rfl⟩ rfl rfl h_a0 (q := (RMo, TMo, 131)) rfl rfl hl.1 rfl (Nat.le_of_ble_eq_true rfl) rfl hr_67 d_Mo_callStep_306 (fun y_62 s_61 d_63 e_64 H locs h hP hD hS => ?_)
                    have hl := lv_sub (l' := []) hl [] rfl
                    obtain ⟨hd, h⟩ := h
                    refine lv_iconst (v := 1) G.1 G.2.1 d_Mo_callStep_309 (by decide) ?_
                    exact hret _ (y_62, s_61, d_j276 + d_63, e_j276 + e_64) _ _ _ _ _ ls h hP hD hS (Nat.le_refl _) (Nat.le_refl _) hd.1 hd.2 d_Mo_callStep_310
                refine lv_icmp_ne (tgt := 276) G.1 G.2.1 d_Mo_callStep_237 (by decide) (fun c237 => ?_) (fun c237 => ?_)
                · skip
                  have h := h.1 c237
                  exact J_276 y_j154 s_j154 d_j154 e_j154 x1j154 x5j154 x6j154 (z0j154 + z1j154) ((((44 * x1j154) + 20) + x_15) - (z0j154 + z1j154)) x_51 H locs h hP hD hS ls (lv_sub hl [3, 4, 7, 8, 2, 1, 0] rfl)
                · skip
                  have h := h.2 c237
                  refine lv_aload_n G.1 G.2.1 d_Mo_callStep_240 rfl (lv_at hl 3 rfl) ?_
                  refine lv_aload_n G.1 G.2.1 d_Mo_callStep_241 rfl (lv_at hl 3 rfl) ?_
                  refine lv_iload G.1 G.2.1 d_Mo_callStep_242 (lv_at hl 0 rfl) ?_
                  refine ucVi (As := [.int x_51]) (rest := [.ref (ad a0)]) G hP hD hS (cu_Mo_classOfRef l D g ad y_j154 _ s_j154 a0 x_51 H.size h_a0 h) w9_Mo_classOfRef q3899 ⟨Nat.le_of_ble_eq_true rfl, Nat.le_of_ble_eq_true rfl⟩ rfl rfl h_a0 (q := (RMo, TMo, 131)) rfl rfl hl.1 rfl (Nat.le_of_ble_eq_true rfl) rfl hd d_Mo_callStep_244 (fun r_68 s_69 H locs h hP hD hS => ?_)
                  refine lv_aload_n G.1 G.2.1 d_Mo_callStep_247 rfl (lv_at hl 3 rfl) ?_
                  refine lv_aload_n G.1 G.2.1 d_Mo_callStep_248 rfl (lv_at hl 3 rfl) ?_
                  refine W.eq (g2 := F0 m 249 ls [.ref (ad a0), .ref (ad a0), .int r_68, .ref (ad a0)]) rfl ?_
                  obtain ⟨b_70, e_71, c_72, h⟩ := h
                  refine ugf (v := .ref (ad b_70)) G hP h_a0 iMo rfl 45 (by decide) rfl q3109 rfl (by show va_rf ((sO s_69 a0 45).map ad) = _; rw [e_71]; rfl) d_Mo_callStep_249 ?_
                  refine ugfN (v := .ref (yP y_j154 b_70 31)) G hP c_72 iMw rfl 31 (by decide) rfl q2766 rfl rfl d_Mo_callStep_252 ?_
                  refine lv_iload_n G.1 G.2.1 d_Mo_callStep_255 rfl (lv_at hl 5 rfl) ?_
                  refine uiald G hP (kdp c_72 rfl) (typ c_72 rfl) h d_Mo_callStep_256 (fun x_73 h => ?_)
                  refine ucVi (As := [.int x_73]) (rest := [.int r_68, .ref (ad a0)]) G hP hD hS (cu_Mo_classOf l D g ad y_j154 _ s_69 a0 x_73 H.size h_a0 h) w9_Mo_classOf q3571 ⟨Nat.le_of_ble_eq_true rfl, Nat.le_of_ble_eq_true rfl⟩ rfl rfl h_a0 (q := (RMo, TMo, 131)) rfl rfl hl.1 rfl (Nat.le_of_ble_eq_true rfl) rfl hd d_Mo_callStep_257 (fun r_74 s_75 H locs h hP hD hS => ?_)
                  refine ucVi (As := [.int r_68, .int r_74]) (rest := []) G hP hD hS (cu_Mo_isBelow l D g ad y_j154 _ s_75 a0 r_68 r_74 H.size h_a0 h) w9_Mo_isBelow q3903 ⟨Nat.le_of_ble_eq_true rfl, Nat.le_of_ble_eq_true rfl⟩ rfl rfl h_a0 (q := (RMo, TMo, 131)) rfl rfl hl.1 rfl (Nat.le_of_ble_eq_true rfl) rfl hd d_Mo_callStep_260 (fun r_76 s_77 H locs h hP hD hS => ?_)
                  refine lv_if_ne (tgt := 276) G.1 G.2.1 d_Mo_callStep_263 (by decide) (fun c263 => ?_) (fun c263 => ?_)
                  · skip
                    have h := h.1 c263
                    exact J_276 y_j154 s_77 d_j154 e_j154 x1j154 x5j154 x6j154 (z0j154 + z1j154) ((((44 * x1j154) + 20) + x_15) - (z0j154 + z1j154)) x_51 H locs h hP hD hS ls (lv_sub hl [3, 4, 7, 8, 2, 1, 0] rfl)
                  · skip
                    have h := h.2 c263
                    refine lv_aload_n G.1 G.2.1 d_Mo_callStep_266 rfl (lv_at hl 3 rfl) ?_
                    refine lv_bipush (v := 59) G.1 G.2.1 d_Mo_callStep_267 (by decide) ?_
                    refine lv_bipush (v := 15) G.1 G.2.1 d_Mo_callStep_269 (by decide) ?_
                    obtain ⟨mc_83, ms_84, hr_85, h⟩ := h
                    refine uaVv (As := [.int 59, .int 15]) (rest := []) G hP hD hS (ca_Mo_throwNew l D g ad mc_83 ms_84 y_j154 _ s_77 a0 59 15 H.size (us H) h_a0 h) w9_Mo_throwNew q3883 ⟨Nat.le_of_ble_eq_true rfl, Nat.le_of_ble_eq_true rfl⟩ rfl rfl h_a0 (q := (RMo, TMo, 131)) rfl rfl hl.1 rfl (Nat.le_of_ble_eq_true rfl) rfl hr_85 d_Mo_callStep_271 (fun y_80 s_79 d_81 e_82 H locs h hP hD hS => ?_)
                    have hl := lv_sub (l' := []) hl [] rfl
                    obtain ⟨hd, h⟩ := h
                    refine lv_iconst (v := 1) G.1 G.2.1 d_Mo_callStep_274 (by decide) ?_
                    refine W.eq (g2 := F0 m 275 ls [.int 1]) rfl ?_
                    exact hret _ (y_80, s_79, d_j154 + d_81, e_j154 + e_82) _ _ _ _ _ ls h hP hD hS (Nat.le_refl _) (Nat.le_refl _) hd.1 hd.2 d_Mo_callStep_275
          · skip
            have h := h.2 c200
            refine lv_aload_n G.1 G.2.1 d_Mo_callStep_203 rfl (lv_at hl 3 rfl) ?_
            refine lv_iconst (v := 0) G.1 G.2.1 d_Mo_callStep_204 (by decide) ?_
            refine lv_iconst (v := 2) G.1 G.2.1 d_Mo_callStep_205 (by decide) ?_
            obtain ⟨mc_91, ms_92, hr_93, h⟩ := h
            refine uaVv (As := [.int 0, .int 2]) (rest := []) G hP hD hS (ca_Mo_throwNew l D g ad mc_91 ms_92 y_j154 _ s_j154 a0 0 2 H.size (us H) h_a0 h) w9_Mo_throwNew q3883 ⟨Nat.le_of_ble_eq_true rfl, Nat.le_of_ble_eq_true rfl⟩ rfl rfl h_a0 (q := (RMo, TMo, 131)) rfl rfl hl.1 rfl (Nat.le_of_ble_eq_true rfl) rfl hr_93 d_Mo_callStep_206 (fun y_88 s_87 d_89 e_90 H locs h hP hD hS => ?_)
            have hl := lv_sub (l' := []) hl [] rfl
            obtain ⟨hd, h⟩ := h
            refine lv_iconst (v := 1) G.1 G.2.1 d_Mo_callStep_209 (by decide) ?_
            exact hret _ (y_88, s_87, d_j154 + d_89, e_j154 + e_90) _ _ _ _ _ ls h hP hD hS (Nat.le_refl _) (Nat.le_refl _) hd.1 hd.2 d_Mo_callStep_210
      refine lv_icmp_ne (tgt := 153) G.1 G.2.1 d_Mo_callStep_146 (by decide) (fun c146 => ?_) (fun c146 => ?_)
      · skip
        have h := h.1 c146
        refine lv_iconst (v := 1) G.1 G.2.1 d_Mo_callStep_153 (by decide) ?_
        exact J_154 y_j134 s_11 d_j134 e_j134 x1j134 x3j134 x4j134 x5j134 x6j134 x7j134 x8j134 1 H locs h hP hD hS ls (lv_sub hl [0, 1, 2, 3, 4, 5, 6] rfl)
      · skip
        have h := h.2 c146
        refine lv_iconst (v := 0) G.1 G.2.1 d_Mo_callStep_149 (by decide) ?_
        refine lv_goto (tgt := 154) G.1 G.2.1 d_Mo_callStep_150 (by decide) ?_
        exact J_154 y_j134 s_11 d_j134 e_j134 x1j134 x3j134 x4j134 x5j134 x6j134 x7j134 x8j134 0 H locs h hP hD hS ls (lv_sub hl [0, 1, 2, 3, 4, 5, 6] rfl)
    refine W.eq (g2 := F0 m 80 ls [.int 52, .int v4]) rfl ?_
    refine lv_icmp_ne (tgt := 134) G.1 G.2.1 d_Mo_callStep_80 (by decide) (fun c80 => ?_) (fun c80 => ?_)
    · skip
      have h := h.1 c80
      exact J_134 y s_8 0 0 v1 v3 v4 x_4 x_5 r_7 x_9 H locs h hP hD hS ls (lv_sub hl [4, 5, 7, 8, 3, 2, 1, 0] rfl)
    · skip
      have h := h.2 c80
      refine lv_aload_n G.1 G.2.1 d_Mo_callStep_83 rfl (lv_at hl 4 rfl) ?_
      refine lv_iload G.1 G.2.1 d_Mo_callStep_84 (lv_at hl 1 rfl) ?_
      refine lv_bipush (v := 12) G.1 G.2.1 d_Mo_callStep_86 (by decide) ?_
      refine lv_idiv G.1 G.2.1 d_Mo_callStep_88 (by decide) ?_
      refine ucVi (As := [.int (r_7 / 12)]) (rest := []) G hP hD hS (cu_Mo_startOf l D g ad y _ s_8 a0 (r_7 / 12) H.size h_a0 h) w9_Mo_startOf q3875 ⟨Nat.le_of_ble_eq_true rfl, Nat.le_of_ble_eq_true rfl⟩ rfl rfl h_a0 (q := (RMo, TMo, 131)) rfl rfl hl.1 rfl (Nat.le_of_ble_eq_true rfl) rfl hd d_Mo_callStep_89 (fun r_94 s_95 H locs h hP hD hS => ?_)
      refine lv_istore (lv' := [(9, .int r_94), (8, .int x_9), (7, .int r_7), (6, .int x_5), (5, .int x_4), (0, .ref (ad a0)), (1, .int v1), (2, .int v2), (3, .int v3), (4, .int v4)]) G.1 G.2.1 d_Mo_callStep_92 hl (by decide) rfl (fun ls hl => ?_)
      refine lv_iload G.1 G.2.1 d_Mo_callStep_94 (lv_at hl 0 rfl) ?_
      refine lv_if_eq (tgt := 134) G.1 G.2.1 d_Mo_callStep_96 (by decide) (fun c96 => ?_) (fun c96 => ?_)
      · skip
        have h := h.1 c96
        exact J_134 y s_95 0 0 v1 v3 v4 x_4 x_5 r_7 x_9 H locs h hP hD hS ls (lv_sub hl [5, 6, 8, 9, 4, 3, 2, 1] rfl)
      · skip
        have h := h.2 c96
        refine lv_iload G.1 G.2.1 d_Mo_callStep_99 (lv_at hl 0 rfl) ?_
        refine lv_iconst (v := 3) G.1 G.2.1 d_Mo_callStep_101 (by decide) ?_
        have J_133 : ∀ (y_j133 : Ly) (s_j133 : St) (d_j133 e_j133 : Nat) (z0j133 : Int32) (H : Heap) (locs : List Loc), wja_Mo_callStep_133 mc ms Post a0 y_j133 s_j133 d_j133 e_j133 z0j133 → va_P D CL (ws g ad y_j133 s_j133) H → va_D A (ws g ad y_j133 s_j133) → va_S A s.heap H locs → ∀ ls, lv_has ls 13 [] → W p l e (ra_Mo_callStep mc ms) s m args below meth c H locs d_j133 e_j133 Q (F0 m 133 ls [.int z0j133]) := by
          intro y_j133 s_j133 d_j133 e_j133 z0j133 H locs h hP hD hS ls hl
          unfold wja_Mo_callStep_133 at h
          obtain ⟨hd, h⟩ := h
          exact hret _ (y_j133, s_j133, d_j133, e_j133) _ _ _ _ _ ls h hP hD hS (Nat.le_refl _) (Nat.le_refl _) hd.1 hd.2 d_Mo_callStep_133
        refine lv_icmp_ne (tgt := 122) G.1 G.2.1 d_Mo_callStep_102 (by decide) (fun c102 => ?_) (fun c102 => ?_)
        · skip
          have h := h.1 c102
          refine W.eq (g2 := F0 m 122 ls []) rfl ?_
          refine lv_iload G.1 G.2.1 d_Mo_callStep_122 (lv_at hl 0 rfl) ?_
          refine lv_iconst (v := 2) G.1 G.2.1 d_Mo_callStep_124 (by decide) ?_
          refine lv_icmp_ne (tgt := 132) G.1 G.2.1 d_Mo_callStep_125 (by decide) (fun c125 => ?_) (fun c125 => ?_)
          · skip
            have h := h.1 c125
            refine lv_iconst (v := 0) G.1 G.2.1 d_Mo_callStep_132 (by decide) ?_
            exact J_133 y s_95 0 0 0 H locs h hP hD hS ls (lv_sub hl [] rfl)
          · skip
            have h := h.2 c125
            refine lv_iconst (v := 2) G.1 G.2.1 d_Mo_callStep_128 (by decide) ?_
            refine lv_goto (tgt := 133) G.1 G.2.1 d_Mo_callStep_129 (by decide) ?_
            exact J_133 y s_95 0 0 2 H locs h hP hD hS ls (lv_sub hl [] rfl)
        · skip
          have h := h.2 c102
          refine W.eq (g2 := F0 m 105 ls []) rfl ?_
          refine lv_aload_n G.1 G.2.1 d_Mo_callStep_105 rfl (lv_at hl 5 rfl) ?_
          refine lv_iload G.1 G.2.1 d_Mo_callStep_106 (lv_at hl 9 rfl) ?_
          refine lv_aload_n G.1 G.2.1 d_Mo_callStep_108 rfl (lv_at hl 5 rfl) ?_
          refine ugf (v := .int (sV s_95 a0 81)) G hP h_a0 iMo rfl 81 (by decide) rfl q3145 rfl rfl d_Mo_callStep_109 ?_
          refine lv_aload_n G.1 G.2.1 d_Mo_callStep_112 rfl (lv_at hl 5 rfl) ?_
          refine ugf (v := .int (sV s_95 a0 80)) G hP h_a0 iMo rfl 80 (by decide) rfl q3144 rfl rfl d_Mo_callStep_113 ?_
          obtain ⟨mc_101, ms_102, hr_103, h⟩ := h
          refine uaVi (As := [.int v4, .int (sV s_95 a0 81), .int (sV s_95 a0 80)]) (rest := []) G hP hD hS (ca_Mo_throwsAt l D g ad mc_101 ms_102 y _ s_95 a0 v4 (sV s_95 a0 81) (sV s_95 a0 80) H.size (us H) h_a0 h) w9_Mo_throwsAt q3939 ⟨Nat.le_of_ble_eq_true rfl, Nat.le_of_ble_eq_true rfl⟩ rfl rfl h_a0 (q := (RMo, TMo, 131)) rfl rfl hl.1 rfl (Nat.le_of_ble_eq_true rfl) rfl hr_103 d_Mo_callStep_116 (fun r_96 y_98 s_97 d_99 e_100 H locs h hP hD hS => ?_)
          have hl := lv_sub (l' := []) hl [] rfl
          obtain ⟨hd, h⟩ := h
          refine lv_goto (tgt := 133) G.1 G.2.1 d_Mo_callStep_119 (by decide) ?_
          exact J_133 y_98 s_97 (0 + d_99) (0 + e_100) r_96 H locs h hP hD hS ls (lv_sub hl [] rfl)
  · skip
    have h := h.2 c49
    refine lv_aload_n G.1 G.2.1 d_Mo_callStep_52 rfl (lv_at hl 3 rfl) ?_
    refine lv_iload G.1 G.2.1 d_Mo_callStep_53 (lv_at hl 7 rfl) ?_
    refine lv_aload_n G.1 G.2.1 d_Mo_callStep_55 rfl (lv_at hl 3 rfl) ?_
    refine ugf (v := .int (sV s_8 a0 81)) G hP h_a0 iMo rfl 81 (by decide) rfl q3145 rfl rfl d_Mo_callStep_56 ?_
    refine lv_aload_n G.1 G.2.1 d_Mo_callStep_59 rfl (lv_at hl 3 rfl) ?_
    refine ugf (v := .int (sV s_8 a0 80)) G hP h_a0 iMo rfl 80 (by decide) rfl q3144 rfl rfl d_Mo_callStep_60 ?_
    obtain ⟨mc_109, ms_110, hr_111, h⟩ := h
    refine uaVi (As := [.int v4, .int (sV s_8 a0 81), .int (sV s_8 a0 80)]) (rest := []) G hP hD hS (ca_Mo_throwsAt l D g ad mc_109 ms_110 y _ s_8 a0 v4 (sV s_8 a0 81) (sV s_8 a0 80) H.size (us H) h_a0 h) w9_Mo_throwsAt q3939 ⟨Nat.le_of_ble_eq_true rfl, Nat.le_of_ble_eq_true rfl⟩ rfl rfl h_a0 (q := (RMo, TMo, 131)) rfl rfl hl.1 rfl (Nat.le_of_ble_eq_true rfl) rfl hr_111 d_Mo_callStep_63 (fun r_104 y_106 s_105 d_107 e_108 H locs h hP hD hS => ?_)
    have hl := lv_sub (l' := []) hl [] rfl
    obtain ⟨hd, h⟩ := h
    refine W.eq (g2 := F0 m 66 ls [.int r_104]) rfl ?_
    exact hret _ (y_106, s_105, 0 + d_107, 0 + e_108) _ _ _ _ _ ls h hP hD hS (Nat.le_refl _) (Nat.le_refl _) hd.1 hd.2 d_Mo_callStep_66
theorem q3975 : Cond.methodLink "ClassWorksModel" 1072 y_Mo_newThing ∈ lw_ok := lw_okmem (List.mem_of_getElem? (i := 3975) (by decide +kernel)) rfl
theorem q3978 : Cond.code y_Mo_newThing b_Mo_newThing 5 (some .int) ∈ lw_ok := lw_okmem (List.mem_of_getElem? (i := 3978) (by decide +kernel)) rfl
theorem q3977 : Cond.instanceMethod y_Mo_newThing ∈ lw_ok := lw_okmem (List.mem_of_getElem? (i := 3977) (by decide +kernel)) rfl
theorem q283 : Cond.selects y_Mo_newThing.cls y_Mo_newThing y_Mo_newThing ∈ lw_ok := lw_okmem (List.mem_of_getElem? (i := 283) (by decide +kernel)) rfl
theorem w9_Mo_newThing : CWv y_Mo_newThing b_Mo_newThing 5 (some .int) 2 ∧ Cond.instanceMethod y_Mo_newThing ∈ lw_ok ∧ Cond.selects y_Mo_newThing.cls y_Mo_newThing y_Mo_newThing ∈ lw_ok := ⟨⟨q3978, q348, by decide +kernel, by decide +kernel, by decide +kernel⟩, q3977, q283⟩
def y_Mo_newStep : MethodName := ⟨"ClassWorksModel", "newStep", "(II)I"⟩
abbrev b_Mo_newStep : ByteArray := prog_14_method_113_code
theorem d_Mo_newStep_0 : decode b_Mo_newStep 0 = .ok (.aload_n 0, 1) := by decide +kernel
theorem d_Mo_newStep_1 : decode b_Mo_newStep 1 = .ok (.aload_n 0, 1) := by decide +kernel
theorem d_Mo_newStep_2 : decode b_Mo_newStep 2 = .ok (.getfield 522, 3) := by decide +kernel
theorem d_Mo_newStep_5 : decode b_Mo_newStep 5 = .ok (.getfield 677, 3) := by decide +kernel
theorem d_Mo_newStep_8 : decode b_Mo_newStep 8 = .ok (.iload_n 2, 1) := by decide +kernel
theorem d_Mo_newStep_9 : decode b_Mo_newStep 9 = .ok (.iaload, 1) := by decide +kernel
theorem d_Mo_newStep_10 : decode b_Mo_newStep 10 = .ok (.invokevirtual 859, 3) := by decide +kernel
theorem d_Mo_newStep_13 : decode b_Mo_newStep 13 = .ok (.istore_n 3, 1) := by decide +kernel
theorem d_Mo_newStep_14 : decode b_Mo_newStep 14 = .ok (.iload_n 3, 1) := by decide +kernel
theorem d_Mo_newStep_15 : decode b_Mo_newStep 15 = .ok (.ifCond .lt 36, 3) := by decide +kernel
theorem d_Mo_newStep_18 : decode b_Mo_newStep 18 = .ok (.aload_n 0, 1) := by decide +kernel
theorem d_Mo_newStep_19 : decode b_Mo_newStep 19 = .ok (.bipush 7, 2) := by decide +kernel
theorem d_Mo_newStep_21 : decode b_Mo_newStep 21 = .ok (.invokevirtual 609, 3) := by decide +kernel
theorem d_Mo_newStep_24 : decode b_Mo_newStep 24 = .ok (.ifCond .ne 27, 3) := by decide +kernel
theorem d_Mo_newStep_27 : decode b_Mo_newStep 27 = .ok (.aload_n 0, 1) := by decide +kernel
theorem d_Mo_newStep_28 : decode b_Mo_newStep 28 = .ok (.getfield 522, 3) := by decide +kernel
theorem d_Mo_newStep_31 : decode b_Mo_newStep 31 = .ok (.getfield 429, 3) := by decide +kernel
theorem d_Mo_newStep_34 : decode b_Mo_newStep 34 = .ok (.iload_n 3, 1) := by decide +kernel
theorem d_Mo_newStep_35 : decode b_Mo_newStep 35 = .ok (.iaload, 1) := by decide +kernel
theorem d_Mo_newStep_36 : decode b_Mo_newStep 36 = .ok (.bipush 6, 2) := by decide +kernel
theorem d_Mo_newStep_38 : decode b_Mo_newStep 38 = .ok (.iand, 1) := by decide +kernel
theorem d_Mo_newStep_39 : decode b_Mo_newStep 39 = .ok (.ifCond .eq 12, 3) := by decide +kernel
theorem d_Mo_newStep_42 : decode b_Mo_newStep 42 = .ok (.aload_n 0, 1) := by decide +kernel
theorem d_Mo_newStep_43 : decode b_Mo_newStep 43 = .ok (.bipush 57, 2) := by decide +kernel
theorem d_Mo_newStep_45 : decode b_Mo_newStep 45 = .ok (.bipush 19, 2) := by decide +kernel
theorem d_Mo_newStep_47 : decode b_Mo_newStep 47 = .ok (.invokevirtual 850, 3) := by decide +kernel
theorem d_Mo_newStep_50 : decode b_Mo_newStep 50 = .ok (.istore_n 3, 1) := by decide +kernel
theorem d_Mo_newStep_51 : decode b_Mo_newStep 51 = .ok (.iload_n 3, 1) := by decide +kernel
theorem d_Mo_newStep_52 : decode b_Mo_newStep 52 = .ok (.ifCond .ge 18, 3) := by decide +kernel
theorem d_Mo_newStep_55 : decode b_Mo_newStep 55 = .ok (.aload_n 0, 1) := by decide +kernel
theorem d_Mo_newStep_56 : decode b_Mo_newStep 56 = .ok (.bipush 41, 2) := by decide +kernel
theorem d_Mo_newStep_58 : decode b_Mo_newStep 58 = .ok (.aload_n 0, 1) := by decide +kernel
theorem d_Mo_newStep_59 : decode b_Mo_newStep 59 = .ok (.getfield 844, 3) := by decide +kernel
theorem d_Mo_newStep_62 : decode b_Mo_newStep 62 = .ok (.aload_n 0, 1) := by decide +kernel
theorem d_Mo_newStep_63 : decode b_Mo_newStep 63 = .ok (.getfield 847, 3) := by decide +kernel
theorem d_Mo_newStep_66 : decode b_Mo_newStep 66 = .ok (.invokevirtual 1075, 3) := by decide +kernel
theorem d_Mo_newStep_69 : decode b_Mo_newStep 69 = .ok (.ireturn, 1) := by decide +kernel
theorem d_Mo_newStep_70 : decode b_Mo_newStep 70 = .ok (.aload_n 0, 1) := by decide +kernel
theorem d_Mo_newStep_71 : decode b_Mo_newStep 71 = .ok (.iload_n 3, 1) := by decide +kernel
theorem d_Mo_newStep_72 : decode b_Mo_newStep 72 = .ok (.invokevirtual 998, 3) := by decide +kernel
theorem d_Mo_newStep_75 : decode b_Mo_newStep 75 = .ok (.istore 4, 2) := by decide +kernel
theorem d_Mo_newStep_77 : decode b_Mo_newStep 77 = .ok (.iload 4, 2) := by decide +kernel
theorem d_Mo_newStep_79 : decode b_Mo_newStep 79 = .ok (.ifCond .eq 38, 3) := by decide +kernel
theorem d_Mo_newStep_82 : decode b_Mo_newStep 82 = .ok (.iload 4, 2) := by decide +kernel
theorem d_Mo_newStep_84 : decode b_Mo_newStep 84 = .ok (.iconst 3, 1) := by decide +kernel
theorem d_Mo_newStep_85 : decode b_Mo_newStep 85 = .ok (.if_icmp .ne 20, 3) := by decide +kernel
theorem d_Mo_newStep_88 : decode b_Mo_newStep 88 = .ok (.aload_n 0, 1) := by decide +kernel
theorem d_Mo_newStep_89 : decode b_Mo_newStep 89 = .ok (.bipush 41, 2) := by decide +kernel
theorem d_Mo_newStep_91 : decode b_Mo_newStep 91 = .ok (.aload_n 0, 1) := by decide +kernel
theorem d_Mo_newStep_92 : decode b_Mo_newStep 92 = .ok (.getfield 844, 3) := by decide +kernel
theorem d_Mo_newStep_95 : decode b_Mo_newStep 95 = .ok (.aload_n 0, 1) := by decide +kernel
theorem d_Mo_newStep_96 : decode b_Mo_newStep 96 = .ok (.getfield 847, 3) := by decide +kernel
theorem d_Mo_newStep_99 : decode b_Mo_newStep 99 = .ok (.invokevirtual 1075, 3) := by decide +kernel
theorem d_Mo_newStep_102 : decode b_Mo_newStep 102 = .ok (.goto 14, 3) := by decide +kernel
theorem d_Mo_newStep_105 : decode b_Mo_newStep 105 = .ok (.iload 4, 2) := by decide +kernel
theorem d_Mo_newStep_107 : decode b_Mo_newStep 107 = .ok (.iconst 2, 1) := by decide +kernel
theorem d_Mo_newStep_108 : decode b_Mo_newStep 108 = .ok (.if_icmp .ne 7, 3) := by decide +kernel
theorem d_Mo_newStep_111 : decode b_Mo_newStep 111 = .ok (.iconst 2, 1) := by decide +kernel
theorem d_Mo_newStep_112 : decode b_Mo_newStep 112 = .ok (.goto 4, 3) := by decide +kernel
theorem d_Mo_newStep_115 : decode b_Mo_newStep 115 = .ok (.iconst 0, 1) := by decide +kernel
theorem d_Mo_newStep_116 : decode b_Mo_newStep 116 = .ok (.ireturn, 1) := by decide +kernel
theorem d_Mo_newStep_117 : decode b_Mo_newStep 117 = .ok (.aload_n 0, 1) := by decide +kernel
theorem d_Mo_newStep_118 : decode b_Mo_newStep 118 = .ok (.bipush 41, 2) := by decide +kernel
theorem d_Mo_newStep_120 : decode b_Mo_newStep 120 = .ok (.invokevirtual 1032, 3) := by decide +kernel
theorem d_Mo_newStep_123 : decode b_Mo_newStep 123 = .ok (.aload_n 0, 1) := by decide +kernel
theorem d_Mo_newStep_124 : decode b_Mo_newStep 124 = .ok (.iload_n 3, 1) := by decide +kernel
theorem d_Mo_newStep_125 : decode b_Mo_newStep 125 = .ok (.aload_n 0, 1) := by decide +kernel
theorem d_Mo_newStep_126 : decode b_Mo_newStep 126 = .ok (.iload_n 3, 1) := by decide +kernel
theorem d_Mo_newStep_127 : decode b_Mo_newStep 127 = .ok (.invokevirtual 899, 3) := by decide +kernel
theorem d_Mo_newStep_130 : decode b_Mo_newStep 130 = .ok (.invokevirtual 1072, 3) := by decide +kernel
theorem d_Mo_newStep_133 : decode b_Mo_newStep 133 = .ok (.istore 5, 2) := by decide +kernel
theorem d_Mo_newStep_135 : decode b_Mo_newStep 135 = .ok (.iload 5, 2) := by decide +kernel
theorem d_Mo_newStep_137 : decode b_Mo_newStep 137 = .ok (.ifCond .ge 13, 3) := by decide +kernel
theorem d_Mo_newStep_140 : decode b_Mo_newStep 140 = .ok (.aload_n 0, 1) := by decide +kernel
theorem d_Mo_newStep_141 : decode b_Mo_newStep 141 = .ok (.iconst 0, 1) := by decide +kernel
theorem d_Mo_newStep_142 : decode b_Mo_newStep 142 = .ok (.bipush 9, 2) := by decide +kernel
theorem d_Mo_newStep_144 : decode b_Mo_newStep 144 = .ok (.invokevirtual 1001, 3) := by decide +kernel
theorem d_Mo_newStep_147 : decode b_Mo_newStep 147 = .ok (.goto 24, 3) := by decide +kernel
theorem d_Mo_newStep_150 : decode b_Mo_newStep 150 = .ok (.aload_n 0, 1) := by decide +kernel
theorem d_Mo_newStep_151 : decode b_Mo_newStep 151 = .ok (.iload_n 1, 1) := by decide +kernel
theorem d_Mo_newStep_152 : decode b_Mo_newStep 152 = .ok (.iload 5, 2) := by decide +kernel
theorem d_Mo_newStep_154 : decode b_Mo_newStep 154 = .ok (.iconst 1, 1) := by decide +kernel
theorem d_Mo_newStep_155 : decode b_Mo_newStep 155 = .ok (.invokevirtual 970, 3) := by decide +kernel
theorem d_Mo_newStep_158 : decode b_Mo_newStep 158 = .ok (.aload_n 0, 1) := by decide +kernel
theorem d_Mo_newStep_159 : decode b_Mo_newStep 159 = .ok (.getfield 917, 3) := by decide +kernel
theorem d_Mo_newStep_162 : decode b_Mo_newStep 162 = .ok (.getfield 930, 3) := by decide +kernel
theorem d_Mo_newStep_165 : decode b_Mo_newStep 165 = .ok (.iload_n 1, 1) := by decide +kernel
theorem d_Mo_newStep_166 : decode b_Mo_newStep 166 = .ok (.dup2, 1) := by decide +kernel
theorem d_Mo_newStep_167 : decode b_Mo_newStep 167 = .ok (.iaload, 1) := by decide +kernel
theorem d_Mo_newStep_168 : decode b_Mo_newStep 168 = .ok (.iconst 1, 1) := by decide +kernel
theorem d_Mo_newStep_169 : decode b_Mo_newStep 169 = .ok (.iadd, 1) := by decide +kernel
theorem d_Mo_newStep_170 : decode b_Mo_newStep 170 = .ok (.iastore, 1) := by decide +kernel
theorem d_Mo_newStep_171 : decode b_Mo_newStep 171 = .ok (.iconst 1, 1) := by decide +kernel
theorem d_Mo_newStep_172 : decode b_Mo_newStep 172 = .ok (.ireturn, 1) := by decide +kernel
abbrev ra_Mo_newStep (mc ms : Nat) : Room := { frames := 470, cells := mc, slots := ms, locals := 11432 }
def wja_Mo_newStep_171 (mc ms : Nat) (Post : Ly → St → Int32 → Nat → Nat → Prop) (a0 : Nat) (y_j171 : Ly) (s_j171 : St) (d_j171 e_j171 : Nat) : Prop := (d_j171 ≤ mc ∧ e_j171 ≤ ms) ∧ Post y_j171 s_j171 1 d_j171 e_j171
def wja_Mo_newStep_116 (mc ms : Nat) (Post : Ly → St → Int32 → Nat → Nat → Prop) (a0 : Nat) (y_j116 : Ly) (s_j116 : St) (d_j116 e_j116 : Nat) (z0j116 : Int32) : Prop := (d_j116 ≤ mc ∧ e_j116 ≤ ms) ∧ Post y_j116 s_j116 z0j116 d_j116 e_j116
def wja_Mo_newStep_51 (mc ms : Nat) (Post : Ly → St → Int32 → Nat → Nat → Prop) (a0 : Nat) (y_j51 : Ly) (s_j51 : St) (d_j51 e_j51 : Nat) (x1j51 : Int32) (x3j51 : Int32) : Prop := (d_j51 ≤ mc ∧ e_j51 ≤ ms) ∧ ((0 ≤ x3j51 → wu_Mo_startOf y_j51 (fun (s_8 : St) (r_7 : Int32) => ((r_7 = 0 → wu_Mo_tally y_j51 (fun (s_10 : St) => wu_Mo_fieldsOf y_j51 (fun (s_12 : St) (r_11 : Int32) => wu_Mo_newThing y_j51 (fun (s_14 : St) (r_13 : Int32) => ((0 ≤ r_13 → wu_Mo_push y_j51 (fun (s_16 : St) => ∃ b_17 : Nat, sO s_16 a0 46 = some b_17 ∧ cl b_17 = 12 ∧ xA y_j51 s_16 b_17 18 x1j51 (fun x_20 : Int32 => xS y_j51 s_16 b_17 18 x1j51 (x_20 + 1) (fun s_21 : St => wja_Mo_newStep_171 mc ms Post a0 y_j51 s_21 d_j51 e_j51))) s_14 a0 x1j51 r_13 1) ∧ (¬ (0 ≤ r_13) → ∃ mc_27 ms_28 : Nat, (d_j51 + mc_27 ≤ mc ∧ e_j51 + ms_28 ≤ ms) ∧ wa_Mo_throwNew mc_27 ms_28 y_j51 (fun (y_24 : Ly) (s_23 : St) (d_25 e_26 : Nat) => (d_j51 + d_25 ≤ mc ∧ e_j51 + e_26 ≤ ms) ∧ wja_Mo_newStep_171 mc ms Post a0 y_24 s_23 (d_j51 + d_25) (e_j51 + e_26)) s_14 a0 0 9))) s_12 a0 x3j51 r_11) s_10 a0 x3j51) s_8 a0 41) ∧ (¬ (r_7 = 0) → ((¬ r_7 = 3 → ((¬ r_7 = 2 → wja_Mo_newStep_116 mc ms Post a0 y_j51 s_8 d_j51 e_j51 0) ∧ (r_7 = 2 → wja_Mo_newStep_116 mc ms Post a0 y_j51 s_8 d_j51 e_j51 2))) ∧ (r_7 = 3 → ∃ mc_35 ms_36 : Nat, (d_j51 + mc_35 ≤ mc ∧ e_j51 + ms_36 ≤ ms) ∧ wa_Mo_throwsAt mc_35 ms_36 y_j51 (fun (y_32 : Ly) (s_31 : St) (r_30 : Int32) (d_33 e_34 : Nat) => (d_j51 + d_33 ≤ mc ∧ e_j51 + e_34 ≤ ms) ∧ wja_Mo_newStep_116 mc ms Post a0 y_32 s_31 (d_j51 + d_33) (e_j51 + e_34) r_30) s_8 a0 41 (sV s_8 a0 81) (sV s_8 a0 80)))))) s_j51 a0 x3j51) ∧ (¬ (0 ≤ x3j51) → ∃ mc_43 ms_44 : Nat, (d_j51 + mc_43 ≤ mc ∧ e_j51 + ms_44 ≤ ms) ∧ wa_Mo_throwsAt mc_43 ms_44 y_j51 (fun (y_40 : Ly) (s_39 : St) (r_38 : Int32) (d_41 e_42 : Nat) => (d_j51 + d_41 ≤ mc ∧ e_j51 + e_42 ≤ ms) ∧ Post y_40 s_39 r_38 (d_j51 + d_41) (e_j51 + e_42)) s_j51 a0 41 (sV s_j51 a0 81) (sV s_j51 a0 80)))
def wa_Mo_newStep (mc ms : Nat) (y : Ly) (Post : Ly → St → Int32 → Nat → Nat → Prop) (σ : St) (a0 : Nat) (v1 : Int32) (v2 : Int32) : Prop := ∃ b_1 : Nat, sO σ a0 45 = some b_1 ∧ cl b_1 = 13 ∧ xA y σ b_1 31 v2 (fun x_4 : Int32 => wu_Mo_findLinked y (fun (s_6 : St) (r_5 : Int32) => ((r_5 < 0 → wja_Mo_newStep_51 mc ms Post a0 y s_6 0 0 v1 r_5) ∧ (¬ (r_5 < 0) → wu_Mo_isOff y (fun (s_47 : St) (r_46 : Int32) => ((¬ r_46 = 0 → wja_Mo_newStep_51 mc ms Post a0 y s_47 0 0 v1 r_5) ∧ (r_46 = 0 → ∃ b_48 : Nat, sO s_47 a0 45 = some b_48 ∧ cl b_48 = 13 ∧ xA y s_47 b_48 5 r_5 (fun x_51 : Int32 => (((x_51 &&& 6) = 0 → wja_Mo_newStep_51 mc ms Post a0 y s_47 0 0 v1 r_5) ∧ (¬ ((x_51 &&& 6) = 0) → wu_Mo_fails y (fun (s_53 : St) (r_52 : Int32) => wja_Mo_newStep_51 mc ms Post a0 y s_53 0 0 v1 r_52) s_47 a0 57 19)))))) s_6 a0 7))) σ a0 x_4)
set_option maxHeartbeats 4000000 in
set_option maxRecDepth 100000 in
theorem ca_Mo_newStep (l : Launch) (D : va_G) (g : Nat → ClassId) (ad : Nat → Nat) (mc ms : Nat) (y : Ly) (Post : Ly → St → Int32 → Nat → Nat → Prop) (σ : St) (a0 : Nat) (v1 : Int32) (v2 : Int32) (sz uz : Nat) (h_a0 : cl a0 = 14) (h : wa_Mo_newStep mc ms y Post σ a0 v1 v2) : Met l y_Mo_newStep (mw y_Mo_newStep b_Mo_newStep 6 (some .int)) (ra_Mo_newStep mc ms) (PCu g D [] [.ref (ad a0), .int v1, .int v2] sz uz (ws g ad y σ)) (va_Qi (fun (r : Int32) (u : Ly × St × Nat × Nat) => Post u.1 u.2.1 r u.2.2.1 u.2.2.2) (QU D (va_A (ws g ad y σ) sz) (fun u => ws g ad u.1 u.2.1) sz uz (fun u => u.2.2.1) (fun u => u.2.2.2)) (va_A (ws g ad y σ) sz)) mc ms (va_A (ws g ad y σ) sz) := by
  refine ofIu (by decide +kernel) (Nat.le_of_ble_eq_true rfl) ?_
  intro p e s m args below meth c A Q ls H locs G hsz hP hD hS hl hret
  subst hsz
  have hl : lv_has ls 6 [(0, .ref (ad a0)), (1, .int v1), (2, .int v2)] := hl
  have hd : 0 ≤ mc ∧ 0 ≤ ms := ⟨Nat.zero_le _, Nat.zero_le _⟩
  unfold wa_Mo_newStep at h
  refine lv_aload_n G.1 G.2.1 d_Mo_newStep_0 rfl (lv_at hl 0 rfl) ?_
  refine lv_aload_n G.1 G.2.1 d_Mo_newStep_1 rfl (lv_at hl 0 rfl) ?_
  obtain ⟨b_1, e_2, c_3, h⟩ := h
  refine ugf (v := .ref (ad b_1)) G hP h_a0 iMo rfl 45 (by decide) rfl q3109 rfl (by show va_rf ((sO σ a0 45).map ad) = _; rw [e_2]; rfl) d_Mo_newStep_2 ?_
  refine ugfN (v := .ref (yP y b_1 31)) G hP c_3 iMw rfl 31 (by decide) rfl q2766 rfl rfl d_Mo_newStep_5 ?_
  refine lv_iload_n G.1 G.2.1 d_Mo_newStep_8 rfl (lv_at hl 2 rfl) ?_
  refine uiald G hP (kdp c_3 rfl) (typ c_3 rfl) h d_Mo_newStep_9 (fun x_4 h => ?_)
  refine ucVi (As := [.int x_4]) (rest := []) G hP hD hS (cu_Mo_findLinked l D g ad y _ σ a0 x_4 H.size h_a0 h) w9_Mo_findLinked q3855 ⟨Nat.le_of_ble_eq_true rfl, Nat.le_of_ble_eq_true rfl⟩ rfl rfl h_a0 (q := (RMo, TMo, 131)) rfl rfl hl.1 rfl (Nat.le_of_ble_eq_true rfl) rfl hd d_Mo_newStep_10 (fun r_5 s_6 H locs h hP hD hS => ?_)
  refine lv_istore_n (lv' := [(3, .int r_5), (0, .ref (ad a0)), (1, .int v1), (2, .int v2)]) G.1 G.2.1 d_Mo_newStep_13 rfl hl (by decide) rfl (fun ls hl => ?_)
  refine lv_iload_n G.1 G.2.1 d_Mo_newStep_14 rfl (lv_at hl 0 rfl) ?_
  have J_51 : ∀ (y_j51 : Ly) (s_j51 : St) (d_j51 e_j51 : Nat) (x1j51 : Int32) (x3j51 : Int32) (H : Heap) (locs : List Loc), wja_Mo_newStep_51 mc ms Post a0 y_j51 s_j51 d_j51 e_j51 x1j51 x3j51 → va_P D CL (ws g ad y_j51 s_j51) H → va_D A (ws g ad y_j51 s_j51) → va_S A s.heap H locs → ∀ ls, lv_has ls 6 [(0, .ref (ad a0)), (1, .int x1j51), (3, .int x3j51)] → W p l e (ra_Mo_newStep mc ms) s m args below meth c H locs d_j51 e_j51 Q (F0 m 51 ls []) := by
    intro y_j51 s_j51 d_j51 e_j51 x1j51 x3j51 H locs h hP hD hS ls hl
    unfold wja_Mo_newStep_51 at h
    obtain ⟨hd, h⟩ := h
    refine lv_iload_n G.1 G.2.1 d_Mo_newStep_51 rfl (lv_at hl 2 rfl) ?_
    refine lv_if_ge (tgt := 70) G.1 G.2.1 d_Mo_newStep_52 (by decide) (fun c52 => ?_) (fun c52 => ?_)
    · skip
      have h := h.1 c52
      refine lv_aload_n G.1 G.2.1 d_Mo_newStep_70 rfl (lv_at hl 0 rfl) ?_
      refine lv_iload_n G.1 G.2.1 d_Mo_newStep_71 rfl (lv_at hl 2 rfl) ?_
      refine ucVi (As := [.int x3j51]) (rest := []) G hP hD hS (cu_Mo_startOf l D g ad y_j51 _ s_j51 a0 x3j51 H.size h_a0 h) w9_Mo_startOf q3875 ⟨Nat.le_of_ble_eq_true rfl, Nat.le_of_ble_eq_true rfl⟩ rfl rfl h_a0 (q := (RMo, TMo, 131)) rfl rfl hl.1 rfl (Nat.le_of_ble_eq_true rfl) rfl hd d_Mo_newStep_72 (fun r_7 s_8 H locs h hP hD hS => ?_)
      refine lv_istore (lv' := [(4, .int r_7), (0, .ref (ad a0)), (1, .int x1j51), (3, .int x3j51)]) G.1 G.2.1 d_Mo_newStep_75 hl (by decide) rfl (fun ls hl => ?_)
      refine lv_iload G.1 G.2.1 d_Mo_newStep_77 (lv_at hl 0 rfl) ?_
      refine lv_if_eq (tgt := 117) G.1 G.2.1 d_Mo_newStep_79 (by decide) (fun c79 => ?_) (fun c79 => ?_)
      · skip
        have h := h.1 c79
        refine lv_aload_n G.1 G.2.1 d_Mo_newStep_117 rfl (lv_at hl 1 rfl) ?_
        refine lv_bipush (v := 41) G.1 G.2.1 d_Mo_newStep_118 (by decide) ?_
        refine ucVv (As := [.int 41]) (rest := []) G hP hD hS (cu_Mo_tally l D g ad y_j51 _ s_8 a0 41 H.size h_a0 h) w9_Mo_tally q3943 ⟨Nat.le_of_ble_eq_true rfl, Nat.le_of_ble_eq_true rfl⟩ rfl rfl h_a0 (q := (RMo, TMo, 131)) rfl rfl hl.1 rfl (Nat.le_of_ble_eq_true rfl) rfl hd d_Mo_newStep_120 (fun s_10 H locs h hP hD hS => ?_)
        refine W.eq (g2 := F0 m 123 ls []) rfl ?_
        refine lv_aload_n G.1 G.2.1 d_Mo_newStep_123 rfl (lv_at hl 1 rfl) ?_
        refine lv_iload_n G.1 G.2.1 d_Mo_newStep_124 rfl (lv_at hl 3 rfl) ?_
        refine lv_aload_n G.1 G.2.1 d_Mo_newStep_125 rfl (lv_at hl 1 rfl) ?_
        refine lv_iload_n G.1 G.2.1 d_Mo_newStep_126 rfl (lv_at hl 3 rfl) ?_
        refine ucVi (As := [.int x3j51]) (rest := [.int x3j51, .ref (ad a0)]) G hP hD hS (cu_Mo_fieldsOf l D g ad y_j51 _ s_10 a0 x3j51 H.size h_a0 h) w9_Mo_fieldsOf q3955 ⟨Nat.le_of_ble_eq_true rfl, Nat.le_of_ble_eq_true rfl⟩ rfl rfl h_a0 (q := (RMo, TMo, 131)) rfl rfl hl.1 rfl (Nat.le_of_ble_eq_true rfl) rfl hd d_Mo_newStep_127 (fun r_11 s_12 H locs h hP hD hS => ?_)
        refine ucVi (As := [.int x3j51, .int r_11]) (rest := []) G hP hD hS (cu_Mo_newThing l D g ad y_j51 _ s_12 a0 x3j51 r_11 H.size h_a0 h) w9_Mo_newThing q3975 ⟨Nat.le_of_ble_eq_true rfl, Nat.le_of_ble_eq_true rfl⟩ rfl rfl h_a0 (q := (RMo, TMo, 131)) rfl rfl hl.1 rfl (Nat.le_of_ble_eq_true rfl) rfl hd d_Mo_newStep_130 (fun r_13 s_14 H locs h hP hD hS => ?_)
        refine lv_istore (lv' := [(5, .int r_13), (4, .int r_7), (0, .ref (ad a0)), (1, .int x1j51), (3, .int x3j51)]) G.1 G.2.1 d_Mo_newStep_133 hl (by decide) rfl (fun ls hl => ?_)
        refine lv_iload G.1 G.2.1 d_Mo_newStep_135 (lv_at hl 0 rfl) ?_
        have J_171 : ∀ (y_j171 : Ly) (s_j171 : St) (d_j171 e_j171 : Nat) (H : Heap) (locs : List Loc), wja_Mo_newStep_171 mc ms Post a0 y_j171 s_j171 d_j171 e_j171 → va_P D CL (ws g ad y_j171 s_j171) H → va_D A (ws g ad y_j171 s_j171) → va_S A s.heap H locs → ∀ ls, lv_has ls 6 [] → W p l e (ra_Mo_newStep mc ms) s m args below meth c H locs d_j171 e_j171 Q (F0 m 171 ls []) := by
          intro y_j171 s_j171 d_j171 e_j171 H locs h hP hD hS ls hl
          unfold wja_Mo_newStep_171 at h
          obtain ⟨hd, h⟩ := h
          refine lv_iconst (v := 1) G.1 G.2.1 d_Mo_newStep_171 (by decide) ?_
          exact hret _ (y_j171, s_j171, d_j171, e_j171) _ _ _ _ _ ls h hP hD hS (Nat.le_refl _) (Nat.le_refl _) hd.1 hd.2 d_Mo_newStep_172
        refine lv_if_ge (tgt := 150) G.1 G.2.1 d_Mo_newStep_137 (by decide) (fun c137 => ?_) (fun c137 => ?_)
        · skip
          have h := h.1 c137
          refine lv_aload_n G.1 G.2.1 d_Mo_newStep_150 rfl (lv_at hl 2 rfl) ?_
          refine lv_iload_n G.1 G.2.1 d_Mo_newStep_151 rfl (lv_at hl 3 rfl) ?_
          refine lv_iload G.1 G.2.1 d_Mo_newStep_152 (lv_at hl 0 rfl) ?_
          refine W.eq (g2 := F0 m 154 ls [.int r_13, .int x1j51, .ref (ad a0)]) rfl ?_
          refine lv_iconst (v := 1) G.1 G.2.1 d_Mo_newStep_154 (by decide) ?_
          refine ucVv (As := [.int x1j51, .int r_13, .int 1]) (rest := []) G hP hD hS (cu_Mo_push l D g ad y_j51 _ s_14 a0 x1j51 r_13 1 H.size h_a0 h) w9_Mo_push q3907 ⟨Nat.le_of_ble_eq_true rfl, Nat.le_of_ble_eq_true rfl⟩ rfl rfl h_a0 (q := (RMo, TMo, 131)) rfl rfl hl.1 rfl (Nat.le_of_ble_eq_true rfl) rfl hd d_Mo_newStep_155 (fun s_16 H locs h hP hD hS => ?_)
          refine lv_aload_n G.1 G.2.1 d_Mo_newStep_158 rfl (lv_at hl 2 rfl) ?_
          obtain ⟨b_17, e_18, c_19, h⟩ := h
          refine ugf (v := .ref (ad b_17)) G hP h_a0 iMo rfl 46 (by decide) rfl q3110 rfl (by show va_rf ((sO s_16 a0 46).map ad) = _; rw [e_18]; rfl) d_Mo_newStep_159 ?_
          refine ugfN (v := .ref (yP y_j51 b_17 18)) G hP c_19 iMr rfl 18 (by decide) rfl q3009 rfl rfl d_Mo_newStep_162 ?_
          refine lv_iload_n G.1 G.2.1 d_Mo_newStep_165 rfl (lv_at hl 3 rfl) ?_
          refine lv_dup2_11 G.1 G.2.1 d_Mo_newStep_166 rfl rfl ?_
          refine uiald G hP (kdp c_19 rfl) (typ c_19 rfl) h d_Mo_newStep_167 (fun x_20 h => ?_)
          refine lv_iconst (v := 1) G.1 G.2.1 d_Mo_newStep_168 (by decide) ?_
          refine lv_iadd G.1 G.2.1 d_Mo_newStep_169 ?_
          refine uiast G hP hD hS (kdp c_19 rfl) (typ c_19 rfl) h d_Mo_newStep_170 (fun s_21 H locs h hP hD hS => ?_)
          exact J_171 y_j51 s_21 d_j51 e_j51 H locs h hP hD hS ls (lv_sub hl [] rfl)
        · skip
          have h := h.2 c137
          refine lv_aload_n G.1 G.2.1 d_Mo_newStep_140 rfl (lv_at hl 2 rfl) ?_
          refine lv_iconst (v := 0) G.1 G.2.1 d_Mo_newStep_141 (by decide) ?_
          refine lv_bipush (v := 9) G.1 G.2.1 d_Mo_newStep_142 (by decide) ?_
          refine W.eq (g2 := F0 m 144 ls [.int 9, .int 0, .ref (ad a0)]) rfl ?_
          obtain ⟨mc_27, ms_28, hr_29, h⟩ := h
          refine uaVv (As := [.int 0, .int 9]) (rest := []) G hP hD hS (ca_Mo_throwNew l D g ad mc_27 ms_28 y_j51 _ s_14 a0 0 9 H.size (us H) h_a0 h) w9_Mo_throwNew q3883 ⟨Nat.le_of_ble_eq_true rfl, Nat.le_of_ble_eq_true rfl⟩ rfl rfl h_a0 (q := (RMo, TMo, 131)) rfl rfl hl.1 rfl (Nat.le_of_ble_eq_true rfl) rfl hr_29 d_Mo_newStep_144 (fun y_24 s_23 d_25 e_26 H locs h hP hD hS => ?_)
          have hl := lv_sub (l' := []) hl [] rfl
          obtain ⟨hd, h⟩ := h
          refine lv_goto (tgt := 171) G.1 G.2.1 d_Mo_newStep_147 (by decide) ?_
          exact J_171 y_24 s_23 (d_j51 + d_25) (e_j51 + e_26) H locs h hP hD hS ls (lv_sub hl [] rfl)
      · skip
        have h := h.2 c79
        refine lv_iload G.1 G.2.1 d_Mo_newStep_82 (lv_at hl 0 rfl) ?_
        refine lv_iconst (v := 3) G.1 G.2.1 d_Mo_newStep_84 (by decide) ?_
        have J_116 : ∀ (y_j116 : Ly) (s_j116 : St) (d_j116 e_j116 : Nat) (z0j116 : Int32) (H : Heap) (locs : List Loc), wja_Mo_newStep_116 mc ms Post a0 y_j116 s_j116 d_j116 e_j116 z0j116 → va_P D CL (ws g ad y_j116 s_j116) H → va_D A (ws g ad y_j116 s_j116) → va_S A s.heap H locs → ∀ ls, lv_has ls 6 [] → W p l e (ra_Mo_newStep mc ms) s m args below meth c H locs d_j116 e_j116 Q (F0 m 116 ls [.int z0j116]) := by
          intro y_j116 s_j116 d_j116 e_j116 z0j116 H locs h hP hD hS ls hl
          unfold wja_Mo_newStep_116 at h
          obtain ⟨hd, h⟩ := h
          exact hret _ (y_j116, s_j116, d_j116, e_j116) _ _ _ _ _ ls h hP hD hS (Nat.le_refl _) (Nat.le_refl _) hd.1 hd.2 d_Mo_newStep_116
        refine lv_icmp_ne (tgt := 105) G.1 G.2.1 d_Mo_newStep_85 (by decide) (fun c85 => ?_) (fun c85 => ?_)
        · skip
          have h := h.1 c85
          refine W.eq (g2 := F0 m 105 ls []) rfl ?_
          refine lv_iload G.1 G.2.1 d_Mo_newStep_105 (lv_at hl 0 rfl) ?_
          refine lv_iconst (v := 2) G.1 G.2.1 d_Mo_newStep_107 (by decide) ?_
          refine lv_icmp_ne (tgt := 115) G.1 G.2.1 d_Mo_newStep_108 (by decide) (fun c108 => ?_) (fun c108 => ?_)
          · skip
            have h := h.1 c108
            refine lv_iconst (v := 0) G.1 G.2.1 d_Mo_newStep_115 (by decide) ?_
            exact J_116 y_j51 s_8 d_j51 e_j51 0 H locs h hP hD hS ls (lv_sub hl [] rfl)
          · skip
            have h := h.2 c108
            refine lv_iconst (v := 2) G.1 G.2.1 d_Mo_newStep_111 (by decide) ?_
            refine lv_goto (tgt := 116) G.1 G.2.1 d_Mo_newStep_112 (by decide) ?_
            exact J_116 y_j51 s_8 d_j51 e_j51 2 H locs h hP hD hS ls (lv_sub hl [] rfl)
        · skip
          have h := h.2 c85
          refine W.eq (g2 := F0 m 88 ls []) rfl ?_
          refine lv_aload_n G.1 G.2.1 d_Mo_newStep_88 rfl (lv_at hl 1 rfl) ?_
          refine lv_bipush (v := 41) G.1 G.2.1 d_Mo_newStep_89 (by decide) ?_
          refine lv_aload_n G.1 G.2.1 d_Mo_newStep_91 rfl (lv_at hl 1 rfl) ?_
          refine ugf (v := .int (sV s_8 a0 81)) G hP h_a0 iMo rfl 81 (by decide) rfl q3145 rfl rfl d_Mo_newStep_92 ?_
          refine lv_aload_n G.1 G.2.1 d_Mo_newStep_95 rfl (lv_at hl 1 rfl) ?_
          refine ugf (v := .int (sV s_8 a0 80)) G hP h_a0 iMo rfl 80 (by decide) rfl q3144 rfl rfl d_Mo_newStep_96 ?_
          obtain ⟨mc_35, ms_36, hr_37, h⟩ := h
          refine uaVi (As := [.int 41, .int (sV s_8 a0 81), .int (sV s_8 a0 80)]) (rest := []) G hP hD hS (ca_Mo_throwsAt l D g ad mc_35 ms_36 y_j51 _ s_8 a0 41 (sV s_8 a0 81) (sV s_8 a0 80) H.size (us H) h_a0 h) w9_Mo_throwsAt q3939 ⟨Nat.le_of_ble_eq_true rfl, Nat.le_of_ble_eq_true rfl⟩ rfl rfl h_a0 (q := (RMo, TMo, 131)) rfl rfl hl.1 rfl (Nat.le_of_ble_eq_true rfl) rfl hr_37 d_Mo_newStep_99 (fun r_30 y_32 s_31 d_33 e_34 H locs h hP hD hS => ?_)
          have hl := lv_sub (l' := []) hl [] rfl
          obtain ⟨hd, h⟩ := h
          refine lv_goto (tgt := 116) G.1 G.2.1 d_Mo_newStep_102 (by decide) ?_
          exact J_116 y_32 s_31 (d_j51 + d_33) (e_j51 + e_34) r_30 H locs h hP hD hS ls (lv_sub hl [] rfl)
    · skip
      have h := h.2 c52
      refine lv_aload_n G.1 G.2.1 d_Mo_newStep_55 rfl (lv_at hl 0 rfl) ?_
      refine lv_bipush (v := 41) G.1 G.2.1 d_Mo_newStep_56 (by decide) ?_
      refine lv_aload_n G.1 G.2.1 d_Mo_newStep_58 rfl (lv_at hl 0 rfl) ?_
      refine ugf (v := .int (sV s_j51 a0 81)) G hP h_a0 iMo rfl 81 (by decide) rfl q3145 rfl rfl d_Mo_newStep_59 ?_
      refine lv_aload_n G.1 G.2.1 d_Mo_newStep_62 rfl (lv_at hl 0 rfl) ?_
      refine ugf (v := .int (sV s_j51 a0 80)) G hP h_a0 iMo rfl 80 (by decide) rfl q3144 rfl rfl d_Mo_newStep_63 ?_
      obtain ⟨mc_43, ms_44, hr_45, h⟩ := h
      refine uaVi (As := [.int 41, .int (sV s_j51 a0 81), .int (sV s_j51 a0 80)]) (rest := []) G hP hD hS (ca_Mo_throwsAt l D g ad mc_43 ms_44 y_j51 _ s_j51 a0 41 (sV s_j51 a0 81) (sV s_j51 a0 80) H.size (us H) h_a0 h) w9_Mo_throwsAt q3939 ⟨Nat.le_of_ble_eq_true rfl, Nat.le_of_ble_eq_true rfl⟩ rfl rfl h_a0 (q := (RMo, TMo, 131)) rfl rfl hl.1 rfl (Nat.le_of_ble_eq_true rfl) rfl hr_45 d_Mo_newStep_66 (fun r_38 y_40 s_39 d_41 e_42 H locs h hP hD hS => ?_)
      have hl := lv_sub (l' := []) hl [] rfl
      obtain ⟨hd, h⟩ := h
      exact hret _ (y_40, s_39, d_j51 + d_41, e_j51 + e_42) _ _ _ _ _ ls h hP hD hS (Nat.le_refl _) (Nat.le_refl _) hd.1 hd.2 d_Mo_newStep_69
  refine lv_if_lt (tgt := 51) G.1 G.2.1 d_Mo_newStep_15 (by decide) (fun c15 => ?_) (fun c15 => ?_)
  · skip
    have h := h.1 c15
    exact J_51 y s_6 0 0 v1 r_5 H locs h hP hD hS ls (lv_sub hl [1, 2, 0] rfl)
  · skip
    have h := h.2 c15
    refine lv_aload_n G.1 G.2.1 d_Mo_newStep_18 rfl (lv_at hl 1 rfl) ?_
    refine W.eq (g2 := F0 m 19 ls [.ref (ad a0)]) rfl ?_
    refine lv_bipush (v := 7) G.1 G.2.1 d_Mo_newStep_19 (by decide) ?_
    refine ucVi (As := [.int 7]) (rest := []) G hP hD hS (cu_Mo_isOff l D g ad y _ s_6 a0 7 H.size h_a0 h) w9_Mo_isOff q3579 ⟨Nat.le_of_ble_eq_true rfl, Nat.le_of_ble_eq_true rfl⟩ rfl rfl h_a0 (q := (RMo, TMo, 131)) rfl rfl hl.1 rfl (Nat.le_of_ble_eq_true rfl) rfl hd d_Mo_newStep_21 (fun r_46 s_47 H locs h hP hD hS => ?_)
    refine lv_if_ne (tgt := 51) G.1 G.2.1 d_Mo_newStep_24 (by decide) (fun c24 => ?_) (fun c24 => ?_)
    · skip
      have h := h.1 c24
      exact J_51 y s_47 0 0 v1 r_5 H locs h hP hD hS ls (lv_sub hl [1, 2, 0] rfl)
    · skip
      have h := h.2 c24
      refine lv_aload_n G.1 G.2.1 d_Mo_newStep_27 rfl (lv_at hl 1 rfl) ?_
      obtain ⟨b_48, e_49, c_50, h⟩ := h
      refine ugf (v := .ref (ad b_48)) G hP h_a0 iMo rfl 45 (by decide) rfl q3109 rfl (by show va_rf ((sO s_47 a0 45).map ad) = _; rw [e_49]; rfl) d_Mo_newStep_28 ?_
      refine ugfN (v := .ref (yP y b_48 5)) G hP c_50 iMw rfl 5 (by decide) rfl q2714 rfl rfl d_Mo_newStep_31 ?_
      refine lv_iload_n G.1 G.2.1 d_Mo_newStep_34 rfl (lv_at hl 0 rfl) ?_
      refine uiald G hP (kdp c_50 rfl) (typ c_50 rfl) h d_Mo_newStep_35 (fun x_51 h => ?_)
      refine lv_bipush (v := 6) G.1 G.2.1 d_Mo_newStep_36 (by decide) ?_
      refine lv_iand G.1 G.2.1 d_Mo_newStep_38 ?_
      refine lv_if_eq (tgt := 51) G.1 G.2.1 d_Mo_newStep_39 (by decide) (fun c39 => ?_) (fun c39 => ?_)
      · skip
        have h := h.1 c39
        exact J_51 y s_47 0 0 v1 r_5 H locs h hP hD hS ls (lv_sub hl [1, 2, 0] rfl)
      · skip
        have h := h.2 c39
        refine lv_aload_n G.1 G.2.1 d_Mo_newStep_42 rfl (lv_at hl 1 rfl) ?_
        refine W.eq (g2 := F0 m 43 ls [.ref (ad a0)]) rfl ?_
        refine lv_bipush (v := 57) G.1 G.2.1 d_Mo_newStep_43 (by decide) ?_
        refine lv_bipush (v := 19) G.1 G.2.1 d_Mo_newStep_45 (by decide) ?_
        refine ucVi (As := [.int 57, .int 19]) (rest := []) G hP hD hS (cu_Mo_fails l D g ad y _ s_47 a0 57 19 H.size h_a0 h) w9_Mo_fails q3859 ⟨Nat.le_of_ble_eq_true rfl, Nat.le_of_ble_eq_true rfl⟩ rfl rfl h_a0 (q := (RMo, TMo, 131)) rfl rfl hl.1 rfl (Nat.le_of_ble_eq_true rfl) rfl hd d_Mo_newStep_47 (fun r_52 s_53 H locs h hP hD hS => ?_)
        refine lv_istore_n (lv' := [(3, .int r_52), (0, .ref (ad a0)), (1, .int v1), (2, .int v2)]) G.1 G.2.1 d_Mo_newStep_50 rfl hl (by decide) rfl (fun ls hl => ?_)
        exact J_51 y s_53 0 0 v1 r_52 H locs h hP hD hS ls (lv_sub hl [1, 2, 0] rfl)
def y_Mo_classStep : MethodName := ⟨"ClassWorksModel", "classStep", "(III)I"⟩
abbrev b_Mo_classStep : ByteArray := prog_14_method_115_code
theorem d_Mo_classStep_0 : decode b_Mo_classStep 0 = .ok (.aload_n 0, 1) := by decide +kernel
theorem d_Mo_classStep_1 : decode b_Mo_classStep 1 = .ok (.iload_n 3, 1) := by decide +kernel
theorem d_Mo_classStep_2 : decode b_Mo_classStep 2 = .ok (.invokevirtual 1032, 3) := by decide +kernel
theorem d_Mo_classStep_5 : decode b_Mo_classStep 5 = .ok (.bipush 44, 2) := by decide +kernel
theorem d_Mo_classStep_7 : decode b_Mo_classStep 7 = .ok (.iload_n 1, 1) := by decide +kernel
theorem d_Mo_classStep_8 : decode b_Mo_classStep 8 = .ok (.imul, 1) := by decide +kernel
theorem d_Mo_classStep_9 : decode b_Mo_classStep 9 = .ok (.bipush 20, 2) := by decide +kernel
theorem d_Mo_classStep_11 : decode b_Mo_classStep 11 = .ok (.iadd, 1) := by decide +kernel
theorem d_Mo_classStep_12 : decode b_Mo_classStep 12 = .ok (.aload_n 0, 1) := by decide +kernel
theorem d_Mo_classStep_13 : decode b_Mo_classStep 13 = .ok (.getfield 917, 3) := by decide +kernel
theorem d_Mo_classStep_16 : decode b_Mo_classStep 16 = .ok (.getfield 933, 3) := by decide +kernel
theorem d_Mo_classStep_19 : decode b_Mo_classStep 19 = .ok (.iload_n 1, 1) := by decide +kernel
theorem d_Mo_classStep_20 : decode b_Mo_classStep 20 = .ok (.iaload, 1) := by decide +kernel
theorem d_Mo_classStep_21 : decode b_Mo_classStep 21 = .ok (.iadd, 1) := by decide +kernel
theorem d_Mo_classStep_22 : decode b_Mo_classStep 22 = .ok (.iconst 1, 1) := by decide +kernel
theorem d_Mo_classStep_23 : decode b_Mo_classStep 23 = .ok (.isub, 1) := by decide +kernel
theorem d_Mo_classStep_24 : decode b_Mo_classStep 24 = .ok (.istore 4, 2) := by decide +kernel
theorem d_Mo_classStep_26 : decode b_Mo_classStep 26 = .ok (.aload_n 0, 1) := by decide +kernel
theorem d_Mo_classStep_27 : decode b_Mo_classStep 27 = .ok (.getfield 917, 3) := by decide +kernel
theorem d_Mo_classStep_30 : decode b_Mo_classStep 30 = .ok (.getfield 936, 3) := by decide +kernel
theorem d_Mo_classStep_33 : decode b_Mo_classStep 33 = .ok (.iload 4, 2) := by decide +kernel
theorem d_Mo_classStep_35 : decode b_Mo_classStep 35 = .ok (.iaload, 1) := by decide +kernel
theorem d_Mo_classStep_36 : decode b_Mo_classStep 36 = .ok (.istore 5, 2) := by decide +kernel
theorem d_Mo_classStep_38 : decode b_Mo_classStep 38 = .ok (.iconst 0, 1) := by decide +kernel
theorem d_Mo_classStep_39 : decode b_Mo_classStep 39 = .ok (.istore 6, 2) := by decide +kernel
theorem d_Mo_classStep_41 : decode b_Mo_classStep 41 = .ok (.iload 5, 2) := by decide +kernel
theorem d_Mo_classStep_43 : decode b_Mo_classStep 43 = .ok (.ifCond .eq 102, 3) := by decide +kernel
theorem d_Mo_classStep_46 : decode b_Mo_classStep 46 = .ok (.aload_n 0, 1) := by decide +kernel
theorem d_Mo_classStep_47 : decode b_Mo_classStep 47 = .ok (.aload_n 0, 1) := by decide +kernel
theorem d_Mo_classStep_48 : decode b_Mo_classStep 48 = .ok (.getfield 522, 3) := by decide +kernel
theorem d_Mo_classStep_51 : decode b_Mo_classStep 51 = .ok (.getfield 677, 3) := by decide +kernel
theorem d_Mo_classStep_54 : decode b_Mo_classStep 54 = .ok (.iload_n 2, 1) := by decide +kernel
theorem d_Mo_classStep_55 : decode b_Mo_classStep 55 = .ok (.iaload, 1) := by decide +kernel
theorem d_Mo_classStep_56 : decode b_Mo_classStep 56 = .ok (.invokevirtual 601, 3) := by decide +kernel
theorem d_Mo_classStep_59 : decode b_Mo_classStep 59 = .ok (.istore 7, 2) := by decide +kernel
theorem d_Mo_classStep_61 : decode b_Mo_classStep 61 = .ok (.iload 7, 2) := by decide +kernel
theorem d_Mo_classStep_63 : decode b_Mo_classStep 63 = .ok (.ifCond .ge 13, 3) := by decide +kernel
theorem d_Mo_classStep_66 : decode b_Mo_classStep 66 = .ok (.aload_n 0, 1) := by decide +kernel
theorem d_Mo_classStep_67 : decode b_Mo_classStep 67 = .ok (.bipush 50, 2) := by decide +kernel
theorem d_Mo_classStep_69 : decode b_Mo_classStep 69 = .ok (.bipush 11, 2) := by decide +kernel
theorem d_Mo_classStep_71 : decode b_Mo_classStep 71 = .ok (.invokevirtual 1001, 3) := by decide +kernel
theorem d_Mo_classStep_74 : decode b_Mo_classStep 74 = .ok (.iconst 1, 1) := by decide +kernel
theorem d_Mo_classStep_75 : decode b_Mo_classStep 75 = .ok (.ireturn, 1) := by decide +kernel
theorem d_Mo_classStep_76 : decode b_Mo_classStep 76 = .ok (.iload 5, 2) := by decide +kernel
theorem d_Mo_classStep_78 : decode b_Mo_classStep 78 = .ok (.sipush 1001, 3) := by decide +kernel
theorem d_Mo_classStep_81 : decode b_Mo_classStep 81 = .ok (.if_icmp .ge 30, 3) := by decide +kernel
theorem d_Mo_classStep_84 : decode b_Mo_classStep 84 = .ok (.aload_n 0, 1) := by decide +kernel
theorem d_Mo_classStep_85 : decode b_Mo_classStep 85 = .ok (.getfield 522, 3) := by decide +kernel
theorem d_Mo_classStep_88 : decode b_Mo_classStep 88 = .ok (.getfield 872, 3) := by decide +kernel
theorem d_Mo_classStep_91 : decode b_Mo_classStep 91 = .ok (.iload 5, 2) := by decide +kernel
theorem d_Mo_classStep_93 : decode b_Mo_classStep 93 = .ok (.iaload, 1) := by decide +kernel
theorem d_Mo_classStep_94 : decode b_Mo_classStep 94 = .ok (.iconst (-1), 1) := by decide +kernel
theorem d_Mo_classStep_95 : decode b_Mo_classStep 95 = .ok (.if_icmp .ne 16, 3) := by decide +kernel
theorem d_Mo_classStep_98 : decode b_Mo_classStep 98 = .ok (.iload 7, 2) := by decide +kernel
theorem d_Mo_classStep_100 : decode b_Mo_classStep 100 = .ok (.ifCond .ne 7, 3) := by decide +kernel
theorem d_Mo_classStep_103 : decode b_Mo_classStep 103 = .ok (.iconst 1, 1) := by decide +kernel
theorem d_Mo_classStep_104 : decode b_Mo_classStep 104 = .ok (.goto 19, 3) := by decide +kernel
theorem d_Mo_classStep_107 : decode b_Mo_classStep 107 = .ok (.iconst 0, 1) := by decide +kernel
theorem d_Mo_classStep_108 : decode b_Mo_classStep 108 = .ok (.goto 15, 3) := by decide +kernel
theorem d_Mo_classStep_111 : decode b_Mo_classStep 111 = .ok (.aload_n 0, 1) := by decide +kernel
theorem d_Mo_classStep_112 : decode b_Mo_classStep 112 = .ok (.aload_n 0, 1) := by decide +kernel
theorem d_Mo_classStep_113 : decode b_Mo_classStep 113 = .ok (.iload 5, 2) := by decide +kernel
theorem d_Mo_classStep_115 : decode b_Mo_classStep 115 = .ok (.invokevirtual 960, 3) := by decide +kernel
theorem d_Mo_classStep_118 : decode b_Mo_classStep 118 = .ok (.iload 7, 2) := by decide +kernel
theorem d_Mo_classStep_120 : decode b_Mo_classStep 120 = .ok (.invokevirtual 963, 3) := by decide +kernel
theorem d_Mo_classStep_123 : decode b_Mo_classStep 123 = .ok (.istore 6, 2) := by decide +kernel
theorem d_Mo_classStep_125 : decode b_Mo_classStep 125 = .ok (.iload_n 3, 1) := by decide +kernel
theorem d_Mo_classStep_126 : decode b_Mo_classStep 126 = .ok (.bipush 54, 2) := by decide +kernel
theorem d_Mo_classStep_128 : decode b_Mo_classStep 128 = .ok (.if_icmp .ne 17, 3) := by decide +kernel
theorem d_Mo_classStep_131 : decode b_Mo_classStep 131 = .ok (.iload 6, 2) := by decide +kernel
theorem d_Mo_classStep_133 : decode b_Mo_classStep 133 = .ok (.ifCond .ne 12, 3) := by decide +kernel
theorem d_Mo_classStep_136 : decode b_Mo_classStep 136 = .ok (.aload_n 0, 1) := by decide +kernel
theorem d_Mo_classStep_137 : decode b_Mo_classStep 137 = .ok (.iconst 0, 1) := by decide +kernel
theorem d_Mo_classStep_138 : decode b_Mo_classStep 138 = .ok (.bipush 6, 2) := by decide +kernel
theorem d_Mo_classStep_140 : decode b_Mo_classStep 140 = .ok (.invokevirtual 1001, 3) := by decide +kernel
theorem d_Mo_classStep_143 : decode b_Mo_classStep 143 = .ok (.iconst 1, 1) := by decide +kernel
theorem d_Mo_classStep_144 : decode b_Mo_classStep 144 = .ok (.ireturn, 1) := by decide +kernel
theorem d_Mo_classStep_145 : decode b_Mo_classStep 145 = .ok (.iload_n 3, 1) := by decide +kernel
theorem d_Mo_classStep_146 : decode b_Mo_classStep 146 = .ok (.bipush 55, 2) := by decide +kernel
theorem d_Mo_classStep_148 : decode b_Mo_classStep 148 = .ok (.if_icmp .ne 34, 3) := by decide +kernel
theorem d_Mo_classStep_151 : decode b_Mo_classStep 151 = .ok (.aload_n 0, 1) := by decide +kernel
theorem d_Mo_classStep_152 : decode b_Mo_classStep 152 = .ok (.getfield 917, 3) := by decide +kernel
theorem d_Mo_classStep_155 : decode b_Mo_classStep 155 = .ok (.getfield 936, 3) := by decide +kernel
theorem d_Mo_classStep_158 : decode b_Mo_classStep 158 = .ok (.iload 4, 2) := by decide +kernel
theorem d_Mo_classStep_160 : decode b_Mo_classStep 160 = .ok (.iload 6, 2) := by decide +kernel
theorem d_Mo_classStep_162 : decode b_Mo_classStep 162 = .ok (.ifCond .eq 7, 3) := by decide +kernel
theorem d_Mo_classStep_165 : decode b_Mo_classStep 165 = .ok (.iconst 1, 1) := by decide +kernel
theorem d_Mo_classStep_166 : decode b_Mo_classStep 166 = .ok (.goto 4, 3) := by decide +kernel
theorem d_Mo_classStep_169 : decode b_Mo_classStep 169 = .ok (.iconst 0, 1) := by decide +kernel
theorem d_Mo_classStep_170 : decode b_Mo_classStep 170 = .ok (.iastore, 1) := by decide +kernel
theorem d_Mo_classStep_171 : decode b_Mo_classStep 171 = .ok (.aload_n 0, 1) := by decide +kernel
theorem d_Mo_classStep_172 : decode b_Mo_classStep 172 = .ok (.getfield 917, 3) := by decide +kernel
theorem d_Mo_classStep_175 : decode b_Mo_classStep 175 = .ok (.getfield 939, 3) := by decide +kernel
theorem d_Mo_classStep_178 : decode b_Mo_classStep 178 = .ok (.iload 4, 2) := by decide +kernel
theorem d_Mo_classStep_180 : decode b_Mo_classStep 180 = .ok (.iconst 0, 1) := by decide +kernel
theorem d_Mo_classStep_181 : decode b_Mo_classStep 181 = .ok (.bastore, 1) := by decide +kernel
theorem d_Mo_classStep_182 : decode b_Mo_classStep 182 = .ok (.aload_n 0, 1) := by decide +kernel
theorem d_Mo_classStep_183 : decode b_Mo_classStep 183 = .ok (.getfield 917, 3) := by decide +kernel
theorem d_Mo_classStep_186 : decode b_Mo_classStep 186 = .ok (.getfield 930, 3) := by decide +kernel
theorem d_Mo_classStep_189 : decode b_Mo_classStep 189 = .ok (.iload_n 1, 1) := by decide +kernel
theorem d_Mo_classStep_190 : decode b_Mo_classStep 190 = .ok (.dup2, 1) := by decide +kernel
theorem d_Mo_classStep_191 : decode b_Mo_classStep 191 = .ok (.iaload, 1) := by decide +kernel
theorem d_Mo_classStep_192 : decode b_Mo_classStep 192 = .ok (.iconst 1, 1) := by decide +kernel
theorem d_Mo_classStep_193 : decode b_Mo_classStep 193 = .ok (.iadd, 1) := by decide +kernel
theorem d_Mo_classStep_194 : decode b_Mo_classStep 194 = .ok (.iastore, 1) := by decide +kernel
theorem d_Mo_classStep_195 : decode b_Mo_classStep 195 = .ok (.iconst 1, 1) := by decide +kernel
theorem d_Mo_classStep_196 : decode b_Mo_classStep 196 = .ok (.ireturn, 1) := by decide +kernel
abbrev ra_Mo_classStep (mc ms : Nat) : Room := { frames := 8, cells := mc, slots := ms, locals := 220 }
def wja_Mo_classStep_182 (mc ms : Nat) (Post : Ly → St → Int32 → Nat → Nat → Prop) (a0 : Nat) (y_j182 : Ly) (s_j182 : St) (d_j182 e_j182 : Nat) (x1j182 : Int32) : Prop := (d_j182 ≤ mc ∧ e_j182 ≤ ms) ∧ ∃ b_8 : Nat, sO s_j182 a0 46 = some b_8 ∧ cl b_8 = 12 ∧ xA y_j182 s_j182 b_8 18 x1j182 (fun x_11 : Int32 => xS y_j182 s_j182 b_8 18 x1j182 (x_11 + 1) (fun s_12 : St => Post y_j182 s_12 1 d_j182 e_j182))
def wja_Mo_classStep_170 (mc ms : Nat) (Post : Ly → St → Int32 → Nat → Nat → Prop) (a0 : Nat) (y_j170 : Ly) (s_j170 : St) (d_j170 e_j170 : Nat) (x1j170 : Int32) (x4j170 : Int32) (z0j170 : Nat) (z0j170k : Nat) (z1j170 : Int32) (z2j170 : Int32) : Prop := (d_j170 ≤ mc ∧ e_j170 ≤ ms) ∧ (kd (cl z0j170) z0j170k = 2 ∧ tyx (cl z0j170) z0j170k = 0) ∧ xS y_j170 s_j170 z0j170 z0j170k z1j170 z2j170 (fun s_16 : St => ∃ b_17 : Nat, sO s_16 a0 46 = some b_17 ∧ cl b_17 = 12 ∧ xS y_j170 s_16 b_17 21 x4j170 (vp_nar .boolean 0) (fun s_20 : St => wja_Mo_classStep_182 mc ms Post a0 y_j170 s_20 d_j170 e_j170 x1j170))
def wja_Mo_classStep_145 (mc ms : Nat) (Post : Ly → St → Int32 → Nat → Nat → Prop) (a0 : Nat) (y_j145 : Ly) (s_j145 : St) (d_j145 e_j145 : Nat) (x1j145 : Int32) (x3j145 : Int32) (x4j145 : Int32) (x6j145 : Int32) : Prop := (d_j145 ≤ mc ∧ e_j145 ≤ ms) ∧ ((¬ x3j145 = 55 → wja_Mo_classStep_182 mc ms Post a0 y_j145 s_j145 d_j145 e_j145 x1j145) ∧ (x3j145 = 55 → ∃ b_13 : Nat, sO s_j145 a0 46 = some b_13 ∧ cl b_13 = 12 ∧ ((x6j145 = 0 → wja_Mo_classStep_170 mc ms Post a0 y_j145 s_j145 d_j145 e_j145 x1j145 x4j145 b_13 20 x4j145 0) ∧ (¬ (x6j145 = 0) → wja_Mo_classStep_170 mc ms Post a0 y_j145 s_j145 d_j145 e_j145 x1j145 x4j145 b_13 20 x4j145 1))))
def wja_Mo_classStep_123 (mc ms : Nat) (Post : Ly → St → Int32 → Nat → Nat → Prop) (a0 : Nat) (y_j123 : Ly) (s_j123 : St) (d_j123 e_j123 : Nat) (x1j123 : Int32) (x3j123 : Int32) (x4j123 : Int32) (z0j123 : Int32) : Prop := (d_j123 ≤ mc ∧ e_j123 ≤ ms) ∧ ((¬ x3j123 = 54 → wja_Mo_classStep_145 mc ms Post a0 y_j123 s_j123 d_j123 e_j123 x1j123 x3j123 x4j123 z0j123) ∧ (x3j123 = 54 → ((¬ z0j123 = 0 → wja_Mo_classStep_145 mc ms Post a0 y_j123 s_j123 d_j123 e_j123 x1j123 x3j123 x4j123 z0j123) ∧ (z0j123 = 0 → ∃ mc_32 ms_33 : Nat, (d_j123 + mc_32 ≤ mc ∧ e_j123 + ms_33 ≤ ms) ∧ wa_Mo_throwNew mc_32 ms_33 y_j123 (fun (y_29 : Ly) (s_28 : St) (d_30 e_31 : Nat) => (d_j123 + d_30 ≤ mc ∧ e_j123 + e_31 ≤ ms) ∧ Post y_29 s_28 1 (d_j123 + d_30) (e_j123 + e_31)) s_j123 a0 0 6))))
def wja_Mo_classStep_111 (mc ms : Nat) (Post : Ly → St → Int32 → Nat → Nat → Prop) (a0 : Nat) (y_j111 : Ly) (s_j111 : St) (d_j111 e_j111 : Nat) (x1j111 : Int32) (x3j111 : Int32) (x4j111 : Int32) (x5j111 : Int32) (x7j111 : Int32) : Prop := (d_j111 ≤ mc ∧ e_j111 ≤ ms) ∧ wu_Mo_classOfRef y_j111 (fun (s_36 : St) (r_35 : Int32) => wu_Mo_isBelow y_j111 (fun (s_38 : St) (r_37 : Int32) => wja_Mo_classStep_123 mc ms Post a0 y_j111 s_38 d_j111 e_j111 x1j111 x3j111 x4j111 r_37) s_36 a0 r_35 x7j111) s_j111 a0 x5j111
def wa_Mo_classStep (mc ms : Nat) (y : Ly) (Post : Ly → St → Int32 → Nat → Nat → Prop) (σ : St) (a0 : Nat) (v1 : Int32) (v2 : Int32) (v3 : Int32) : Prop := wu_Mo_tally y (fun (s_2 : St) => ∃ b_3 : Nat, sO s_2 a0 46 = some b_3 ∧ cl b_3 = 12 ∧ xA y s_2 b_3 19 v1 (fun x_6 : Int32 => xA y s_2 b_3 20 ((((44 * v1) + 20) + x_6) - 1) (fun x_7 : Int32 => ((x_7 = 0 → wja_Mo_classStep_145 mc ms Post a0 y s_2 0 0 v1 v3 ((((44 * v1) + 20) + x_6) - 1) 0) ∧ (¬ (x_7 = 0) → ∃ b_21 : Nat, sO s_2 a0 45 = some b_21 ∧ cl b_21 = 13 ∧ xA y s_2 b_21 31 v2 (fun x_24 : Int32 => wu_Mo_classOf y (fun (s_26 : St) (r_25 : Int32) => ((0 ≤ r_25 → ((1001 ≤ x_7 → wja_Mo_classStep_111 mc ms Post a0 y s_26 0 0 v1 v3 ((((44 * v1) + 20) + x_6) - 1) x_7 r_25) ∧ (¬ (1001 ≤ x_7) → ∃ b_39 : Nat, sO s_26 a0 45 = some b_39 ∧ cl b_39 = 13 ∧ xA y s_26 b_39 45 x_7 (fun x_42 : Int32 => ((¬ x_42 = (-1) → wja_Mo_classStep_111 mc ms Post a0 y s_26 0 0 v1 v3 ((((44 * v1) + 20) + x_6) - 1) x_7 r_25) ∧ (x_42 = (-1) → ((¬ r_25 = 0 → wja_Mo_classStep_123 mc ms Post a0 y s_26 0 0 v1 v3 ((((44 * v1) + 20) + x_6) - 1) 0) ∧ (r_25 = 0 → wja_Mo_classStep_123 mc ms Post a0 y s_26 0 0 v1 v3 ((((44 * v1) + 20) + x_6) - 1) 1)))))))) ∧ (¬ (0 ≤ r_25) → ∃ mc_48 ms_49 : Nat, (0 + mc_48 ≤ mc ∧ 0 + ms_49 ≤ ms) ∧ wa_Mo_throwNew mc_48 ms_49 y (fun (y_45 : Ly) (s_44 : St) (d_46 e_47 : Nat) => (0 + d_46 ≤ mc ∧ 0 + e_47 ≤ ms) ∧ Post y_45 s_44 1 (0 + d_46) (0 + e_47)) s_26 a0 50 11))) s_2 a0 x_24)))))) σ a0 v3
set_option maxHeartbeats 4000000 in
set_option maxRecDepth 100000 in
theorem ca_Mo_classStep (l : Launch) (D : va_G) (g : Nat → ClassId) (ad : Nat → Nat) (mc ms : Nat) (y : Ly) (Post : Ly → St → Int32 → Nat → Nat → Prop) (σ : St) (a0 : Nat) (v1 : Int32) (v2 : Int32) (v3 : Int32) (sz uz : Nat) (h_a0 : cl a0 = 14) (h : wa_Mo_classStep mc ms y Post σ a0 v1 v2 v3) : Met l y_Mo_classStep (mw y_Mo_classStep b_Mo_classStep 8 (some .int)) (ra_Mo_classStep mc ms) (PCu g D [] [.ref (ad a0), .int v1, .int v2, .int v3] sz uz (ws g ad y σ)) (va_Qi (fun (r : Int32) (u : Ly × St × Nat × Nat) => Post u.1 u.2.1 r u.2.2.1 u.2.2.2) (QU D (va_A (ws g ad y σ) sz) (fun u => ws g ad u.1 u.2.1) sz uz (fun u => u.2.2.1) (fun u => u.2.2.2)) (va_A (ws g ad y σ) sz)) mc ms (va_A (ws g ad y σ) sz) := by
  refine ofIu (by decide +kernel) (Nat.le_of_ble_eq_true rfl) ?_
  intro p e s m args below meth c A Q ls H locs G hsz hP hD hS hl hret
  subst hsz
  have hl : lv_has ls 8 [(0, .ref (ad a0)), (1, .int v1), (2, .int v2), (3, .int v3)] := hl
  have hd : 0 ≤ mc ∧ 0 ≤ ms := ⟨Nat.zero_le _, Nat.zero_le _⟩
  unfold wa_Mo_classStep at h
  refine lv_aload_n G.1 G.2.1 d_Mo_classStep_0 rfl (lv_at hl 0 rfl) ?_
  refine lv_iload_n G.1 G.2.1 d_Mo_classStep_1 rfl (lv_at hl 3 rfl) ?_
  refine ucVv (As := [.int v3]) (rest := []) G hP hD hS (cu_Mo_tally l D g ad y _ σ a0 v3 H.size h_a0 h) w9_Mo_tally q3943 ⟨Nat.le_of_ble_eq_true rfl, Nat.le_of_ble_eq_true rfl⟩ rfl rfl h_a0 (q := (RMo, TMo, 131)) rfl rfl hl.1 rfl (Nat.le_of_ble_eq_true rfl) rfl hd d_Mo_classStep_2 (fun s_2 H locs h hP hD hS => ?_)
  refine lv_bipush (v := 44) G.1 G.2.1 d_Mo_classStep_5 (by decide) ?_
  refine lv_iload_n G.1 G.2.1 d_Mo_classStep_7 rfl (lv_at hl 1 rfl) ?_
  refine lv_imul G.1 G.2.1 d_Mo_classStep_8 ?_
  refine lv_bipush (v := 20) G.1 G.2.1 d_Mo_classStep_9 (by decide) ?_
  refine lv_iadd G.1 G.2.1 d_Mo_classStep_11 ?_
  refine lv_aload_n G.1 G.2.1 d_Mo_classStep_12 rfl (lv_at hl 0 rfl) ?_
  obtain ⟨b_3, e_4, c_5, h⟩ := h
  refine ugf (v := .ref (ad b_3)) G hP h_a0 iMo rfl 46 (by decide) rfl q3110 rfl (by show va_rf ((sO s_2 a0 46).map ad) = _; rw [e_4]; rfl) d_Mo_classStep_13 ?_
  refine ugfN (v := .ref (yP y b_3 19)) G hP c_5 iMr rfl 19 (by decide) rfl q3011 rfl rfl d_Mo_classStep_16 ?_
  refine W.eq (g2 := F0 m 19 ls [.ref (yP y b_3 19), .int ((44 * v1) + 20)]) rfl ?_
  refine lv_iload_n G.1 G.2.1 d_Mo_classStep_19 rfl (lv_at hl 1 rfl) ?_
  refine uiald G hP (kdp c_5 rfl) (typ c_5 rfl) h d_Mo_classStep_20 (fun x_6 h => ?_)
  refine lv_iadd G.1 G.2.1 d_Mo_classStep_21 ?_
  refine lv_iconst (v := 1) G.1 G.2.1 d_Mo_classStep_22 (by decide) ?_
  refine lv_isub G.1 G.2.1 d_Mo_classStep_23 ?_
  refine lv_istore (lv' := [(4, .int ((((44 * v1) + 20) + x_6) - 1)), (0, .ref (ad a0)), (1, .int v1), (2, .int v2), (3, .int v3)]) G.1 G.2.1 d_Mo_classStep_24 hl (by decide) rfl (fun ls hl => ?_)
  refine lv_aload_n G.1 G.2.1 d_Mo_classStep_26 rfl (lv_at hl 1 rfl) ?_
  refine ugf (v := .ref (ad b_3)) G hP h_a0 iMo rfl 46 (by decide) rfl q3110 rfl (by show va_rf ((sO s_2 a0 46).map ad) = _; rw [e_4]; rfl) d_Mo_classStep_27 ?_
  refine ugfN (v := .ref (yP y b_3 20)) G hP c_5 iMr rfl 20 (by decide) rfl q3013 rfl rfl d_Mo_classStep_30 ?_
  refine lv_iload G.1 G.2.1 d_Mo_classStep_33 (lv_at hl 0 rfl) ?_
  refine uiald G hP (kdp c_5 rfl) (typ c_5 rfl) h d_Mo_classStep_35 (fun x_7 h => ?_)
  refine lv_istore (lv' := [(5, .int x_7), (4, .int ((((44 * v1) + 20) + x_6) - 1)), (0, .ref (ad a0)), (1, .int v1), (2, .int v2), (3, .int v3)]) G.1 G.2.1 d_Mo_classStep_36 hl (by decide) rfl (fun ls hl => ?_)
  refine W.eq (g2 := F0 m 38 ls []) rfl ?_
  refine lv_iconst (v := 0) G.1 G.2.1 d_Mo_classStep_38 (by decide) ?_
  refine lv_istore (lv' := [(6, .int 0), (5, .int x_7), (4, .int ((((44 * v1) + 20) + x_6) - 1)), (0, .ref (ad a0)), (1, .int v1), (2, .int v2), (3, .int v3)]) G.1 G.2.1 d_Mo_classStep_39 hl (by decide) rfl (fun ls hl => ?_)
  refine lv_iload G.1 G.2.1 d_Mo_classStep_41 (lv_at hl 1 rfl) ?_
  have J_145 : ∀ (y_j145 : Ly) (s_j145 : St) (d_j145 e_j145 : Nat) (x1j145 : Int32) (x3j145 : Int32) (x4j145 : Int32) (x6j145 : Int32) (H : Heap) (locs : List Loc), wja_Mo_classStep_145 mc ms Post a0 y_j145 s_j145 d_j145 e_j145 x1j145 x3j145 x4j145 x6j145 → va_P D CL (ws g ad y_j145 s_j145) H → va_D A (ws g ad y_j145 s_j145) → va_S A s.heap H locs → ∀ ls, lv_has ls 8 [(0, .ref (ad a0)), (1, .int x1j145), (3, .int x3j145), (4, .int x4j145), (6, .int x6j145)] → W p l e (ra_Mo_classStep mc ms) s m args below meth c H locs d_j145 e_j145 Q (F0 m 145 ls []) := by
    intro y_j145 s_j145 d_j145 e_j145 x1j145 x3j145 x4j145 x6j145 H locs h hP hD hS ls hl
    unfold wja_Mo_classStep_145 at h
    obtain ⟨hd, h⟩ := h
    refine lv_iload_n G.1 G.2.1 d_Mo_classStep_145 rfl (lv_at hl 2 rfl) ?_
    refine lv_bipush (v := 55) G.1 G.2.1 d_Mo_classStep_146 (by decide) ?_
    have J_182 : ∀ (y_j182 : Ly) (s_j182 : St) (d_j182 e_j182 : Nat) (x1j182 : Int32) (H : Heap) (locs : List Loc), wja_Mo_classStep_182 mc ms Post a0 y_j182 s_j182 d_j182 e_j182 x1j182 → va_P D CL (ws g ad y_j182 s_j182) H → va_D A (ws g ad y_j182 s_j182) → va_S A s.heap H locs → ∀ ls, lv_has ls 8 [(0, .ref (ad a0)), (1, .int x1j182)] → W p l e (ra_Mo_classStep mc ms) s m args below meth c H locs d_j182 e_j182 Q (F0 m 182 ls []) := by
      intro y_j182 s_j182 d_j182 e_j182 x1j182 H locs h hP hD hS ls hl
      unfold wja_Mo_classStep_182 at h
      obtain ⟨hd, h⟩ := h
      refine lv_aload_n G.1 G.2.1 d_Mo_classStep_182 rfl (lv_at hl 0 rfl) ?_
      obtain ⟨b_8, e_9, c_10, h⟩ := h
      refine ugf (v := .ref (ad b_8)) G hP h_a0 iMo rfl 46 (by decide) rfl q3110 rfl (by show va_rf ((sO s_j182 a0 46).map ad) = _; rw [e_9]; rfl) d_Mo_classStep_183 ?_
      refine ugfN (v := .ref (yP y_j182 b_8 18)) G hP c_10 iMr rfl 18 (by decide) rfl q3009 rfl rfl d_Mo_classStep_186 ?_
      refine lv_iload_n G.1 G.2.1 d_Mo_classStep_189 rfl (lv_at hl 1 rfl) ?_
      refine lv_dup2_11 G.1 G.2.1 d_Mo_classStep_190 rfl rfl ?_
      refine uiald G hP (kdp c_10 rfl) (typ c_10 rfl) h d_Mo_classStep_191 (fun x_11 h => ?_)
      refine lv_iconst (v := 1) G.1 G.2.1 d_Mo_classStep_192 (by decide) ?_
      refine lv_iadd G.1 G.2.1 d_Mo_classStep_193 ?_
      refine uiast G hP hD hS (kdp c_10 rfl) (typ c_10 rfl) h d_Mo_classStep_194 (fun s_12 H locs h hP hD hS => ?_)
      refine lv_iconst (v := 1) G.1 G.2.1 d_Mo_classStep_195 (by decide) ?_
      exact hret _ (y_j182, s_12, d_j182, e_j182) _ _ _ _ _ ls h hP hD hS (Nat.le_refl _) (Nat.le_refl _) hd.1 hd.2 d_Mo_classStep_196
    refine lv_icmp_ne (tgt := 182) G.1 G.2.1 d_Mo_classStep_148 (by decide) (fun c148 => ?_) (fun c148 => ?_)
    · skip
      have h := h.1 c148
      exact J_182 y_j145 s_j145 d_j145 e_j145 x1j145 H locs h hP hD hS ls (lv_sub hl [0, 1] rfl)
    · skip
      have h := h.2 c148
      refine lv_aload_n G.1 G.2.1 d_Mo_classStep_151 rfl (lv_at hl 0 rfl) ?_
      obtain ⟨b_13, e_14, c_15, h⟩ := h
      refine ugf (v := .ref (ad b_13)) G hP h_a0 iMo rfl 46 (by decide) rfl q3110 rfl (by show va_rf ((sO s_j145 a0 46).map ad) = _; rw [e_14]; rfl) d_Mo_classStep_152 ?_
      refine ugfN (v := .ref (yP y_j145 b_13 20)) G hP c_15 iMr rfl 20 (by decide) rfl q3013 rfl rfl d_Mo_classStep_155 ?_
      refine lv_iload G.1 G.2.1 d_Mo_classStep_158 (lv_at hl 3 rfl) ?_
      refine lv_iload G.1 G.2.1 d_Mo_classStep_160 (lv_at hl 4 rfl) ?_
      have J_170 : ∀ (y_j170 : Ly) (s_j170 : St) (d_j170 e_j170 : Nat) (x1j170 : Int32) (x4j170 : Int32) (z0j170 : Nat) (z0j170k : Nat) (z1j170 : Int32) (z2j170 : Int32) (H : Heap) (locs : List Loc), wja_Mo_classStep_170 mc ms Post a0 y_j170 s_j170 d_j170 e_j170 x1j170 x4j170 z0j170 z0j170k z1j170 z2j170 → va_P D CL (ws g ad y_j170 s_j170) H → va_D A (ws g ad y_j170 s_j170) → va_S A s.heap H locs → ∀ ls, lv_has ls 8 [(0, .ref (ad a0)), (1, .int x1j170), (4, .int x4j170)] → W p l e (ra_Mo_classStep mc ms) s m args below meth c H locs d_j170 e_j170 Q (F0 m 170 ls [.int z2j170, .int z1j170, .ref (yP y_j170 z0j170 z0j170k)]) := by
        intro y_j170 s_j170 d_j170 e_j170 x1j170 x4j170 z0j170 z0j170k z1j170 z2j170 H locs h hP hD hS ls hl
        unfold wja_Mo_classStep_170 at h
        obtain ⟨hd, h⟩ := h
        obtain ⟨c_z0j170, h⟩ := h
        refine uiast G hP hD hS c_z0j170.1 c_z0j170.2 h d_Mo_classStep_170 (fun s_16 H locs h hP hD hS => ?_)
        refine lv_aload_n G.1 G.2.1 d_Mo_classStep_171 rfl (lv_at hl 0 rfl) ?_
        obtain ⟨b_17, e_18, c_19, h⟩ := h
        refine ugf (v := .ref (ad b_17)) G hP h_a0 iMo rfl 46 (by decide) rfl q3110 rfl (by show va_rf ((sO s_16 a0 46).map ad) = _; rw [e_18]; rfl) d_Mo_classStep_172 ?_
        refine ugfN (v := .ref (yP y_j170 b_17 21)) G hP c_19 iMr rfl 21 (by decide) rfl q3015 rfl rfl d_Mo_classStep_175 ?_
        refine lv_iload G.1 G.2.1 d_Mo_classStep_178 (lv_at hl 2 rfl) ?_
        refine lv_iconst (v := 0) G.1 G.2.1 d_Mo_classStep_180 (by decide) ?_
        refine uzast G hP hD hS (kdp c_19 rfl) (typ c_19 rfl) h d_Mo_classStep_181 (fun s_20 H locs h hP hD hS => ?_)
        exact J_182 y_j170 s_20 d_j170 e_j170 x1j170 H locs h hP hD hS ls (lv_sub hl [0, 1] rfl)
      refine lv_if_eq (tgt := 169) G.1 G.2.1 d_Mo_classStep_162 (by decide) (fun c162 => ?_) (fun c162 => ?_)
      · skip
        have h := h.1 c162
        refine lv_iconst (v := 0) G.1 G.2.1 d_Mo_classStep_169 (by decide) ?_
        exact J_170 y_j145 s_j145 d_j145 e_j145 x1j145 x4j145 b_13 20 x4j145 0 H locs h hP hD hS ls (lv_sub hl [0, 1, 3] rfl)
      · skip
        have h := h.2 c162
        refine lv_iconst (v := 1) G.1 G.2.1 d_Mo_classStep_165 (by decide) ?_
        refine lv_goto (tgt := 170) G.1 G.2.1 d_Mo_classStep_166 (by decide) ?_
        exact J_170 y_j145 s_j145 d_j145 e_j145 x1j145 x4j145 b_13 20 x4j145 1 H locs h hP hD hS ls (lv_sub hl [0, 1, 3] rfl)
  refine lv_if_eq (tgt := 145) G.1 G.2.1 d_Mo_classStep_43 (by decide) (fun c43 => ?_) (fun c43 => ?_)
  · skip
    have h := h.1 c43
    exact J_145 y s_2 0 0 v1 v3 ((((44 * v1) + 20) + x_6) - 1) 0 H locs h hP hD hS ls (lv_sub hl [3, 4, 6, 2, 0] rfl)
  · skip
    have h := h.2 c43
    refine lv_aload_n G.1 G.2.1 d_Mo_classStep_46 rfl (lv_at hl 3 rfl) ?_
    refine lv_aload_n G.1 G.2.1 d_Mo_classStep_47 rfl (lv_at hl 3 rfl) ?_
    obtain ⟨b_21, e_22, c_23, h⟩ := h
    refine ugf (v := .ref (ad b_21)) G hP h_a0 iMo rfl 45 (by decide) rfl q3109 rfl (by show va_rf ((sO s_2 a0 45).map ad) = _; rw [e_22]; rfl) d_Mo_classStep_48 ?_
    refine ugfN (v := .ref (yP y b_21 31)) G hP c_23 iMw rfl 31 (by decide) rfl q2766 rfl rfl d_Mo_classStep_51 ?_
    refine lv_iload_n G.1 G.2.1 d_Mo_classStep_54 rfl (lv_at hl 5 rfl) ?_
    refine uiald G hP (kdp c_23 rfl) (typ c_23 rfl) h d_Mo_classStep_55 (fun x_24 h => ?_)
    refine ucVi (As := [.int x_24]) (rest := []) G hP hD hS (cu_Mo_classOf l D g ad y _ s_2 a0 x_24 H.size h_a0 h) w9_Mo_classOf q3571 ⟨Nat.le_of_ble_eq_true rfl, Nat.le_of_ble_eq_true rfl⟩ rfl rfl h_a0 (q := (RMo, TMo, 131)) rfl rfl hl.1 rfl (Nat.le_of_ble_eq_true rfl) rfl hd d_Mo_classStep_56 (fun r_25 s_26 H locs h hP hD hS => ?_)
    refine lv_istore (lv' := [(7, .int r_25), (6, .int 0), (5, .int x_7), (4, .int ((((44 * v1) + 20) + x_6) - 1)), (0, .ref (ad a0)), (1, .int v1), (2, .int v2), (3, .int v3)]) G.1 G.2.1 d_Mo_classStep_59 hl (by decide) rfl (fun ls hl => ?_)
    refine W.eq (g2 := F0 m 61 ls []) rfl ?_
    refine lv_iload G.1 G.2.1 d_Mo_classStep_61 (lv_at hl 0 rfl) ?_
    refine lv_if_ge (tgt := 76) G.1 G.2.1 d_Mo_classStep_63 (by decide) (fun c63 => ?_) (fun c63 => ?_)
    · skip
      have h := h.1 c63
      refine lv_iload G.1 G.2.1 d_Mo_classStep_76 (lv_at hl 2 rfl) ?_
      refine lv_sipush (v := 1001) G.1 G.2.1 d_Mo_classStep_78 (by decide) ?_
      have J_123 : ∀ (y_j123 : Ly) (s_j123 : St) (d_j123 e_j123 : Nat) (x1j123 : Int32) (x3j123 : Int32) (x4j123 : Int32) (z0j123 : Int32) (H : Heap) (locs : List Loc), wja_Mo_classStep_123 mc ms Post a0 y_j123 s_j123 d_j123 e_j123 x1j123 x3j123 x4j123 z0j123 → va_P D CL (ws g ad y_j123 s_j123) H → va_D A (ws g ad y_j123 s_j123) → va_S A s.heap H locs → ∀ ls, lv_has ls 8 [(0, .ref (ad a0)), (1, .int x1j123), (3, .int x3j123), (4, .int x4j123)] → W p l e (ra_Mo_classStep mc ms) s m args below meth c H locs d_j123 e_j123 Q (F0 m 123 ls [.int z0j123]) := by
        intro y_j123 s_j123 d_j123 e_j123 x1j123 x3j123 x4j123 z0j123 H locs h hP hD hS ls hl
        unfold wja_Mo_classStep_123 at h
        obtain ⟨hd, h⟩ := h
        refine lv_istore (lv' := [(6, .int z0j123), (0, .ref (ad a0)), (1, .int x1j123), (3, .int x3j123), (4, .int x4j123)]) G.1 G.2.1 d_Mo_classStep_123 hl (by decide) rfl (fun ls hl => ?_)
        refine lv_iload_n G.1 G.2.1 d_Mo_classStep_125 rfl (lv_at hl 3 rfl) ?_
        refine lv_bipush (v := 54) G.1 G.2.1 d_Mo_classStep_126 (by decide) ?_
        refine lv_icmp_ne (tgt := 145) G.1 G.2.1 d_Mo_classStep_128 (by decide) (fun c128 => ?_) (fun c128 => ?_)
        · skip
          have h := h.1 c128
          exact J_145 y_j123 s_j123 d_j123 e_j123 x1j123 x3j123 x4j123 z0j123 H locs h hP hD hS ls (lv_sub hl [1, 2, 3, 4, 0] rfl)
        · skip
          have h := h.2 c128
          refine lv_iload G.1 G.2.1 d_Mo_classStep_131 (lv_at hl 0 rfl) ?_
          refine lv_if_ne (tgt := 145) G.1 G.2.1 d_Mo_classStep_133 (by decide) (fun c133 => ?_) (fun c133 => ?_)
          · skip
            have h := h.1 c133
            exact J_145 y_j123 s_j123 d_j123 e_j123 x1j123 x3j123 x4j123 z0j123 H locs h hP hD hS ls (lv_sub hl [1, 2, 3, 4, 0] rfl)
          · skip
            have h := h.2 c133
            refine lv_aload_n G.1 G.2.1 d_Mo_classStep_136 rfl (lv_at hl 1 rfl) ?_
            refine lv_iconst (v := 0) G.1 G.2.1 d_Mo_classStep_137 (by decide) ?_
            refine lv_bipush (v := 6) G.1 G.2.1 d_Mo_classStep_138 (by decide) ?_
            obtain ⟨mc_32, ms_33, hr_34, h⟩ := h
            refine uaVv (As := [.int 0, .int 6]) (rest := []) G hP hD hS (ca_Mo_throwNew l D g ad mc_32 ms_33 y_j123 _ s_j123 a0 0 6 H.size (us H) h_a0 h) w9_Mo_throwNew q3883 ⟨Nat.le_of_ble_eq_true rfl, Nat.le_of_ble_eq_true rfl⟩ rfl rfl h_a0 (q := (RMo, TMo, 131)) rfl rfl hl.1 rfl (Nat.le_of_ble_eq_true rfl) rfl hr_34 d_Mo_classStep_140 (fun y_29 s_28 d_30 e_31 H locs h hP hD hS => ?_)
            have hl := lv_sub (l' := []) hl [] rfl
            obtain ⟨hd, h⟩ := h
            refine lv_iconst (v := 1) G.1 G.2.1 d_Mo_classStep_143 (by decide) ?_
            refine W.eq (g2 := F0 m 144 ls [.int 1]) rfl ?_
            exact hret _ (y_29, s_28, d_j123 + d_30, e_j123 + e_31) _ _ _ _ _ ls h hP hD hS (Nat.le_refl _) (Nat.le_refl _) hd.1 hd.2 d_Mo_classStep_144
      have J_111 : ∀ (y_j111 : Ly) (s_j111 : St) (d_j111 e_j111 : Nat) (x1j111 : Int32) (x3j111 : Int32) (x4j111 : Int32) (x5j111 : Int32) (x7j111 : Int32) (H : Heap) (locs : List Loc), wja_Mo_classStep_111 mc ms Post a0 y_j111 s_j111 d_j111 e_j111 x1j111 x3j111 x4j111 x5j111 x7j111 → va_P D CL (ws g ad y_j111 s_j111) H → va_D A (ws g ad y_j111 s_j111) → va_S A s.heap H locs → ∀ ls, lv_has ls 8 [(0, .ref (ad a0)), (1, .int x1j111), (3, .int x3j111), (4, .int x4j111), (5, .int x5j111), (7, .int x7j111)] → W p l e (ra_Mo_classStep mc ms) s m args below meth c H locs d_j111 e_j111 Q (F0 m 111 ls []) := by
        intro y_j111 s_j111 d_j111 e_j111 x1j111 x3j111 x4j111 x5j111 x7j111 H locs h hP hD hS ls hl
        unfold wja_Mo_classStep_111 at h
        obtain ⟨hd, h⟩ := h
        refine lv_aload_n G.1 G.2.1 d_Mo_classStep_111 rfl (lv_at hl 0 rfl) ?_
        refine lv_aload_n G.1 G.2.1 d_Mo_classStep_112 rfl (lv_at hl 0 rfl) ?_
        refine lv_iload G.1 G.2.1 d_Mo_classStep_113 (lv_at hl 4 rfl) ?_
        refine ucVi (As := [.int x5j111]) (rest := [.ref (ad a0)]) G hP hD hS (cu_Mo_classOfRef l D g ad y_j111 _ s_j111 a0 x5j111 H.size h_a0 h) w9_Mo_classOfRef q3899 ⟨Nat.le_of_ble_eq_true rfl, Nat.le_of_ble_eq_true rfl⟩ rfl rfl h_a0 (q := (RMo, TMo, 131)) rfl rfl hl.1 rfl (Nat.le_of_ble_eq_true rfl) rfl hd d_Mo_classStep_115 (fun r_35 s_36 H locs h hP hD hS => ?_)
        refine lv_iload G.1 G.2.1 d_Mo_classStep_118 (lv_at hl 5 rfl) ?_
        refine ucVi (As := [.int r_35, .int x7j111]) (rest := []) G hP hD hS (cu_Mo_isBelow l D g ad y_j111 _ s_36 a0 r_35 x7j111 H.size h_a0 h) w9_Mo_isBelow q3903 ⟨Nat.le_of_ble_eq_true rfl, Nat.le_of_ble_eq_true rfl⟩ rfl rfl h_a0 (q := (RMo, TMo, 131)) rfl rfl hl.1 rfl (Nat.le_of_ble_eq_true rfl) rfl hd d_Mo_classStep_120 (fun r_37 s_38 H locs h hP hD hS => ?_)
        exact J_123 y_j111 s_38 d_j111 e_j111 x1j111 x3j111 x4j111 r_37 H locs h hP hD hS ls (lv_sub hl [0, 1, 2, 3] rfl)
      refine lv_icmp_ge (tgt := 111) G.1 G.2.1 d_Mo_classStep_81 (by decide) (fun c81 => ?_) (fun c81 => ?_)
      · skip
        have h := h.1 c81
        exact J_111 y s_26 0 0 v1 v3 ((((44 * v1) + 20) + x_6) - 1) x_7 r_25 H locs h hP hD hS ls (lv_sub hl [4, 5, 7, 3, 2, 0] rfl)
      · skip
        have h := h.2 c81
        refine lv_aload_n G.1 G.2.1 d_Mo_classStep_84 rfl (lv_at hl 4 rfl) ?_
        obtain ⟨b_39, e_40, c_41, h⟩ := h
        refine ugf (v := .ref (ad b_39)) G hP h_a0 iMo rfl 45 (by decide) rfl q3109 rfl (by show va_rf ((sO s_26 a0 45).map ad) = _; rw [e_40]; rfl) d_Mo_classStep_85 ?_
        refine ugfN (v := .ref (yP y b_39 45)) G hP c_41 iMw rfl 45 (by decide) rfl q2790 rfl rfl d_Mo_classStep_88 ?_
        refine lv_iload G.1 G.2.1 d_Mo_classStep_91 (lv_at hl 2 rfl) ?_
        refine uiald G hP (kdp c_41 rfl) (typ c_41 rfl) h d_Mo_classStep_93 (fun x_42 h => ?_)
        refine lv_iconst (v := (-1)) G.1 G.2.1 d_Mo_classStep_94 (by decide) ?_
        refine lv_icmp_ne (tgt := 111) G.1 G.2.1 d_Mo_classStep_95 (by decide) (fun c95 => ?_) (fun c95 => ?_)
        · skip
          have h := h.1 c95
          exact J_111 y s_26 0 0 v1 v3 ((((44 * v1) + 20) + x_6) - 1) x_7 r_25 H locs h hP hD hS ls (lv_sub hl [4, 5, 7, 3, 2, 0] rfl)
        · skip
          have h := h.2 c95
          refine W.eq (g2 := F0 m 98 ls []) rfl ?_
          refine lv_iload G.1 G.2.1 d_Mo_classStep_98 (lv_at hl 0 rfl) ?_
          refine lv_if_ne (tgt := 107) G.1 G.2.1 d_Mo_classStep_100 (by decide) (fun c100 => ?_) (fun c100 => ?_)
          · skip
            have h := h.1 c100
            refine lv_iconst (v := 0) G.1 G.2.1 d_Mo_classStep_107 (by decide) ?_
            refine lv_goto (tgt := 123) G.1 G.2.1 d_Mo_classStep_108 (by decide) ?_
            exact J_123 y s_26 0 0 v1 v3 ((((44 * v1) + 20) + x_6) - 1) 0 H locs h hP hD hS ls (lv_sub hl [4, 5, 7, 3] rfl)
          · skip
            have h := h.2 c100
            refine lv_iconst (v := 1) G.1 G.2.1 d_Mo_classStep_103 (by decide) ?_
            refine lv_goto (tgt := 123) G.1 G.2.1 d_Mo_classStep_104 (by decide) ?_
            exact J_123 y s_26 0 0 v1 v3 ((((44 * v1) + 20) + x_6) - 1) 1 H locs h hP hD hS ls (lv_sub hl [4, 5, 7, 3] rfl)
    · skip
      have h := h.2 c63
      refine lv_aload_n G.1 G.2.1 d_Mo_classStep_66 rfl (lv_at hl 4 rfl) ?_
      refine lv_bipush (v := 50) G.1 G.2.1 d_Mo_classStep_67 (by decide) ?_
      refine lv_bipush (v := 11) G.1 G.2.1 d_Mo_classStep_69 (by decide) ?_
      obtain ⟨mc_48, ms_49, hr_50, h⟩ := h
      refine uaVv (As := [.int 50, .int 11]) (rest := []) G hP hD hS (ca_Mo_throwNew l D g ad mc_48 ms_49 y _ s_26 a0 50 11 H.size (us H) h_a0 h) w9_Mo_throwNew q3883 ⟨Nat.le_of_ble_eq_true rfl, Nat.le_of_ble_eq_true rfl⟩ rfl rfl h_a0 (q := (RMo, TMo, 131)) rfl rfl hl.1 rfl (Nat.le_of_ble_eq_true rfl) rfl hr_50 d_Mo_classStep_71 (fun y_45 s_44 d_46 e_47 H locs h hP hD hS => ?_)
      have hl := lv_sub (l' := []) hl [] rfl
      obtain ⟨hd, h⟩ := h
      refine lv_iconst (v := 1) G.1 G.2.1 d_Mo_classStep_74 (by decide) ?_
      exact hret _ (y_45, s_44, 0 + d_46, 0 + e_47) _ _ _ _ _ ls h hP hD hS (Nat.le_refl _) (Nat.le_refl _) hd.1 hd.2 d_Mo_classStep_75
theorem q3987 : Cond.methodLink "ClassWorksModel" 1093 y_Mo_lock ∈ lw_ok := lw_okmem (List.mem_of_getElem? (i := 3987) (by decide +kernel)) rfl
theorem q3990 : Cond.code y_Mo_lock b_Mo_lock 3 (none) ∈ lw_ok := lw_okmem (List.mem_of_getElem? (i := 3990) (by decide +kernel)) rfl
theorem q3989 : Cond.instanceMethod y_Mo_lock ∈ lw_ok := lw_okmem (List.mem_of_getElem? (i := 3989) (by decide +kernel)) rfl
theorem q286 : Cond.selects y_Mo_lock.cls y_Mo_lock y_Mo_lock ∈ lw_ok := lw_okmem (List.mem_of_getElem? (i := 286) (by decide +kernel)) rfl
theorem w9_Mo_lock : CWv y_Mo_lock b_Mo_lock 3 (none) 2 ∧ Cond.instanceMethod y_Mo_lock ∈ lw_ok ∧ Cond.selects y_Mo_lock.cls y_Mo_lock y_Mo_lock ∈ lw_ok := ⟨⟨q3990, q348, by decide +kernel, by decide +kernel, by decide +kernel⟩, q3989, q286⟩
def y_Mo_lockStep : MethodName := ⟨"ClassWorksModel", "lockStep", "(II)I"⟩
abbrev b_Mo_lockStep : ByteArray := prog_14_method_119_code
theorem d_Mo_lockStep_0 : decode b_Mo_lockStep 0 = .ok (.aload_n 0, 1) := by decide +kernel
theorem d_Mo_lockStep_1 : decode b_Mo_lockStep 1 = .ok (.getfield 917, 3) := by decide +kernel
theorem d_Mo_lockStep_4 : decode b_Mo_lockStep 4 = .ok (.getfield 936, 3) := by decide +kernel
theorem d_Mo_lockStep_7 : decode b_Mo_lockStep 7 = .ok (.bipush 44, 2) := by decide +kernel
theorem d_Mo_lockStep_9 : decode b_Mo_lockStep 9 = .ok (.iload_n 1, 1) := by decide +kernel
theorem d_Mo_lockStep_10 : decode b_Mo_lockStep 10 = .ok (.imul, 1) := by decide +kernel
theorem d_Mo_lockStep_11 : decode b_Mo_lockStep 11 = .ok (.bipush 20, 2) := by decide +kernel
theorem d_Mo_lockStep_13 : decode b_Mo_lockStep 13 = .ok (.iadd, 1) := by decide +kernel
theorem d_Mo_lockStep_14 : decode b_Mo_lockStep 14 = .ok (.aload_n 0, 1) := by decide +kernel
theorem d_Mo_lockStep_15 : decode b_Mo_lockStep 15 = .ok (.getfield 917, 3) := by decide +kernel
theorem d_Mo_lockStep_18 : decode b_Mo_lockStep 18 = .ok (.getfield 933, 3) := by decide +kernel
theorem d_Mo_lockStep_21 : decode b_Mo_lockStep 21 = .ok (.iload_n 1, 1) := by decide +kernel
theorem d_Mo_lockStep_22 : decode b_Mo_lockStep 22 = .ok (.iaload, 1) := by decide +kernel
theorem d_Mo_lockStep_23 : decode b_Mo_lockStep 23 = .ok (.iadd, 1) := by decide +kernel
theorem d_Mo_lockStep_24 : decode b_Mo_lockStep 24 = .ok (.iconst 1, 1) := by decide +kernel
theorem d_Mo_lockStep_25 : decode b_Mo_lockStep 25 = .ok (.isub, 1) := by decide +kernel
theorem d_Mo_lockStep_26 : decode b_Mo_lockStep 26 = .ok (.iaload, 1) := by decide +kernel
theorem d_Mo_lockStep_27 : decode b_Mo_lockStep 27 = .ok (.istore_n 3, 1) := by decide +kernel
theorem d_Mo_lockStep_28 : decode b_Mo_lockStep 28 = .ok (.iload_n 3, 1) := by decide +kernel
theorem d_Mo_lockStep_29 : decode b_Mo_lockStep 29 = .ok (.ifCond .eq 27, 3) := by decide +kernel
theorem d_Mo_lockStep_32 : decode b_Mo_lockStep 32 = .ok (.aload_n 0, 1) := by decide +kernel
theorem d_Mo_lockStep_33 : decode b_Mo_lockStep 33 = .ok (.iload_n 3, 1) := by decide +kernel
theorem d_Mo_lockStep_34 : decode b_Mo_lockStep 34 = .ok (.invokevirtual 1087, 3) := by decide +kernel
theorem d_Mo_lockStep_37 : decode b_Mo_lockStep 37 = .ok (.ifCond .le 19, 3) := by decide +kernel
theorem d_Mo_lockStep_40 : decode b_Mo_lockStep 40 = .ok (.aload_n 0, 1) := by decide +kernel
theorem d_Mo_lockStep_41 : decode b_Mo_lockStep 41 = .ok (.iload_n 3, 1) := by decide +kernel
theorem d_Mo_lockStep_42 : decode b_Mo_lockStep 42 = .ok (.invokevirtual 1090, 3) := by decide +kernel
theorem d_Mo_lockStep_45 : decode b_Mo_lockStep 45 = .ok (.aload_n 0, 1) := by decide +kernel
theorem d_Mo_lockStep_46 : decode b_Mo_lockStep 46 = .ok (.getfield 908, 3) := by decide +kernel
theorem d_Mo_lockStep_49 : decode b_Mo_lockStep 49 = .ok (.if_icmp .eq 7, 3) := by decide +kernel
theorem d_Mo_lockStep_52 : decode b_Mo_lockStep 52 = .ok (.iconst 1, 1) := by decide +kernel
theorem d_Mo_lockStep_53 : decode b_Mo_lockStep 53 = .ok (.goto 4, 3) := by decide +kernel
theorem d_Mo_lockStep_56 : decode b_Mo_lockStep 56 = .ok (.iconst 0, 1) := by decide +kernel
theorem d_Mo_lockStep_57 : decode b_Mo_lockStep 57 = .ok (.istore 4, 2) := by decide +kernel
theorem d_Mo_lockStep_59 : decode b_Mo_lockStep 59 = .ok (.iload_n 2, 1) := by decide +kernel
theorem d_Mo_lockStep_60 : decode b_Mo_lockStep 60 = .ok (.bipush 60, 2) := by decide +kernel
theorem d_Mo_lockStep_62 : decode b_Mo_lockStep 62 = .ok (.if_icmp .ne 18, 3) := by decide +kernel
theorem d_Mo_lockStep_65 : decode b_Mo_lockStep 65 = .ok (.iload 4, 2) := by decide +kernel
theorem d_Mo_lockStep_67 : decode b_Mo_lockStep 67 = .ok (.ifCond .eq 13, 3) := by decide +kernel
theorem d_Mo_lockStep_70 : decode b_Mo_lockStep 70 = .ok (.aload_n 0, 1) := by decide +kernel
theorem d_Mo_lockStep_71 : decode b_Mo_lockStep 71 = .ok (.getfield 917, 3) := by decide +kernel
theorem d_Mo_lockStep_74 : decode b_Mo_lockStep 74 = .ok (.iload_n 3, 1) := by decide +kernel
theorem d_Mo_lockStep_75 : decode b_Mo_lockStep 75 = .ok (.putfield 992, 3) := by decide +kernel
theorem d_Mo_lockStep_78 : decode b_Mo_lockStep 78 = .ok (.iconst 2, 1) := by decide +kernel
theorem d_Mo_lockStep_79 : decode b_Mo_lockStep 79 = .ok (.ireturn, 1) := by decide +kernel
theorem d_Mo_lockStep_80 : decode b_Mo_lockStep 80 = .ok (.aload_n 0, 1) := by decide +kernel
theorem d_Mo_lockStep_81 : decode b_Mo_lockStep 81 = .ok (.iload_n 2, 1) := by decide +kernel
theorem d_Mo_lockStep_82 : decode b_Mo_lockStep 82 = .ok (.invokevirtual 1032, 3) := by decide +kernel
theorem d_Mo_lockStep_85 : decode b_Mo_lockStep 85 = .ok (.iload_n 3, 1) := by decide +kernel
theorem d_Mo_lockStep_86 : decode b_Mo_lockStep 86 = .ok (.ifCond .ne 12, 3) := by decide +kernel
theorem d_Mo_lockStep_89 : decode b_Mo_lockStep 89 = .ok (.aload_n 0, 1) := by decide +kernel
theorem d_Mo_lockStep_90 : decode b_Mo_lockStep 90 = .ok (.iconst 0, 1) := by decide +kernel
theorem d_Mo_lockStep_91 : decode b_Mo_lockStep 91 = .ok (.iconst 2, 1) := by decide +kernel
theorem d_Mo_lockStep_92 : decode b_Mo_lockStep 92 = .ok (.invokevirtual 1001, 3) := by decide +kernel
theorem d_Mo_lockStep_95 : decode b_Mo_lockStep 95 = .ok (.goto 73, 3) := by decide +kernel
theorem d_Mo_lockStep_98 : decode b_Mo_lockStep 98 = .ok (.iload_n 2, 1) := by decide +kernel
theorem d_Mo_lockStep_99 : decode b_Mo_lockStep 99 = .ok (.bipush 61, 2) := by decide +kernel
theorem d_Mo_lockStep_101 : decode b_Mo_lockStep 101 = .ok (.if_icmp .ne 26, 3) := by decide +kernel
theorem d_Mo_lockStep_104 : decode b_Mo_lockStep 104 = .ok (.iload 4, 2) := by decide +kernel
theorem d_Mo_lockStep_106 : decode b_Mo_lockStep 106 = .ok (.ifCond .ne 11, 3) := by decide +kernel
theorem d_Mo_lockStep_109 : decode b_Mo_lockStep 109 = .ok (.aload_n 0, 1) := by decide +kernel
theorem d_Mo_lockStep_110 : decode b_Mo_lockStep 110 = .ok (.iload_n 3, 1) := by decide +kernel
theorem d_Mo_lockStep_111 : decode b_Mo_lockStep 111 = .ok (.invokevirtual 1087, 3) := by decide +kernel
theorem d_Mo_lockStep_114 : decode b_Mo_lockStep 114 = .ok (.ifCond .ne 13, 3) := by decide +kernel
theorem d_Mo_lockStep_117 : decode b_Mo_lockStep 117 = .ok (.aload_n 0, 1) := by decide +kernel
theorem d_Mo_lockStep_118 : decode b_Mo_lockStep 118 = .ok (.iconst 0, 1) := by decide +kernel
theorem d_Mo_lockStep_119 : decode b_Mo_lockStep 119 = .ok (.bipush 7, 2) := by decide +kernel
theorem d_Mo_lockStep_121 : decode b_Mo_lockStep 121 = .ok (.invokevirtual 1001, 3) := by decide +kernel
theorem d_Mo_lockStep_124 : decode b_Mo_lockStep 124 = .ok (.goto 44, 3) := by decide +kernel
theorem d_Mo_lockStep_127 : decode b_Mo_lockStep 127 = .ok (.aload_n 0, 1) := by decide +kernel
theorem d_Mo_lockStep_128 : decode b_Mo_lockStep 128 = .ok (.iload_n 3, 1) := by decide +kernel
theorem d_Mo_lockStep_129 : decode b_Mo_lockStep 129 = .ok (.aload_n 0, 1) := by decide +kernel
theorem d_Mo_lockStep_130 : decode b_Mo_lockStep 130 = .ok (.iload_n 3, 1) := by decide +kernel
theorem d_Mo_lockStep_131 : decode b_Mo_lockStep 131 = .ok (.invokevirtual 1087, 3) := by decide +kernel
theorem d_Mo_lockStep_134 : decode b_Mo_lockStep 134 = .ok (.iload_n 2, 1) := by decide +kernel
theorem d_Mo_lockStep_135 : decode b_Mo_lockStep 135 = .ok (.bipush 60, 2) := by decide +kernel
theorem d_Mo_lockStep_137 : decode b_Mo_lockStep 137 = .ok (.if_icmp .ne 7, 3) := by decide +kernel
theorem d_Mo_lockStep_140 : decode b_Mo_lockStep 140 = .ok (.iconst 1, 1) := by decide +kernel
theorem d_Mo_lockStep_141 : decode b_Mo_lockStep 141 = .ok (.goto 4, 3) := by decide +kernel
theorem d_Mo_lockStep_144 : decode b_Mo_lockStep 144 = .ok (.iconst (-1), 1) := by decide +kernel
theorem d_Mo_lockStep_145 : decode b_Mo_lockStep 145 = .ok (.iadd, 1) := by decide +kernel
theorem d_Mo_lockStep_146 : decode b_Mo_lockStep 146 = .ok (.invokevirtual 1093, 3) := by decide +kernel
theorem d_Mo_lockStep_149 : decode b_Mo_lockStep 149 = .ok (.aload_n 0, 1) := by decide +kernel
theorem d_Mo_lockStep_150 : decode b_Mo_lockStep 150 = .ok (.iload_n 1, 1) := by decide +kernel
theorem d_Mo_lockStep_151 : decode b_Mo_lockStep 151 = .ok (.invokevirtual 1057, 3) := by decide +kernel
theorem d_Mo_lockStep_154 : decode b_Mo_lockStep 154 = .ok (.pop, 1) := by decide +kernel
theorem d_Mo_lockStep_155 : decode b_Mo_lockStep 155 = .ok (.aload_n 0, 1) := by decide +kernel
theorem d_Mo_lockStep_156 : decode b_Mo_lockStep 156 = .ok (.getfield 917, 3) := by decide +kernel
theorem d_Mo_lockStep_159 : decode b_Mo_lockStep 159 = .ok (.getfield 930, 3) := by decide +kernel
theorem d_Mo_lockStep_162 : decode b_Mo_lockStep 162 = .ok (.iload_n 1, 1) := by decide +kernel
theorem d_Mo_lockStep_163 : decode b_Mo_lockStep 163 = .ok (.dup2, 1) := by decide +kernel
theorem d_Mo_lockStep_164 : decode b_Mo_lockStep 164 = .ok (.iaload, 1) := by decide +kernel
theorem d_Mo_lockStep_165 : decode b_Mo_lockStep 165 = .ok (.iconst 1, 1) := by decide +kernel
theorem d_Mo_lockStep_166 : decode b_Mo_lockStep 166 = .ok (.iadd, 1) := by decide +kernel
theorem d_Mo_lockStep_167 : decode b_Mo_lockStep 167 = .ok (.iastore, 1) := by decide +kernel
theorem d_Mo_lockStep_168 : decode b_Mo_lockStep 168 = .ok (.iconst 1, 1) := by decide +kernel
theorem d_Mo_lockStep_169 : decode b_Mo_lockStep 169 = .ok (.ireturn, 1) := by decide +kernel
abbrev ra_Mo_lockStep (mc ms : Nat) : Room := { frames := 8, cells := mc, slots := ms, locals := 220 }
def wja_Mo_lockStep_168 (mc ms : Nat) (Post : Ly → St → Int32 → Nat → Nat → Prop) (a0 : Nat) (y_j168 : Ly) (s_j168 : St) (d_j168 e_j168 : Nat) : Prop := (d_j168 ≤ mc ∧ e_j168 ≤ ms) ∧ Post y_j168 s_j168 1 d_j168 e_j168
def wja_Mo_lockStep_145 (mc ms : Nat) (Post : Ly → St → Int32 → Nat → Nat → Prop) (a0 : Nat) (y_j145 : Ly) (s_j145 : St) (d_j145 e_j145 : Nat) (x1j145 : Int32) (z1j145 : Int32) (z2j145 : Int32) (z3j145 : Int32) : Prop := (d_j145 ≤ mc ∧ e_j145 ≤ ms) ∧ wu_Mo_lock y_j145 (fun (s_11 : St) => wu_Mo_pop y_j145 (fun (s_13 : St) (r_12 : Int32) => ∃ b_14 : Nat, sO s_13 a0 46 = some b_14 ∧ cl b_14 = 12 ∧ xA y_j145 s_13 b_14 18 x1j145 (fun x_17 : Int32 => xS y_j145 s_13 b_14 18 x1j145 (x_17 + 1) (fun s_18 : St => wja_Mo_lockStep_168 mc ms Post a0 y_j145 s_18 d_j145 e_j145))) s_11 a0 x1j145) s_j145 a0 z1j145 (z2j145 + z3j145)
def wja_Mo_lockStep_127 (mc ms : Nat) (Post : Ly → St → Int32 → Nat → Nat → Prop) (a0 : Nat) (y_j127 : Ly) (s_j127 : St) (d_j127 e_j127 : Nat) (x1j127 : Int32) (x2j127 : Int32) (x3j127 : Int32) : Prop := (d_j127 ≤ mc ∧ e_j127 ≤ ms) ∧ wu_Mo_locksOf y_j127 (fun (s_9 : St) (r_8 : Int32) => ((¬ x2j127 = 60 → wja_Mo_lockStep_145 mc ms Post a0 y_j127 s_9 d_j127 e_j127 x1j127 x3j127 r_8 (-1)) ∧ (x2j127 = 60 → wja_Mo_lockStep_145 mc ms Post a0 y_j127 s_9 d_j127 e_j127 x1j127 x3j127 r_8 1))) s_j127 a0 x3j127
def wja_Mo_lockStep_117 (mc ms : Nat) (Post : Ly → St → Int32 → Nat → Nat → Prop) (a0 : Nat) (y_j117 : Ly) (s_j117 : St) (d_j117 e_j117 : Nat) : Prop := (d_j117 ≤ mc ∧ e_j117 ≤ ms) ∧ ∃ mc_24 ms_25 : Nat, (d_j117 + mc_24 ≤ mc ∧ e_j117 + ms_25 ≤ ms) ∧ wa_Mo_throwNew mc_24 ms_25 y_j117 (fun (y_21 : Ly) (s_20 : St) (d_22 e_23 : Nat) => (d_j117 + d_22 ≤ mc ∧ e_j117 + e_23 ≤ ms) ∧ wja_Mo_lockStep_168 mc ms Post a0 y_21 s_20 (d_j117 + d_22) (e_j117 + e_23)) s_j117 a0 0 7
def wja_Mo_lockStep_80 (mc ms : Nat) (Post : Ly → St → Int32 → Nat → Nat → Prop) (a0 : Nat) (y_j80 : Ly) (s_j80 : St) (d_j80 e_j80 : Nat) (x1j80 : Int32) (x2j80 : Int32) (x3j80 : Int32) (x4j80 : Int32) : Prop := (d_j80 ≤ mc ∧ e_j80 ≤ ms) ∧ wu_Mo_tally y_j80 (fun (s_7 : St) => ((¬ x3j80 = 0 → ((¬ x2j80 = 61 → wja_Mo_lockStep_127 mc ms Post a0 y_j80 s_7 d_j80 e_j80 x1j80 x2j80 x3j80) ∧ (x2j80 = 61 → ((¬ x4j80 = 0 → wja_Mo_lockStep_117 mc ms Post a0 y_j80 s_7 d_j80 e_j80) ∧ (x4j80 = 0 → wu_Mo_locksOf y_j80 (fun (s_28 : St) (r_27 : Int32) => ((¬ r_27 = 0 → wja_Mo_lockStep_127 mc ms Post a0 y_j80 s_28 d_j80 e_j80 x1j80 x2j80 x3j80) ∧ (r_27 = 0 → wja_Mo_lockStep_117 mc ms Post a0 y_j80 s_28 d_j80 e_j80))) s_7 a0 x3j80))))) ∧ (x3j80 = 0 → ∃ mc_34 ms_35 : Nat, (d_j80 + mc_34 ≤ mc ∧ e_j80 + ms_35 ≤ ms) ∧ wa_Mo_throwNew mc_34 ms_35 y_j80 (fun (y_31 : Ly) (s_30 : St) (d_32 e_33 : Nat) => (d_j80 + d_32 ≤ mc ∧ e_j80 + e_33 ≤ ms) ∧ wja_Mo_lockStep_168 mc ms Post a0 y_31 s_30 (d_j80 + d_32) (e_j80 + e_33)) s_7 a0 0 2))) s_j80 a0 x2j80
def wja_Mo_lockStep_57 (mc ms : Nat) (Post : Ly → St → Int32 → Nat → Nat → Prop) (a0 : Nat) (y_j57 : Ly) (s_j57 : St) (d_j57 e_j57 : Nat) (x1j57 : Int32) (x2j57 : Int32) (x3j57 : Int32) (z0j57 : Int32) : Prop := (d_j57 ≤ mc ∧ e_j57 ≤ ms) ∧ ((¬ x2j57 = 60 → wja_Mo_lockStep_80 mc ms Post a0 y_j57 s_j57 d_j57 e_j57 x1j57 x2j57 x3j57 z0j57) ∧ (x2j57 = 60 → ((z0j57 = 0 → wja_Mo_lockStep_80 mc ms Post a0 y_j57 s_j57 d_j57 e_j57 x1j57 x2j57 x3j57 z0j57) ∧ (¬ (z0j57 = 0) → ∃ b_37 : Nat, sO s_j57 a0 46 = some b_37 ∧ cl b_37 = 12 ∧ xP (uV s_j57 b_37 2 x3j57) (fun s_40 : St => Post y_j57 s_40 2 d_j57 e_j57)))))
def wja_Mo_lockStep_56 (mc ms : Nat) (Post : Ly → St → Int32 → Nat → Nat → Prop) (a0 : Nat) (y_j56 : Ly) (s_j56 : St) (d_j56 e_j56 : Nat) (x1j56 : Int32) (x2j56 : Int32) (x3j56 : Int32) : Prop := (d_j56 ≤ mc ∧ e_j56 ≤ ms) ∧ wja_Mo_lockStep_57 mc ms Post a0 y_j56 s_j56 d_j56 e_j56 x1j56 x2j56 x3j56 0
def wa_Mo_lockStep (mc ms : Nat) (y : Ly) (Post : Ly → St → Int32 → Nat → Nat → Prop) (σ : St) (a0 : Nat) (v1 : Int32) (v2 : Int32) : Prop := ∃ b_1 : Nat, sO σ a0 46 = some b_1 ∧ cl b_1 = 12 ∧ xA y σ b_1 19 v1 (fun x_4 : Int32 => xA y σ b_1 20 ((((44 * v1) + 20) + x_4) - 1) (fun x_5 : Int32 => ((x_5 = 0 → wja_Mo_lockStep_56 mc ms Post a0 y σ 0 0 v1 v2 x_5) ∧ (¬ (x_5 = 0) → wu_Mo_locksOf y (fun (s_42 : St) (r_41 : Int32) => ((r_41 ≤ 0 → wja_Mo_lockStep_56 mc ms Post a0 y s_42 0 0 v1 v2 x_5) ∧ (¬ (r_41 ≤ 0) → wu_Mo_ownerOf y (fun (s_44 : St) (r_43 : Int32) => ((r_43 = (sV s_44 a0 47) → wja_Mo_lockStep_56 mc ms Post a0 y s_44 0 0 v1 v2 x_5) ∧ (¬ (r_43 = (sV s_44 a0 47)) → wja_Mo_lockStep_57 mc ms Post a0 y s_44 0 0 v1 v2 x_5 1))) s_42 a0 x_5))) σ a0 x_5))))
set_option maxHeartbeats 4000000 in
set_option maxRecDepth 100000 in
theorem ca_Mo_lockStep (l : Launch) (D : va_G) (g : Nat → ClassId) (ad : Nat → Nat) (mc ms : Nat) (y : Ly) (Post : Ly → St → Int32 → Nat → Nat → Prop) (σ : St) (a0 : Nat) (v1 : Int32) (v2 : Int32) (sz uz : Nat) (h_a0 : cl a0 = 14) (h : wa_Mo_lockStep mc ms y Post σ a0 v1 v2) : Met l y_Mo_lockStep (mw y_Mo_lockStep b_Mo_lockStep 5 (some .int)) (ra_Mo_lockStep mc ms) (PCu g D [] [.ref (ad a0), .int v1, .int v2] sz uz (ws g ad y σ)) (va_Qi (fun (r : Int32) (u : Ly × St × Nat × Nat) => Post u.1 u.2.1 r u.2.2.1 u.2.2.2) (QU D (va_A (ws g ad y σ) sz) (fun u => ws g ad u.1 u.2.1) sz uz (fun u => u.2.2.1) (fun u => u.2.2.2)) (va_A (ws g ad y σ) sz)) mc ms (va_A (ws g ad y σ) sz) := by
  refine ofIu (by decide +kernel) (Nat.le_of_ble_eq_true rfl) ?_
  intro p e s m args below meth c A Q ls H locs G hsz hP hD hS hl hret
  subst hsz
  have hl : lv_has ls 5 [(0, .ref (ad a0)), (1, .int v1), (2, .int v2)] := hl
  have hd : 0 ≤ mc ∧ 0 ≤ ms := ⟨Nat.zero_le _, Nat.zero_le _⟩
  unfold wa_Mo_lockStep at h
  refine lv_aload_n G.1 G.2.1 d_Mo_lockStep_0 rfl (lv_at hl 0 rfl) ?_
  obtain ⟨b_1, e_2, c_3, h⟩ := h
  refine ugf (v := .ref (ad b_1)) G hP h_a0 iMo rfl 46 (by decide) rfl q3110 rfl (by show va_rf ((sO σ a0 46).map ad) = _; rw [e_2]; rfl) d_Mo_lockStep_1 ?_
  refine ugfN (v := .ref (yP y b_1 20)) G hP c_3 iMr rfl 20 (by decide) rfl q3013 rfl rfl d_Mo_lockStep_4 ?_
  refine lv_bipush (v := 44) G.1 G.2.1 d_Mo_lockStep_7 (by decide) ?_
  refine lv_iload_n G.1 G.2.1 d_Mo_lockStep_9 rfl (lv_at hl 1 rfl) ?_
  refine lv_imul G.1 G.2.1 d_Mo_lockStep_10 ?_
  refine lv_bipush (v := 20) G.1 G.2.1 d_Mo_lockStep_11 (by decide) ?_
  refine lv_iadd G.1 G.2.1 d_Mo_lockStep_13 ?_
  refine lv_aload_n G.1 G.2.1 d_Mo_lockStep_14 rfl (lv_at hl 0 rfl) ?_
  refine ugf (v := .ref (ad b_1)) G hP h_a0 iMo rfl 46 (by decide) rfl q3110 rfl (by show va_rf ((sO σ a0 46).map ad) = _; rw [e_2]; rfl) d_Mo_lockStep_15 ?_
  refine ugfN (v := .ref (yP y b_1 19)) G hP c_3 iMr rfl 19 (by decide) rfl q3011 rfl rfl d_Mo_lockStep_18 ?_
  refine W.eq (g2 := F0 m 21 ls [.ref (yP y b_1 19), .int ((44 * v1) + 20), .ref (yP y b_1 20)]) rfl ?_
  refine lv_iload_n G.1 G.2.1 d_Mo_lockStep_21 rfl (lv_at hl 1 rfl) ?_
  refine uiald G hP (kdp c_3 rfl) (typ c_3 rfl) h d_Mo_lockStep_22 (fun x_4 h => ?_)
  refine lv_iadd G.1 G.2.1 d_Mo_lockStep_23 ?_
  refine lv_iconst (v := 1) G.1 G.2.1 d_Mo_lockStep_24 (by decide) ?_
  refine lv_isub G.1 G.2.1 d_Mo_lockStep_25 ?_
  refine uiald G hP (kdp c_3 rfl) (typ c_3 rfl) h d_Mo_lockStep_26 (fun x_5 h => ?_)
  refine lv_istore_n (lv' := [(3, .int x_5), (0, .ref (ad a0)), (1, .int v1), (2, .int v2)]) G.1 G.2.1 d_Mo_lockStep_27 rfl hl (by decide) rfl (fun ls hl => ?_)
  refine lv_iload_n G.1 G.2.1 d_Mo_lockStep_28 rfl (lv_at hl 0 rfl) ?_
  have J_57 : ∀ (y_j57 : Ly) (s_j57 : St) (d_j57 e_j57 : Nat) (x1j57 : Int32) (x2j57 : Int32) (x3j57 : Int32) (z0j57 : Int32) (H : Heap) (locs : List Loc), wja_Mo_lockStep_57 mc ms Post a0 y_j57 s_j57 d_j57 e_j57 x1j57 x2j57 x3j57 z0j57 → va_P D CL (ws g ad y_j57 s_j57) H → va_D A (ws g ad y_j57 s_j57) → va_S A s.heap H locs → ∀ ls, lv_has ls 5 [(0, .ref (ad a0)), (1, .int x1j57), (2, .int x2j57), (3, .int x3j57)] → W p l e (ra_Mo_lockStep mc ms) s m args below meth c H locs d_j57 e_j57 Q (F0 m 57 ls [.int z0j57]) := by
    intro y_j57 s_j57 d_j57 e_j57 x1j57 x2j57 x3j57 z0j57 H locs h hP hD hS ls hl
    unfold wja_Mo_lockStep_57 at h
    obtain ⟨hd, h⟩ := h
    refine lv_istore (lv' := [(4, .int z0j57), (0, .ref (ad a0)), (1, .int x1j57), (2, .int x2j57), (3, .int x3j57)]) G.1 G.2.1 d_Mo_lockStep_57 hl (by decide) rfl (fun ls hl => ?_)
    refine lv_iload_n G.1 G.2.1 d_Mo_lockStep_59 rfl (lv_at hl 3 rfl) ?_
    refine lv_bipush (v := 60) G.1 G.2.1 d_Mo_lockStep_60 (by decide) ?_
    have J_80 : ∀ (y_j80 : Ly) (s_j80 : St) (d_j80 e_j80 : Nat) (x1j80 : Int32) (x2j80 : Int32) (x3j80 : Int32) (x4j80 : Int32) (H : Heap) (locs : List Loc), wja_Mo_lockStep_80 mc ms Post a0 y_j80 s_j80 d_j80 e_j80 x1j80 x2j80 x3j80 x4j80 → va_P D CL (ws g ad y_j80 s_j80) H → va_D A (ws g ad y_j80 s_j80) → va_S A s.heap H locs → ∀ ls, lv_has ls 5 [(0, .ref (ad a0)), (1, .int x1j80), (2, .int x2j80), (3, .int x3j80), (4, .int x4j80)] → W p l e (ra_Mo_lockStep mc ms) s m args below meth c H locs d_j80 e_j80 Q (F0 m 80 ls []) := by
      intro y_j80 s_j80 d_j80 e_j80 x1j80 x2j80 x3j80 x4j80 H locs h hP hD hS ls hl
      unfold wja_Mo_lockStep_80 at h
      obtain ⟨hd, h⟩ := h
      refine lv_aload_n G.1 G.2.1 d_Mo_lockStep_80 rfl (lv_at hl 0 rfl) ?_
      refine lv_iload_n G.1 G.2.1 d_Mo_lockStep_81 rfl (lv_at hl 2 rfl) ?_
      refine ucVv (As := [.int x2j80]) (rest := []) G hP hD hS (cu_Mo_tally l D g ad y_j80 _ s_j80 a0 x2j80 H.size h_a0 h) w9_Mo_tally q3943 ⟨Nat.le_of_ble_eq_true rfl, Nat.le_of_ble_eq_true rfl⟩ rfl rfl h_a0 (q := (RMo, TMo, 131)) rfl rfl hl.1 rfl (Nat.le_of_ble_eq_true rfl) rfl hd d_Mo_lockStep_82 (fun s_7 H locs h hP hD hS => ?_)
      refine lv_iload_n G.1 G.2.1 d_Mo_lockStep_85 rfl (lv_at hl 3 rfl) ?_
      have J_168 : ∀ (y_j168 : Ly) (s_j168 : St) (d_j168 e_j168 : Nat) (H : Heap) (locs : List Loc), wja_Mo_lockStep_168 mc ms Post a0 y_j168 s_j168 d_j168 e_j168 → va_P D CL (ws g ad y_j168 s_j168) H → va_D A (ws g ad y_j168 s_j168) → va_S A s.heap H locs → ∀ ls, lv_has ls 5 [] → W p l e (ra_Mo_lockStep mc ms) s m args below meth c H locs d_j168 e_j168 Q (F0 m 168 ls []) := by
        intro y_j168 s_j168 d_j168 e_j168 H locs h hP hD hS ls hl
        unfold wja_Mo_lockStep_168 at h
        obtain ⟨hd, h⟩ := h
        refine lv_iconst (v := 1) G.1 G.2.1 d_Mo_lockStep_168 (by decide) ?_
        exact hret _ (y_j168, s_j168, d_j168, e_j168) _ _ _ _ _ ls h hP hD hS (Nat.le_refl _) (Nat.le_refl _) hd.1 hd.2 d_Mo_lockStep_169
      refine lv_if_ne (tgt := 98) G.1 G.2.1 d_Mo_lockStep_86 (by decide) (fun c86 => ?_) (fun c86 => ?_)
      · skip
        have h := h.1 c86
        refine lv_iload_n G.1 G.2.1 d_Mo_lockStep_98 rfl (lv_at hl 2 rfl) ?_
        refine lv_bipush (v := 61) G.1 G.2.1 d_Mo_lockStep_99 (by decide) ?_
        have J_127 : ∀ (y_j127 : Ly) (s_j127 : St) (d_j127 e_j127 : Nat) (x1j127 : Int32) (x2j127 : Int32) (x3j127 : Int32) (H : Heap) (locs : List Loc), wja_Mo_lockStep_127 mc ms Post a0 y_j127 s_j127 d_j127 e_j127 x1j127 x2j127 x3j127 → va_P D CL (ws g ad y_j127 s_j127) H → va_D A (ws g ad y_j127 s_j127) → va_S A s.heap H locs → ∀ ls, lv_has ls 5 [(0, .ref (ad a0)), (1, .int x1j127), (2, .int x2j127), (3, .int x3j127)] → W p l e (ra_Mo_lockStep mc ms) s m args below meth c H locs d_j127 e_j127 Q (F0 m 127 ls []) := by
          intro y_j127 s_j127 d_j127 e_j127 x1j127 x2j127 x3j127 H locs h hP hD hS ls hl
          unfold wja_Mo_lockStep_127 at h
          obtain ⟨hd, h⟩ := h
          refine lv_aload_n G.1 G.2.1 d_Mo_lockStep_127 rfl (lv_at hl 0 rfl) ?_
          refine lv_iload_n G.1 G.2.1 d_Mo_lockStep_128 rfl (lv_at hl 3 rfl) ?_
          refine lv_aload_n G.1 G.2.1 d_Mo_lockStep_129 rfl (lv_at hl 0 rfl) ?_
          refine lv_iload_n G.1 G.2.1 d_Mo_lockStep_130 rfl (lv_at hl 3 rfl) ?_
          refine ucVi (As := [.int x3j127]) (rest := [.int x3j127, .ref (ad a0)]) G hP hD hS (cu_Mo_locksOf l D g ad y_j127 _ s_j127 a0 x3j127 H.size h_a0 h) w9_Mo_locksOf q3839 ⟨Nat.le_of_ble_eq_true rfl, Nat.le_of_ble_eq_true rfl⟩ rfl rfl h_a0 (q := (RMo, TMo, 131)) rfl rfl hl.1 rfl (Nat.le_of_ble_eq_true rfl) rfl hd d_Mo_lockStep_131 (fun r_8 s_9 H locs h hP hD hS => ?_)
          refine lv_iload_n G.1 G.2.1 d_Mo_lockStep_134 rfl (lv_at hl 2 rfl) ?_
          refine lv_bipush (v := 60) G.1 G.2.1 d_Mo_lockStep_135 (by decide) ?_
          have J_145 : ∀ (y_j145 : Ly) (s_j145 : St) (d_j145 e_j145 : Nat) (x1j145 : Int32) (z1j145 : Int32) (z2j145 : Int32) (z3j145 : Int32) (H : Heap) (locs : List Loc), wja_Mo_lockStep_145 mc ms Post a0 y_j145 s_j145 d_j145 e_j145 x1j145 z1j145 z2j145 z3j145 → va_P D CL (ws g ad y_j145 s_j145) H → va_D A (ws g ad y_j145 s_j145) → va_S A s.heap H locs → ∀ ls, lv_has ls 5 [(0, .ref (ad a0)), (1, .int x1j145)] → W p l e (ra_Mo_lockStep mc ms) s m args below meth c H locs d_j145 e_j145 Q (F0 m 145 ls [.int z3j145, .int z2j145, .int z1j145, .ref (ad a0)]) := by
            intro y_j145 s_j145 d_j145 e_j145 x1j145 z1j145 z2j145 z3j145 H locs h hP hD hS ls hl
            unfold wja_Mo_lockStep_145 at h
            obtain ⟨hd, h⟩ := h
            refine lv_iadd G.1 G.2.1 d_Mo_lockStep_145 ?_
            refine ucVv (As := [.int z1j145, .int (z2j145 + z3j145)]) (rest := []) G hP hD hS (cu_Mo_lock l D g ad y_j145 _ s_j145 a0 z1j145 (z2j145 + z3j145) H.size h_a0 h) w9_Mo_lock q3987 ⟨Nat.le_of_ble_eq_true rfl, Nat.le_of_ble_eq_true rfl⟩ rfl rfl h_a0 (q := (RMo, TMo, 131)) rfl rfl hl.1 rfl (Nat.le_of_ble_eq_true rfl) rfl hd d_Mo_lockStep_146 (fun s_11 H locs h hP hD hS => ?_)
            refine lv_aload_n G.1 G.2.1 d_Mo_lockStep_149 rfl (lv_at hl 0 rfl) ?_
            refine lv_iload_n G.1 G.2.1 d_Mo_lockStep_150 rfl (lv_at hl 1 rfl) ?_
            refine ucVi (As := [.int x1j145]) (rest := []) G hP hD hS (cu_Mo_pop l D g ad y_j145 _ s_11 a0 x1j145 H.size h_a0 h) w9_Mo_pop q3947 ⟨Nat.le_of_ble_eq_true rfl, Nat.le_of_ble_eq_true rfl⟩ rfl rfl h_a0 (q := (RMo, TMo, 131)) rfl rfl hl.1 rfl (Nat.le_of_ble_eq_true rfl) rfl hd d_Mo_lockStep_151 (fun r_12 s_13 H locs h hP hD hS => ?_)
            refine lv_pop G.1 G.2.1 d_Mo_lockStep_154 rfl ?_
            refine lv_aload_n G.1 G.2.1 d_Mo_lockStep_155 rfl (lv_at hl 0 rfl) ?_
            obtain ⟨b_14, e_15, c_16, h⟩ := h
            refine ugf (v := .ref (ad b_14)) G hP h_a0 iMo rfl 46 (by decide) rfl q3110 rfl (by show va_rf ((sO s_13 a0 46).map ad) = _; rw [e_15]; rfl) d_Mo_lockStep_156 ?_
            refine ugfN (v := .ref (yP y_j145 b_14 18)) G hP c_16 iMr rfl 18 (by decide) rfl q3009 rfl rfl d_Mo_lockStep_159 ?_
            refine lv_iload_n G.1 G.2.1 d_Mo_lockStep_162 rfl (lv_at hl 1 rfl) ?_
            refine lv_dup2_11 G.1 G.2.1 d_Mo_lockStep_163 rfl rfl ?_
            refine W.eq (g2 := F0 m 164 ls [.int x1j145, .ref (yP y_j145 b_14 18), .int x1j145, .ref (yP y_j145 b_14 18)]) rfl ?_
            refine uiald G hP (kdp c_16 rfl) (typ c_16 rfl) h d_Mo_lockStep_164 (fun x_17 h => ?_)
            refine lv_iconst (v := 1) G.1 G.2.1 d_Mo_lockStep_165 (by decide) ?_
            refine lv_iadd G.1 G.2.1 d_Mo_lockStep_166 ?_
            refine uiast G hP hD hS (kdp c_16 rfl) (typ c_16 rfl) h d_Mo_lockStep_167 (fun s_18 H locs h hP hD hS => ?_)
            exact J_168 y_j145 s_18 d_j145 e_j145 H locs h hP hD hS ls (lv_sub hl [] rfl)
          refine lv_icmp_ne (tgt := 144) G.1 G.2.1 d_Mo_lockStep_137 (by decide) (fun c137 => ?_) (fun c137 => ?_)
          · skip
            have h := h.1 c137
            refine lv_iconst (v := (-1)) G.1 G.2.1 d_Mo_lockStep_144 (by decide) ?_
            exact J_145 y_j127 s_9 d_j127 e_j127 x1j127 x3j127 r_8 (-1) H locs h hP hD hS ls (lv_sub hl [0, 1] rfl)
          · skip
            have h := h.2 c137
            refine lv_iconst (v := 1) G.1 G.2.1 d_Mo_lockStep_140 (by decide) ?_
            refine lv_goto (tgt := 145) G.1 G.2.1 d_Mo_lockStep_141 (by decide) ?_
            exact J_145 y_j127 s_9 d_j127 e_j127 x1j127 x3j127 r_8 1 H locs h hP hD hS ls (lv_sub hl [0, 1] rfl)
        refine lv_icmp_ne (tgt := 127) G.1 G.2.1 d_Mo_lockStep_101 (by decide) (fun c101 => ?_) (fun c101 => ?_)
        · skip
          have h := h.1 c101
          exact J_127 y_j80 s_7 d_j80 e_j80 x1j80 x2j80 x3j80 H locs h hP hD hS ls (lv_sub hl [0, 1, 2, 3] rfl)
        · skip
          have h := h.2 c101
          refine lv_iload G.1 G.2.1 d_Mo_lockStep_104 (lv_at hl 4 rfl) ?_
          have J_117 : ∀ (y_j117 : Ly) (s_j117 : St) (d_j117 e_j117 : Nat) (H : Heap) (locs : List Loc), wja_Mo_lockStep_117 mc ms Post a0 y_j117 s_j117 d_j117 e_j117 → va_P D CL (ws g ad y_j117 s_j117) H → va_D A (ws g ad y_j117 s_j117) → va_S A s.heap H locs → ∀ ls, lv_has ls 5 [(0, .ref (ad a0))] → W p l e (ra_Mo_lockStep mc ms) s m args below meth c H locs d_j117 e_j117 Q (F0 m 117 ls []) := by
            intro y_j117 s_j117 d_j117 e_j117 H locs h hP hD hS ls hl
            unfold wja_Mo_lockStep_117 at h
            obtain ⟨hd, h⟩ := h
            refine lv_aload_n G.1 G.2.1 d_Mo_lockStep_117 rfl (lv_at hl 0 rfl) ?_
            refine lv_iconst (v := 0) G.1 G.2.1 d_Mo_lockStep_118 (by decide) ?_
            refine lv_bipush (v := 7) G.1 G.2.1 d_Mo_lockStep_119 (by decide) ?_
            obtain ⟨mc_24, ms_25, hr_26, h⟩ := h
            refine uaVv (As := [.int 0, .int 7]) (rest := []) G hP hD hS (ca_Mo_throwNew l D g ad mc_24 ms_25 y_j117 _ s_j117 a0 0 7 H.size (us H) h_a0 h) w9_Mo_throwNew q3883 ⟨Nat.le_of_ble_eq_true rfl, Nat.le_of_ble_eq_true rfl⟩ rfl rfl h_a0 (q := (RMo, TMo, 131)) rfl rfl hl.1 rfl (Nat.le_of_ble_eq_true rfl) rfl hr_26 d_Mo_lockStep_121 (fun y_21 s_20 d_22 e_23 H locs h hP hD hS => ?_)
            have hl := lv_sub (l' := []) hl [] rfl
            obtain ⟨hd, h⟩ := h
            refine lv_goto (tgt := 168) G.1 G.2.1 d_Mo_lockStep_124 (by decide) ?_
            exact J_168 y_21 s_20 (d_j117 + d_22) (e_j117 + e_23) H locs h hP hD hS ls (lv_sub hl [] rfl)
          refine lv_if_ne (tgt := 117) G.1 G.2.1 d_Mo_lockStep_106 (by decide) (fun c106 => ?_) (fun c106 => ?_)
          · skip
            have h := h.1 c106
            exact J_117 y_j80 s_7 d_j80 e_j80 H locs h hP hD hS ls (lv_sub hl [0] rfl)
          · skip
            have h := h.2 c106
            refine lv_aload_n G.1 G.2.1 d_Mo_lockStep_109 rfl (lv_at hl 0 rfl) ?_
            refine W.eq (g2 := F0 m 110 ls [.ref (ad a0)]) rfl ?_
            refine lv_iload_n G.1 G.2.1 d_Mo_lockStep_110 rfl (lv_at hl 3 rfl) ?_
            refine ucVi (As := [.int x3j80]) (rest := []) G hP hD hS (cu_Mo_locksOf l D g ad y_j80 _ s_7 a0 x3j80 H.size h_a0 h) w9_Mo_locksOf q3839 ⟨Nat.le_of_ble_eq_true rfl, Nat.le_of_ble_eq_true rfl⟩ rfl rfl h_a0 (q := (RMo, TMo, 131)) rfl rfl hl.1 rfl (Nat.le_of_ble_eq_true rfl) rfl hd d_Mo_lockStep_111 (fun r_27 s_28 H locs h hP hD hS => ?_)
            refine lv_if_ne (tgt := 127) G.1 G.2.1 d_Mo_lockStep_114 (by decide) (fun c114 => ?_) (fun c114 => ?_)
            · skip
              have h := h.1 c114
              exact J_127 y_j80 s_28 d_j80 e_j80 x1j80 x2j80 x3j80 H locs h hP hD hS ls (lv_sub hl [0, 1, 2, 3] rfl)
            · skip
              have h := h.2 c114
              exact J_117 y_j80 s_28 d_j80 e_j80 H locs h hP hD hS ls (lv_sub hl [0] rfl)
      · skip
        have h := h.2 c86
        refine lv_aload_n G.1 G.2.1 d_Mo_lockStep_89 rfl (lv_at hl 0 rfl) ?_
        refine lv_iconst (v := 0) G.1 G.2.1 d_Mo_lockStep_90 (by decide) ?_
        refine lv_iconst (v := 2) G.1 G.2.1 d_Mo_lockStep_91 (by decide) ?_
        obtain ⟨mc_34, ms_35, hr_36, h⟩ := h
        refine uaVv (As := [.int 0, .int 2]) (rest := []) G hP hD hS (ca_Mo_throwNew l D g ad mc_34 ms_35 y_j80 _ s_7 a0 0 2 H.size (us H) h_a0 h) w9_Mo_throwNew q3883 ⟨Nat.le_of_ble_eq_true rfl, Nat.le_of_ble_eq_true rfl⟩ rfl rfl h_a0 (q := (RMo, TMo, 131)) rfl rfl hl.1 rfl (Nat.le_of_ble_eq_true rfl) rfl hr_36 d_Mo_lockStep_92 (fun y_31 s_30 d_32 e_33 H locs h hP hD hS => ?_)
        have hl := lv_sub (l' := []) hl [] rfl
        obtain ⟨hd, h⟩ := h
        refine lv_goto (tgt := 168) G.1 G.2.1 d_Mo_lockStep_95 (by decide) ?_
        exact J_168 y_31 s_30 (d_j80 + d_32) (e_j80 + e_33) H locs h hP hD hS ls (lv_sub hl [] rfl)
    refine lv_icmp_ne (tgt := 80) G.1 G.2.1 d_Mo_lockStep_62 (by decide) (fun c62 => ?_) (fun c62 => ?_)
    · skip
      have h := h.1 c62
      exact J_80 y_j57 s_j57 d_j57 e_j57 x1j57 x2j57 x3j57 z0j57 H locs h hP hD hS ls (lv_sub hl [1, 2, 3, 4, 0] rfl)
    · skip
      have h := h.2 c62
      refine lv_iload G.1 G.2.1 d_Mo_lockStep_65 (lv_at hl 0 rfl) ?_
      refine lv_if_eq (tgt := 80) G.1 G.2.1 d_Mo_lockStep_67 (by decide) (fun c67 => ?_) (fun c67 => ?_)
      · skip
        have h := h.1 c67
        exact J_80 y_j57 s_j57 d_j57 e_j57 x1j57 x2j57 x3j57 z0j57 H locs h hP hD hS ls (lv_sub hl [1, 2, 3, 4, 0] rfl)
      · skip
        have h := h.2 c67
        refine lv_aload_n G.1 G.2.1 d_Mo_lockStep_70 rfl (lv_at hl 1 rfl) ?_
        obtain ⟨b_37, e_38, c_39, h⟩ := h
        refine ugf (v := .ref (ad b_37)) G hP h_a0 iMo rfl 46 (by decide) rfl q3110 rfl (by show va_rf ((sO s_j57 a0 46).map ad) = _; rw [e_38]; rfl) d_Mo_lockStep_71 ?_
        refine lv_iload_n G.1 G.2.1 d_Mo_lockStep_74 rfl (lv_at hl 4 rfl) ?_
        refine upfN G hP hD hS h 2 putV c_39 iMr tMr tMr_ok nMr rfl (by decide) rfl q2989 rfl rfl fV rfl rfl d_Mo_lockStep_75 (fun s_40 H locs h hP hD hS => ?_)
        refine lv_iconst (v := 2) G.1 G.2.1 d_Mo_lockStep_78 (by decide) ?_
        refine W.eq (g2 := F0 m 79 ls [.int 2]) rfl ?_
        exact hret _ (y_j57, s_40, d_j57, e_j57) _ _ _ _ _ ls h hP hD hS (Nat.le_refl _) (Nat.le_refl _) hd.1 hd.2 d_Mo_lockStep_79
  have J_56 : ∀ (y_j56 : Ly) (s_j56 : St) (d_j56 e_j56 : Nat) (x1j56 : Int32) (x2j56 : Int32) (x3j56 : Int32) (H : Heap) (locs : List Loc), wja_Mo_lockStep_56 mc ms Post a0 y_j56 s_j56 d_j56 e_j56 x1j56 x2j56 x3j56 → va_P D CL (ws g ad y_j56 s_j56) H → va_D A (ws g ad y_j56 s_j56) → va_S A s.heap H locs → ∀ ls, lv_has ls 5 [(0, .ref (ad a0)), (1, .int x1j56), (2, .int x2j56), (3, .int x3j56)] → W p l e (ra_Mo_lockStep mc ms) s m args below meth c H locs d_j56 e_j56 Q (F0 m 56 ls []) := by
    intro y_j56 s_j56 d_j56 e_j56 x1j56 x2j56 x3j56 H locs h hP hD hS ls hl
    unfold wja_Mo_lockStep_56 at h
    obtain ⟨hd, h⟩ := h
    refine lv_iconst (v := 0) G.1 G.2.1 d_Mo_lockStep_56 (by decide) ?_
    exact J_57 y_j56 s_j56 d_j56 e_j56 x1j56 x2j56 x3j56 0 H locs h hP hD hS ls (lv_sub hl [0, 1, 2, 3] rfl)
  refine lv_if_eq (tgt := 56) G.1 G.2.1 d_Mo_lockStep_29 (by decide) (fun c29 => ?_) (fun c29 => ?_)
  · skip
    have h := h.1 c29
    exact J_56 y σ 0 0 v1 v2 x_5 H locs h hP hD hS ls (lv_sub hl [1, 2, 3, 0] rfl)
  · skip
    have h := h.2 c29
    refine lv_aload_n G.1 G.2.1 d_Mo_lockStep_32 rfl (lv_at hl 1 rfl) ?_
    refine lv_iload_n G.1 G.2.1 d_Mo_lockStep_33 rfl (lv_at hl 0 rfl) ?_
    refine ucVi (As := [.int x_5]) (rest := []) G hP hD hS (cu_Mo_locksOf l D g ad y _ σ a0 x_5 H.size h_a0 h) w9_Mo_locksOf q3839 ⟨Nat.le_of_ble_eq_true rfl, Nat.le_of_ble_eq_true rfl⟩ rfl rfl h_a0 (q := (RMo, TMo, 131)) rfl rfl hl.1 rfl (Nat.le_of_ble_eq_true rfl) rfl hd d_Mo_lockStep_34 (fun r_41 s_42 H locs h hP hD hS => ?_)
    refine W.eq (g2 := F0 m 37 ls [.int r_41]) rfl ?_
    refine lv_if_le (tgt := 56) G.1 G.2.1 d_Mo_lockStep_37 (by decide) (fun c37 => ?_) (fun c37 => ?_)
    · skip
      have h := h.1 c37
      exact J_56 y s_42 0 0 v1 v2 x_5 H locs h hP hD hS ls (lv_sub hl [1, 2, 3, 0] rfl)
    · skip
      have h := h.2 c37
      refine lv_aload_n G.1 G.2.1 d_Mo_lockStep_40 rfl (lv_at hl 1 rfl) ?_
      refine lv_iload_n G.1 G.2.1 d_Mo_lockStep_41 rfl (lv_at hl 0 rfl) ?_
      refine ucVi (As := [.int x_5]) (rest := []) G hP hD hS (cu_Mo_ownerOf l D g ad y _ s_42 a0 x_5 H.size h_a0 h) w9_Mo_ownerOf q3843 ⟨Nat.le_of_ble_eq_true rfl, Nat.le_of_ble_eq_true rfl⟩ rfl rfl h_a0 (q := (RMo, TMo, 131)) rfl rfl hl.1 rfl (Nat.le_of_ble_eq_true rfl) rfl hd d_Mo_lockStep_42 (fun r_43 s_44 H locs h hP hD hS => ?_)
      refine lv_aload_n G.1 G.2.1 d_Mo_lockStep_45 rfl (lv_at hl 1 rfl) ?_
      refine ugf (v := .int (sV s_44 a0 47)) G hP h_a0 iMo rfl 47 (by decide) rfl q3111 rfl rfl d_Mo_lockStep_46 ?_
      refine lv_icmp_eq (tgt := 56) G.1 G.2.1 d_Mo_lockStep_49 (by decide) (fun c49 => ?_) (fun c49 => ?_)
      · skip
        have h := h.1 c49
        exact J_56 y s_44 0 0 v1 v2 x_5 H locs h hP hD hS ls (lv_sub hl [1, 2, 3, 0] rfl)
      · skip
        have h := h.2 c49
        refine lv_iconst (v := 1) G.1 G.2.1 d_Mo_lockStep_52 (by decide) ?_
        refine lv_goto (tgt := 57) G.1 G.2.1 d_Mo_lockStep_53 (by decide) ?_
        exact J_57 y s_44 0 0 v1 v2 x_5 1 H locs h hP hD hS ls (lv_sub hl [1, 2, 3, 0] rfl)
def y_Mo_reckon : MethodName := ⟨"ClassWorksModel", "reckon", "(II)V"⟩
abbrev b_Mo_reckon : ByteArray := prog_14_method_110_code
theorem d_Mo_reckon_0 : decode b_Mo_reckon 0 = .ok (.aload_n 0, 1) := by decide +kernel
theorem d_Mo_reckon_1 : decode b_Mo_reckon 1 = .ok (.iload_n 1, 1) := by decide +kernel
theorem d_Mo_reckon_2 : decode b_Mo_reckon 2 = .ok (.invokevirtual 1057, 3) := by decide +kernel
theorem d_Mo_reckon_5 : decode b_Mo_reckon 5 = .ok (.istore_n 3, 1) := by decide +kernel
theorem d_Mo_reckon_6 : decode b_Mo_reckon 6 = .ok (.iload_n 2, 1) := by decide +kernel
theorem d_Mo_reckon_7 : decode b_Mo_reckon 7 = .ok (.bipush 13, 2) := by decide +kernel
theorem d_Mo_reckon_9 : decode b_Mo_reckon 9 = .ok (.if_icmp .ne 25, 3) := by decide +kernel
theorem d_Mo_reckon_12 : decode b_Mo_reckon 12 = .ok (.aload_n 0, 1) := by decide +kernel
theorem d_Mo_reckon_13 : decode b_Mo_reckon 13 = .ok (.iload_n 1, 1) := by decide +kernel
theorem d_Mo_reckon_14 : decode b_Mo_reckon 14 = .ok (.iload_n 3, 1) := by decide +kernel
theorem d_Mo_reckon_15 : decode b_Mo_reckon 15 = .ok (.ineg, 1) := by decide +kernel
theorem d_Mo_reckon_16 : decode b_Mo_reckon 16 = .ok (.iconst 0, 1) := by decide +kernel
theorem d_Mo_reckon_17 : decode b_Mo_reckon 17 = .ok (.invokevirtual 970, 3) := by decide +kernel
theorem d_Mo_reckon_20 : decode b_Mo_reckon 20 = .ok (.aload_n 0, 1) := by decide +kernel
theorem d_Mo_reckon_21 : decode b_Mo_reckon 21 = .ok (.getfield 917, 3) := by decide +kernel
theorem d_Mo_reckon_24 : decode b_Mo_reckon 24 = .ok (.getfield 930, 3) := by decide +kernel
theorem d_Mo_reckon_27 : decode b_Mo_reckon 27 = .ok (.iload_n 1, 1) := by decide +kernel
theorem d_Mo_reckon_28 : decode b_Mo_reckon 28 = .ok (.dup2, 1) := by decide +kernel
theorem d_Mo_reckon_29 : decode b_Mo_reckon 29 = .ok (.iaload, 1) := by decide +kernel
theorem d_Mo_reckon_30 : decode b_Mo_reckon 30 = .ok (.iconst 1, 1) := by decide +kernel
theorem d_Mo_reckon_31 : decode b_Mo_reckon 31 = .ok (.iadd, 1) := by decide +kernel
theorem d_Mo_reckon_32 : decode b_Mo_reckon 32 = .ok (.iastore, 1) := by decide +kernel
theorem d_Mo_reckon_33 : decode b_Mo_reckon 33 = .ok (.return_, 1) := by decide +kernel
theorem d_Mo_reckon_34 : decode b_Mo_reckon 34 = .ok (.aload_n 0, 1) := by decide +kernel
theorem d_Mo_reckon_35 : decode b_Mo_reckon 35 = .ok (.iload_n 1, 1) := by decide +kernel
theorem d_Mo_reckon_36 : decode b_Mo_reckon 36 = .ok (.invokevirtual 1057, 3) := by decide +kernel
theorem d_Mo_reckon_39 : decode b_Mo_reckon 39 = .ok (.istore 4, 2) := by decide +kernel
theorem d_Mo_reckon_41 : decode b_Mo_reckon 41 = .ok (.iload_n 2, 1) := by decide +kernel
theorem d_Mo_reckon_42 : decode b_Mo_reckon 42 = .ok (.bipush 11, 2) := by decide +kernel
theorem d_Mo_reckon_44 : decode b_Mo_reckon 44 = .ok (.if_icmp .eq 9, 3) := by decide +kernel
theorem d_Mo_reckon_47 : decode b_Mo_reckon 47 = .ok (.iload_n 2, 1) := by decide +kernel
theorem d_Mo_reckon_48 : decode b_Mo_reckon 48 = .ok (.bipush 12, 2) := by decide +kernel
theorem d_Mo_reckon_50 : decode b_Mo_reckon 50 = .ok (.if_icmp .ne 14, 3) := by decide +kernel
theorem d_Mo_reckon_53 : decode b_Mo_reckon 53 = .ok (.iload_n 3, 1) := by decide +kernel
theorem d_Mo_reckon_54 : decode b_Mo_reckon 54 = .ok (.ifCond .ne 10, 3) := by decide +kernel
theorem d_Mo_reckon_57 : decode b_Mo_reckon 57 = .ok (.aload_n 0, 1) := by decide +kernel
theorem d_Mo_reckon_58 : decode b_Mo_reckon 58 = .ok (.iconst 0, 1) := by decide +kernel
theorem d_Mo_reckon_59 : decode b_Mo_reckon 59 = .ok (.iconst 3, 1) := by decide +kernel
theorem d_Mo_reckon_60 : decode b_Mo_reckon 60 = .ok (.invokevirtual 1001, 3) := by decide +kernel
theorem d_Mo_reckon_63 : decode b_Mo_reckon 63 = .ok (.return_, 1) := by decide +kernel
theorem d_Mo_reckon_64 : decode b_Mo_reckon 64 = .ok (.iload_n 2, 1) := by decide +kernel
theorem d_Mo_reckon_65 : decode b_Mo_reckon 65 = .ok (.tableswitch 139 8 17 #[55, 64, 73, 82, 91, 139, 100, 109, 118, 127], 55) := by decide +kernel
theorem d_Mo_reckon_120 : decode b_Mo_reckon 120 = .ok (.iload 4, 2) := by decide +kernel
theorem d_Mo_reckon_122 : decode b_Mo_reckon 122 = .ok (.iload_n 3, 1) := by decide +kernel
theorem d_Mo_reckon_123 : decode b_Mo_reckon 123 = .ok (.iadd, 1) := by decide +kernel
theorem d_Mo_reckon_124 : decode b_Mo_reckon 124 = .ok (.istore 5, 2) := by decide +kernel
theorem d_Mo_reckon_126 : decode b_Mo_reckon 126 = .ok (.goto 87, 3) := by decide +kernel
theorem d_Mo_reckon_129 : decode b_Mo_reckon 129 = .ok (.iload 4, 2) := by decide +kernel
theorem d_Mo_reckon_131 : decode b_Mo_reckon 131 = .ok (.iload_n 3, 1) := by decide +kernel
theorem d_Mo_reckon_132 : decode b_Mo_reckon 132 = .ok (.isub, 1) := by decide +kernel
theorem d_Mo_reckon_133 : decode b_Mo_reckon 133 = .ok (.istore 5, 2) := by decide +kernel
theorem d_Mo_reckon_135 : decode b_Mo_reckon 135 = .ok (.goto 78, 3) := by decide +kernel
theorem d_Mo_reckon_138 : decode b_Mo_reckon 138 = .ok (.iload 4, 2) := by decide +kernel
theorem d_Mo_reckon_140 : decode b_Mo_reckon 140 = .ok (.iload_n 3, 1) := by decide +kernel
theorem d_Mo_reckon_141 : decode b_Mo_reckon 141 = .ok (.imul, 1) := by decide +kernel
theorem d_Mo_reckon_142 : decode b_Mo_reckon 142 = .ok (.istore 5, 2) := by decide +kernel
theorem d_Mo_reckon_144 : decode b_Mo_reckon 144 = .ok (.goto 69, 3) := by decide +kernel
theorem d_Mo_reckon_147 : decode b_Mo_reckon 147 = .ok (.iload 4, 2) := by decide +kernel
theorem d_Mo_reckon_149 : decode b_Mo_reckon 149 = .ok (.iload_n 3, 1) := by decide +kernel
theorem d_Mo_reckon_150 : decode b_Mo_reckon 150 = .ok (.idiv, 1) := by decide +kernel
theorem d_Mo_reckon_151 : decode b_Mo_reckon 151 = .ok (.istore 5, 2) := by decide +kernel
theorem d_Mo_reckon_153 : decode b_Mo_reckon 153 = .ok (.goto 60, 3) := by decide +kernel
theorem d_Mo_reckon_156 : decode b_Mo_reckon 156 = .ok (.iload 4, 2) := by decide +kernel
theorem d_Mo_reckon_158 : decode b_Mo_reckon 158 = .ok (.iload_n 3, 1) := by decide +kernel
theorem d_Mo_reckon_159 : decode b_Mo_reckon 159 = .ok (.irem, 1) := by decide +kernel
theorem d_Mo_reckon_160 : decode b_Mo_reckon 160 = .ok (.istore 5, 2) := by decide +kernel
theorem d_Mo_reckon_162 : decode b_Mo_reckon 162 = .ok (.goto 51, 3) := by decide +kernel
theorem d_Mo_reckon_165 : decode b_Mo_reckon 165 = .ok (.iload 4, 2) := by decide +kernel
theorem d_Mo_reckon_167 : decode b_Mo_reckon 167 = .ok (.iload_n 3, 1) := by decide +kernel
theorem d_Mo_reckon_168 : decode b_Mo_reckon 168 = .ok (.iand, 1) := by decide +kernel
theorem d_Mo_reckon_169 : decode b_Mo_reckon 169 = .ok (.istore 5, 2) := by decide +kernel
theorem d_Mo_reckon_171 : decode b_Mo_reckon 171 = .ok (.goto 42, 3) := by decide +kernel
theorem d_Mo_reckon_174 : decode b_Mo_reckon 174 = .ok (.iload 4, 2) := by decide +kernel
theorem d_Mo_reckon_176 : decode b_Mo_reckon 176 = .ok (.iload_n 3, 1) := by decide +kernel
theorem d_Mo_reckon_177 : decode b_Mo_reckon 177 = .ok (.ior, 1) := by decide +kernel
theorem d_Mo_reckon_178 : decode b_Mo_reckon 178 = .ok (.istore 5, 2) := by decide +kernel
theorem d_Mo_reckon_180 : decode b_Mo_reckon 180 = .ok (.goto 33, 3) := by decide +kernel
theorem d_Mo_reckon_183 : decode b_Mo_reckon 183 = .ok (.iload 4, 2) := by decide +kernel
theorem d_Mo_reckon_185 : decode b_Mo_reckon 185 = .ok (.iload_n 3, 1) := by decide +kernel
theorem d_Mo_reckon_186 : decode b_Mo_reckon 186 = .ok (.ixor, 1) := by decide +kernel
theorem d_Mo_reckon_187 : decode b_Mo_reckon 187 = .ok (.istore 5, 2) := by decide +kernel
theorem d_Mo_reckon_189 : decode b_Mo_reckon 189 = .ok (.goto 24, 3) := by decide +kernel
theorem d_Mo_reckon_192 : decode b_Mo_reckon 192 = .ok (.iload 4, 2) := by decide +kernel
theorem d_Mo_reckon_194 : decode b_Mo_reckon 194 = .ok (.iload_n 3, 1) := by decide +kernel
theorem d_Mo_reckon_195 : decode b_Mo_reckon 195 = .ok (.bipush 31, 2) := by decide +kernel
theorem d_Mo_reckon_197 : decode b_Mo_reckon 197 = .ok (.iand, 1) := by decide +kernel
theorem d_Mo_reckon_198 : decode b_Mo_reckon 198 = .ok (.ishl, 1) := by decide +kernel
theorem d_Mo_reckon_199 : decode b_Mo_reckon 199 = .ok (.istore 5, 2) := by decide +kernel
theorem d_Mo_reckon_201 : decode b_Mo_reckon 201 = .ok (.goto 12, 3) := by decide +kernel
theorem d_Mo_reckon_204 : decode b_Mo_reckon 204 = .ok (.iload 4, 2) := by decide +kernel
theorem d_Mo_reckon_206 : decode b_Mo_reckon 206 = .ok (.iload_n 3, 1) := by decide +kernel
theorem d_Mo_reckon_207 : decode b_Mo_reckon 207 = .ok (.bipush 31, 2) := by decide +kernel
theorem d_Mo_reckon_209 : decode b_Mo_reckon 209 = .ok (.iand, 1) := by decide +kernel
theorem d_Mo_reckon_210 : decode b_Mo_reckon 210 = .ok (.ishr, 1) := by decide +kernel
theorem d_Mo_reckon_211 : decode b_Mo_reckon 211 = .ok (.istore 5, 2) := by decide +kernel
theorem d_Mo_reckon_213 : decode b_Mo_reckon 213 = .ok (.aload_n 0, 1) := by decide +kernel
theorem d_Mo_reckon_214 : decode b_Mo_reckon 214 = .ok (.iload_n 1, 1) := by decide +kernel
theorem d_Mo_reckon_215 : decode b_Mo_reckon 215 = .ok (.iload 5, 2) := by decide +kernel
theorem d_Mo_reckon_217 : decode b_Mo_reckon 217 = .ok (.iconst 0, 1) := by decide +kernel
theorem d_Mo_reckon_218 : decode b_Mo_reckon 218 = .ok (.invokevirtual 970, 3) := by decide +kernel
theorem d_Mo_reckon_221 : decode b_Mo_reckon 221 = .ok (.aload_n 0, 1) := by decide +kernel
theorem d_Mo_reckon_222 : decode b_Mo_reckon 222 = .ok (.getfield 917, 3) := by decide +kernel
theorem d_Mo_reckon_225 : decode b_Mo_reckon 225 = .ok (.getfield 930, 3) := by decide +kernel
theorem d_Mo_reckon_228 : decode b_Mo_reckon 228 = .ok (.iload_n 1, 1) := by decide +kernel
theorem d_Mo_reckon_229 : decode b_Mo_reckon 229 = .ok (.dup2, 1) := by decide +kernel
theorem d_Mo_reckon_230 : decode b_Mo_reckon 230 = .ok (.iaload, 1) := by decide +kernel
theorem d_Mo_reckon_231 : decode b_Mo_reckon 231 = .ok (.iconst 1, 1) := by decide +kernel
theorem d_Mo_reckon_232 : decode b_Mo_reckon 232 = .ok (.iadd, 1) := by decide +kernel
theorem d_Mo_reckon_233 : decode b_Mo_reckon 233 = .ok (.iastore, 1) := by decide +kernel
theorem d_Mo_reckon_234 : decode b_Mo_reckon 234 = .ok (.return_, 1) := by decide +kernel
abbrev ra_Mo_reckon (mc ms : Nat) : Room := { frames := 8, cells := mc, slots := ms, locals := 220 }
def wja_Mo_reckon_213 (mc ms : Nat) (Post : Ly → St → Nat → Nat → Prop) (a0 : Nat) (y_j213 : Ly) (s_j213 : St) (d_j213 e_j213 : Nat) (x1j213 : Int32) (x5j213 : Int32) : Prop := (d_j213 ≤ mc ∧ e_j213 ≤ ms) ∧ wu_Mo_push y_j213 (fun (s_6 : St) => ∃ b_7 : Nat, sO s_6 a0 46 = some b_7 ∧ cl b_7 = 12 ∧ xA y_j213 s_6 b_7 18 x1j213 (fun x_10 : Int32 => xS y_j213 s_6 b_7 18 x1j213 (x_10 + 1) (fun s_11 : St => Post y_j213 s_11 d_j213 e_j213))) s_j213 a0 x1j213 x5j213 0
def wja_Mo_reckon_64 (mc ms : Nat) (Post : Ly → St → Nat → Nat → Prop) (a0 : Nat) (y_j64 : Ly) (s_j64 : St) (d_j64 e_j64 : Nat) (x1j64 : Int32) (x2j64 : Int32) (x3j64 : Int32) (x4j64 : Int32) : Prop := (d_j64 ≤ mc ∧ e_j64 ≤ ms) ∧ ((x2j64 = 8 → wja_Mo_reckon_213 mc ms Post a0 y_j64 s_j64 d_j64 e_j64 x1j64 (x4j64 + x3j64)) ∧ (¬ (x2j64 = 8) → ((x2j64 = 9 → wja_Mo_reckon_213 mc ms Post a0 y_j64 s_j64 d_j64 e_j64 x1j64 (x4j64 - x3j64)) ∧ (¬ (x2j64 = 9) → ((x2j64 = 10 → wja_Mo_reckon_213 mc ms Post a0 y_j64 s_j64 d_j64 e_j64 x1j64 (x4j64 * x3j64)) ∧ (¬ (x2j64 = 10) → ((x2j64 = 11 → ¬ x3j64 = 0 ∧ wja_Mo_reckon_213 mc ms Post a0 y_j64 s_j64 d_j64 e_j64 x1j64 (x4j64 / x3j64)) ∧ (¬ (x2j64 = 11) → ((x2j64 = 12 → ¬ x3j64 = 0 ∧ wja_Mo_reckon_213 mc ms Post a0 y_j64 s_j64 d_j64 e_j64 x1j64 (x4j64 - x4j64 / x3j64 * x3j64)) ∧ (¬ (x2j64 = 12) → ((x2j64 = 13 → wja_Mo_reckon_213 mc ms Post a0 y_j64 s_j64 d_j64 e_j64 x1j64 (x4j64 >>> ((x3j64 &&& 31) &&& 31))) ∧ (¬ (x2j64 = 13) → ((x2j64 = 14 → wja_Mo_reckon_213 mc ms Post a0 y_j64 s_j64 d_j64 e_j64 x1j64 (x4j64 &&& x3j64)) ∧ (¬ (x2j64 = 14) → ((x2j64 = 15 → wja_Mo_reckon_213 mc ms Post a0 y_j64 s_j64 d_j64 e_j64 x1j64 (x4j64 ||| x3j64)) ∧ (¬ (x2j64 = 15) → ((x2j64 = 16 → wja_Mo_reckon_213 mc ms Post a0 y_j64 s_j64 d_j64 e_j64 x1j64 (x4j64 ^^^ x3j64)) ∧ (¬ (x2j64 = 16) → ((x2j64 = 17 → wja_Mo_reckon_213 mc ms Post a0 y_j64 s_j64 d_j64 e_j64 x1j64 (x4j64 <<< ((x3j64 &&& 31) &&& 31))) ∧ (¬ (x2j64 = 17) → wja_Mo_reckon_213 mc ms Post a0 y_j64 s_j64 d_j64 e_j64 x1j64 (x4j64 >>> ((x3j64 &&& 31) &&& 31))))))))))))))))))))))
def wja_Mo_reckon_53 (mc ms : Nat) (Post : Ly → St → Nat → Nat → Prop) (a0 : Nat) (y_j53 : Ly) (s_j53 : St) (d_j53 e_j53 : Nat) (x1j53 : Int32) (x2j53 : Int32) (x3j53 : Int32) (x4j53 : Int32) : Prop := (d_j53 ≤ mc ∧ e_j53 ≤ ms) ∧ ((¬ x3j53 = 0 → wja_Mo_reckon_64 mc ms Post a0 y_j53 s_j53 d_j53 e_j53 x1j53 x2j53 x3j53 x4j53) ∧ (x3j53 = 0 → ∃ mc_19 ms_20 : Nat, (d_j53 + mc_19 ≤ mc ∧ e_j53 + ms_20 ≤ ms) ∧ wa_Mo_throwNew mc_19 ms_20 y_j53 (fun (y_16 : Ly) (s_15 : St) (d_17 e_18 : Nat) => (d_j53 + d_17 ≤ mc ∧ e_j53 + e_18 ≤ ms) ∧ Post y_16 s_15 (d_j53 + d_17) (e_j53 + e_18)) s_j53 a0 0 3))
def wa_Mo_reckon (mc ms : Nat) (y : Ly) (Post : Ly → St → Nat → Nat → Prop) (σ : St) (a0 : Nat) (v1 : Int32) (v2 : Int32) : Prop := wu_Mo_pop y (fun (s_2 : St) (r_1 : Int32) => ((¬ v2 = 13 → wu_Mo_pop y (fun (s_4 : St) (r_3 : Int32) => ((v2 = 11 → wja_Mo_reckon_53 mc ms Post a0 y s_4 0 0 v1 v2 r_1 r_3) ∧ (¬ (v2 = 11) → ((¬ v2 = 12 → wja_Mo_reckon_64 mc ms Post a0 y s_4 0 0 v1 v2 r_1 r_3) ∧ (v2 = 12 → wja_Mo_reckon_53 mc ms Post a0 y s_4 0 0 v1 v2 r_1 r_3))))) s_2 a0 v1) ∧ (v2 = 13 → wu_Mo_push y (fun (s_23 : St) => ∃ b_24 : Nat, sO s_23 a0 46 = some b_24 ∧ cl b_24 = 12 ∧ xA y s_23 b_24 18 v1 (fun x_27 : Int32 => xS y s_23 b_24 18 v1 (x_27 + 1) (fun s_28 : St => Post y s_28 0 0))) s_2 a0 v1 (-r_1) 0))) σ a0 v1
set_option maxHeartbeats 4000000 in
set_option maxRecDepth 100000 in
theorem ca_Mo_reckon (l : Launch) (D : va_G) (g : Nat → ClassId) (ad : Nat → Nat) (mc ms : Nat) (y : Ly) (Post : Ly → St → Nat → Nat → Prop) (σ : St) (a0 : Nat) (v1 : Int32) (v2 : Int32) (sz uz : Nat) (h_a0 : cl a0 = 14) (h : wa_Mo_reckon mc ms y Post σ a0 v1 v2) : Met l y_Mo_reckon (mw y_Mo_reckon b_Mo_reckon 6 (none)) (ra_Mo_reckon mc ms) (PCu g D [] [.ref (ad a0), .int v1, .int v2] sz uz (ws g ad y σ)) (va_Qv (fun (u : Ly × St × Nat × Nat) => Post u.1 u.2.1 u.2.2.1 u.2.2.2) (QU D (va_A (ws g ad y σ) sz) (fun u => ws g ad u.1 u.2.1) sz uz (fun u => u.2.2.1) (fun u => u.2.2.2)) (va_A (ws g ad y σ) sz)) mc ms (va_A (ws g ad y σ) sz) := by
  refine ofVu (by decide +kernel) (Nat.le_of_ble_eq_true rfl) ?_
  intro p e s m args below meth c A Q ls H locs G hsz hP hD hS hl hret
  subst hsz
  have hl : lv_has ls 6 [(0, .ref (ad a0)), (1, .int v1), (2, .int v2)] := hl
  have hd : 0 ≤ mc ∧ 0 ≤ ms := ⟨Nat.zero_le _, Nat.zero_le _⟩
  unfold wa_Mo_reckon at h
  refine lv_aload_n G.1 G.2.1 d_Mo_reckon_0 rfl (lv_at hl 0 rfl) ?_
  refine lv_iload_n G.1 G.2.1 d_Mo_reckon_1 rfl (lv_at hl 1 rfl) ?_
  refine ucVi (As := [.int v1]) (rest := []) G hP hD hS (cu_Mo_pop l D g ad y _ σ a0 v1 H.size h_a0 h) w9_Mo_pop q3947 ⟨Nat.le_of_ble_eq_true rfl, Nat.le_of_ble_eq_true rfl⟩ rfl rfl h_a0 (q := (RMo, TMo, 131)) rfl rfl hl.1 rfl (Nat.le_of_ble_eq_true rfl) rfl hd d_Mo_reckon_2 (fun r_1 s_2 H locs h hP hD hS => ?_)
  refine lv_istore_n (lv' := [(3, .int r_1), (0, .ref (ad a0)), (1, .int v1), (2, .int v2)]) G.1 G.2.1 d_Mo_reckon_5 rfl hl (by decide) rfl (fun ls hl => ?_)
  refine lv_iload_n G.1 G.2.1 d_Mo_reckon_6 rfl (lv_at hl 3 rfl) ?_
  refine lv_bipush (v := 13) G.1 G.2.1 d_Mo_reckon_7 (by decide) ?_
  refine lv_icmp_ne (tgt := 34) G.1 G.2.1 d_Mo_reckon_9 (by decide) (fun c9 => ?_) (fun c9 => ?_)
  · skip
    have h := h.1 c9
    refine lv_aload_n G.1 G.2.1 d_Mo_reckon_34 rfl (lv_at hl 1 rfl) ?_
    refine lv_iload_n G.1 G.2.1 d_Mo_reckon_35 rfl (lv_at hl 2 rfl) ?_
    refine ucVi (As := [.int v1]) (rest := []) G hP hD hS (cu_Mo_pop l D g ad y _ s_2 a0 v1 H.size h_a0 h) w9_Mo_pop q3947 ⟨Nat.le_of_ble_eq_true rfl, Nat.le_of_ble_eq_true rfl⟩ rfl rfl h_a0 (q := (RMo, TMo, 131)) rfl rfl hl.1 rfl (Nat.le_of_ble_eq_true rfl) rfl hd d_Mo_reckon_36 (fun r_3 s_4 H locs h hP hD hS => ?_)
    refine lv_istore (lv' := [(4, .int r_3), (3, .int r_1), (0, .ref (ad a0)), (1, .int v1), (2, .int v2)]) G.1 G.2.1 d_Mo_reckon_39 hl (by decide) rfl (fun ls hl => ?_)
    refine W.eq (g2 := F0 m 41 ls []) rfl ?_
    refine lv_iload_n G.1 G.2.1 d_Mo_reckon_41 rfl (lv_at hl 4 rfl) ?_
    refine lv_bipush (v := 11) G.1 G.2.1 d_Mo_reckon_42 (by decide) ?_
    have J_64 : ∀ (y_j64 : Ly) (s_j64 : St) (d_j64 e_j64 : Nat) (x1j64 : Int32) (x2j64 : Int32) (x3j64 : Int32) (x4j64 : Int32) (H : Heap) (locs : List Loc), wja_Mo_reckon_64 mc ms Post a0 y_j64 s_j64 d_j64 e_j64 x1j64 x2j64 x3j64 x4j64 → va_P D CL (ws g ad y_j64 s_j64) H → va_D A (ws g ad y_j64 s_j64) → va_S A s.heap H locs → ∀ ls, lv_has ls 6 [(0, .ref (ad a0)), (1, .int x1j64), (2, .int x2j64), (3, .int x3j64), (4, .int x4j64)] → W p l e (ra_Mo_reckon mc ms) s m args below meth c H locs d_j64 e_j64 Q (F0 m 64 ls []) := by
      intro y_j64 s_j64 d_j64 e_j64 x1j64 x2j64 x3j64 x4j64 H locs h hP hD hS ls hl
      unfold wja_Mo_reckon_64 at h
      obtain ⟨hd, h⟩ := h
      refine lv_iload_n G.1 G.2.1 d_Mo_reckon_64 rfl (lv_at hl 2 rfl) ?_
      have J_213 : ∀ (y_j213 : Ly) (s_j213 : St) (d_j213 e_j213 : Nat) (x1j213 : Int32) (x5j213 : Int32) (H : Heap) (locs : List Loc), wja_Mo_reckon_213 mc ms Post a0 y_j213 s_j213 d_j213 e_j213 x1j213 x5j213 → va_P D CL (ws g ad y_j213 s_j213) H → va_D A (ws g ad y_j213 s_j213) → va_S A s.heap H locs → ∀ ls, lv_has ls 6 [(0, .ref (ad a0)), (1, .int x1j213), (5, .int x5j213)] → W p l e (ra_Mo_reckon mc ms) s m args below meth c H locs d_j213 e_j213 Q (F0 m 213 ls []) := by
        intro y_j213 s_j213 d_j213 e_j213 x1j213 x5j213 H locs h hP hD hS ls hl
        unfold wja_Mo_reckon_213 at h
        obtain ⟨hd, h⟩ := h
        refine lv_aload_n G.1 G.2.1 d_Mo_reckon_213 rfl (lv_at hl 0 rfl) ?_
        refine lv_iload_n G.1 G.2.1 d_Mo_reckon_214 rfl (lv_at hl 1 rfl) ?_
        refine lv_iload G.1 G.2.1 d_Mo_reckon_215 (lv_at hl 2 rfl) ?_
        refine lv_iconst (v := 0) G.1 G.2.1 d_Mo_reckon_217 (by decide) ?_
        refine ucVv (As := [.int x1j213, .int x5j213, .int 0]) (rest := []) G hP hD hS (cu_Mo_push l D g ad y_j213 _ s_j213 a0 x1j213 x5j213 0 H.size h_a0 h) w9_Mo_push q3907 ⟨Nat.le_of_ble_eq_true rfl, Nat.le_of_ble_eq_true rfl⟩ rfl rfl h_a0 (q := (RMo, TMo, 131)) rfl rfl hl.1 rfl (Nat.le_of_ble_eq_true rfl) rfl hd d_Mo_reckon_218 (fun s_6 H locs h hP hD hS => ?_)
        refine lv_aload_n G.1 G.2.1 d_Mo_reckon_221 rfl (lv_at hl 0 rfl) ?_
        obtain ⟨b_7, e_8, c_9, h⟩ := h
        refine ugf (v := .ref (ad b_7)) G hP h_a0 iMo rfl 46 (by decide) rfl q3110 rfl (by show va_rf ((sO s_6 a0 46).map ad) = _; rw [e_8]; rfl) d_Mo_reckon_222 ?_
        refine ugfN (v := .ref (yP y_j213 b_7 18)) G hP c_9 iMr rfl 18 (by decide) rfl q3009 rfl rfl d_Mo_reckon_225 ?_
        refine lv_iload_n G.1 G.2.1 d_Mo_reckon_228 rfl (lv_at hl 1 rfl) ?_
        refine lv_dup2_11 G.1 G.2.1 d_Mo_reckon_229 rfl rfl ?_
        refine uiald G hP (kdp c_9 rfl) (typ c_9 rfl) h d_Mo_reckon_230 (fun x_10 h => ?_)
        refine W.eq (g2 := F0 m 231 ls [.int x_10, .int x1j213, .ref (yP y_j213 b_7 18)]) rfl ?_
        refine lv_iconst (v := 1) G.1 G.2.1 d_Mo_reckon_231 (by decide) ?_
        refine lv_iadd G.1 G.2.1 d_Mo_reckon_232 ?_
        refine uiast G hP hD hS (kdp c_9 rfl) (typ c_9 rfl) h d_Mo_reckon_233 (fun s_11 H locs h hP hD hS => ?_)
        exact hret (y_j213, s_11, d_j213, e_j213) _ _ _ _ _ ls h hP hD hS (Nat.le_refl _) (Nat.le_refl _) hd.1 hd.2 d_Mo_reckon_234
      by_cases e65_8 : x2j64 = 8
      · skip
        have h := h.1 e65_8
        refine lv_tableIn (off := 55) (tgt := 120) G.1 G.2.1 d_Mo_reckon_65 (by rw [e65_8]; decide) (by rw [e65_8]; decide) (by rw [e65_8]; rfl) (by decide) ?_
        refine lv_iload G.1 G.2.1 d_Mo_reckon_120 (lv_at hl 4 rfl) ?_
        refine lv_iload_n G.1 G.2.1 d_Mo_reckon_122 rfl (lv_at hl 3 rfl) ?_
        refine lv_iadd G.1 G.2.1 d_Mo_reckon_123 ?_
        refine lv_istore (lv' := [(5, .int (x4j64 + x3j64)), (0, .ref (ad a0)), (1, .int x1j64), (2, .int x2j64), (3, .int x3j64), (4, .int x4j64)]) G.1 G.2.1 d_Mo_reckon_124 hl (by decide) rfl (fun ls hl => ?_)
        refine lv_goto (tgt := 213) G.1 G.2.1 d_Mo_reckon_126 (by decide) ?_
        exact J_213 y_j64 s_j64 d_j64 e_j64 x1j64 (x4j64 + x3j64) H locs h hP hD hS ls (lv_sub hl [1, 2, 0] rfl)
      replace h := h.2 e65_8
      by_cases e65_9 : x2j64 = 9
      · skip
        have h := h.1 e65_9
        refine lv_tableIn (off := 64) (tgt := 129) G.1 G.2.1 d_Mo_reckon_65 (by rw [e65_9]; decide) (by rw [e65_9]; decide) (by rw [e65_9]; rfl) (by decide) ?_
        refine lv_iload G.1 G.2.1 d_Mo_reckon_129 (lv_at hl 4 rfl) ?_
        refine lv_iload_n G.1 G.2.1 d_Mo_reckon_131 rfl (lv_at hl 3 rfl) ?_
        refine lv_isub G.1 G.2.1 d_Mo_reckon_132 ?_
        refine lv_istore (lv' := [(5, .int (x4j64 - x3j64)), (0, .ref (ad a0)), (1, .int x1j64), (2, .int x2j64), (3, .int x3j64), (4, .int x4j64)]) G.1 G.2.1 d_Mo_reckon_133 hl (by decide) rfl (fun ls hl => ?_)
        refine lv_goto (tgt := 213) G.1 G.2.1 d_Mo_reckon_135 (by decide) ?_
        exact J_213 y_j64 s_j64 d_j64 e_j64 x1j64 (x4j64 - x3j64) H locs h hP hD hS ls (lv_sub hl [1, 2, 0] rfl)
      replace h := h.2 e65_9
      by_cases e65_10 : x2j64 = 10
      · skip
        have h := h.1 e65_10
        refine lv_tableIn (off := 73) (tgt := 138) G.1 G.2.1 d_Mo_reckon_65 (by rw [e65_10]; decide) (by rw [e65_10]; decide) (by rw [e65_10]; rfl) (by decide) ?_
        refine lv_iload G.1 G.2.1 d_Mo_reckon_138 (lv_at hl 4 rfl) ?_
        refine lv_iload_n G.1 G.2.1 d_Mo_reckon_140 rfl (lv_at hl 3 rfl) ?_
        refine lv_imul G.1 G.2.1 d_Mo_reckon_141 ?_
        refine lv_istore (lv' := [(5, .int (x4j64 * x3j64)), (0, .ref (ad a0)), (1, .int x1j64), (2, .int x2j64), (3, .int x3j64), (4, .int x4j64)]) G.1 G.2.1 d_Mo_reckon_142 hl (by decide) rfl (fun ls hl => ?_)
        refine lv_goto (tgt := 213) G.1 G.2.1 d_Mo_reckon_144 (by decide) ?_
        exact J_213 y_j64 s_j64 d_j64 e_j64 x1j64 (x4j64 * x3j64) H locs h hP hD hS ls (lv_sub hl [1, 2, 0] rfl)
      replace h := h.2 e65_10
      by_cases e65_11 : x2j64 = 11
      · skip
        have h := h.1 e65_11
        refine lv_tableIn (off := 82) (tgt := 147) G.1 G.2.1 d_Mo_reckon_65 (by rw [e65_11]; decide) (by rw [e65_11]; decide) (by rw [e65_11]; rfl) (by decide) ?_
        refine lv_iload G.1 G.2.1 d_Mo_reckon_147 (lv_at hl 4 rfl) ?_
        refine lv_iload_n G.1 G.2.1 d_Mo_reckon_149 rfl (lv_at hl 3 rfl) ?_
        obtain ⟨n_12, h⟩ := h
        refine lv_idiv G.1 G.2.1 d_Mo_reckon_150 n_12 ?_
        refine lv_istore (lv' := [(5, .int (x4j64 / x3j64)), (0, .ref (ad a0)), (1, .int x1j64), (2, .int x2j64), (3, .int x3j64), (4, .int x4j64)]) G.1 G.2.1 d_Mo_reckon_151 hl (by decide) rfl (fun ls hl => ?_)
        refine lv_goto (tgt := 213) G.1 G.2.1 d_Mo_reckon_153 (by decide) ?_
        exact J_213 y_j64 s_j64 d_j64 e_j64 x1j64 (x4j64 / x3j64) H locs h hP hD hS ls (lv_sub hl [1, 2, 0] rfl)
      replace h := h.2 e65_11
      by_cases e65_12 : x2j64 = 12
      · skip
        have h := h.1 e65_12
        refine lv_tableIn (off := 91) (tgt := 156) G.1 G.2.1 d_Mo_reckon_65 (by rw [e65_12]; decide) (by rw [e65_12]; decide) (by rw [e65_12]; rfl) (by decide) ?_
        refine lv_iload G.1 G.2.1 d_Mo_reckon_156 (lv_at hl 4 rfl) ?_
        refine lv_iload_n G.1 G.2.1 d_Mo_reckon_158 rfl (lv_at hl 3 rfl) ?_
        obtain ⟨n_13, h⟩ := h
        refine lv_irem G.1 G.2.1 d_Mo_reckon_159 n_13 ?_
        refine lv_istore (lv' := [(5, .int (x4j64 - x4j64 / x3j64 * x3j64)), (0, .ref (ad a0)), (1, .int x1j64), (2, .int x2j64), (3, .int x3j64), (4, .int x4j64)]) G.1 G.2.1 d_Mo_reckon_160 hl (by decide) rfl (fun ls hl => ?_)
        refine lv_goto (tgt := 213) G.1 G.2.1 d_Mo_reckon_162 (by decide) ?_
        exact J_213 y_j64 s_j64 d_j64 e_j64 x1j64 (x4j64 - x4j64 / x3j64 * x3j64) H locs h hP hD hS ls (lv_sub hl [1, 2, 0] rfl)
      replace h := h.2 e65_12
      by_cases e65_13 : x2j64 = 13
      · skip
        have h := h.1 e65_13
        refine lv_tableIn (off := 139) (tgt := 204) G.1 G.2.1 d_Mo_reckon_65 (by rw [e65_13]; decide) (by rw [e65_13]; decide) (by rw [e65_13]; rfl) (by decide) ?_
        refine lv_iload G.1 G.2.1 d_Mo_reckon_204 (lv_at hl 4 rfl) ?_
        refine lv_iload_n G.1 G.2.1 d_Mo_reckon_206 rfl (lv_at hl 3 rfl) ?_
        refine lv_bipush (v := 31) G.1 G.2.1 d_Mo_reckon_207 (by decide) ?_
        refine lv_iand G.1 G.2.1 d_Mo_reckon_209 ?_
        refine lv_ishr G.1 G.2.1 d_Mo_reckon_210 ?_
        refine lv_istore (lv' := [(5, .int (x4j64 >>> ((x3j64 &&& 31) &&& 31))), (0, .ref (ad a0)), (1, .int x1j64), (2, .int x2j64), (3, .int x3j64), (4, .int x4j64)]) G.1 G.2.1 d_Mo_reckon_211 hl (by decide) rfl (fun ls hl => ?_)
        exact J_213 y_j64 s_j64 d_j64 e_j64 x1j64 (x4j64 >>> ((x3j64 &&& 31) &&& 31)) H locs h hP hD hS ls (lv_sub hl [1, 2, 0] rfl)
      replace h := h.2 e65_13
      by_cases e65_14 : x2j64 = 14
      · skip
        have h := h.1 e65_14
        refine lv_tableIn (off := 100) (tgt := 165) G.1 G.2.1 d_Mo_reckon_65 (by rw [e65_14]; decide) (by rw [e65_14]; decide) (by rw [e65_14]; rfl) (by decide) ?_
        refine lv_iload G.1 G.2.1 d_Mo_reckon_165 (lv_at hl 4 rfl) ?_
        refine lv_iload_n G.1 G.2.1 d_Mo_reckon_167 rfl (lv_at hl 3 rfl) ?_
        refine lv_iand G.1 G.2.1 d_Mo_reckon_168 ?_
        refine lv_istore (lv' := [(5, .int (x4j64 &&& x3j64)), (0, .ref (ad a0)), (1, .int x1j64), (2, .int x2j64), (3, .int x3j64), (4, .int x4j64)]) G.1 G.2.1 d_Mo_reckon_169 hl (by decide) rfl (fun ls hl => ?_)
        refine lv_goto (tgt := 213) G.1 G.2.1 d_Mo_reckon_171 (by decide) ?_
        exact J_213 y_j64 s_j64 d_j64 e_j64 x1j64 (x4j64 &&& x3j64) H locs h hP hD hS ls (lv_sub hl [1, 2, 0] rfl)
      replace h := h.2 e65_14
      by_cases e65_15 : x2j64 = 15
      · skip
        have h := h.1 e65_15
        refine lv_tableIn (off := 109) (tgt := 174) G.1 G.2.1 d_Mo_reckon_65 (by rw [e65_15]; decide) (by rw [e65_15]; decide) (by rw [e65_15]; rfl) (by decide) ?_
        refine lv_iload G.1 G.2.1 d_Mo_reckon_174 (lv_at hl 4 rfl) ?_
        refine lv_iload_n G.1 G.2.1 d_Mo_reckon_176 rfl (lv_at hl 3 rfl) ?_
        refine lv_ior G.1 G.2.1 d_Mo_reckon_177 ?_
        refine lv_istore (lv' := [(5, .int (x4j64 ||| x3j64)), (0, .ref (ad a0)), (1, .int x1j64), (2, .int x2j64), (3, .int x3j64), (4, .int x4j64)]) G.1 G.2.1 d_Mo_reckon_178 hl (by decide) rfl (fun ls hl => ?_)
        refine lv_goto (tgt := 213) G.1 G.2.1 d_Mo_reckon_180 (by decide) ?_
        exact J_213 y_j64 s_j64 d_j64 e_j64 x1j64 (x4j64 ||| x3j64) H locs h hP hD hS ls (lv_sub hl [1, 2, 0] rfl)
      replace h := h.2 e65_15
      by_cases e65_16 : x2j64 = 16
      · skip
        have h := h.1 e65_16
        refine lv_tableIn (off := 118) (tgt := 183) G.1 G.2.1 d_Mo_reckon_65 (by rw [e65_16]; decide) (by rw [e65_16]; decide) (by rw [e65_16]; rfl) (by decide) ?_
        refine lv_iload G.1 G.2.1 d_Mo_reckon_183 (lv_at hl 4 rfl) ?_
        refine lv_iload_n G.1 G.2.1 d_Mo_reckon_185 rfl (lv_at hl 3 rfl) ?_
        refine lv_ixor G.1 G.2.1 d_Mo_reckon_186 ?_
        refine lv_istore (lv' := [(5, .int (x4j64 ^^^ x3j64)), (0, .ref (ad a0)), (1, .int x1j64), (2, .int x2j64), (3, .int x3j64), (4, .int x4j64)]) G.1 G.2.1 d_Mo_reckon_187 hl (by decide) rfl (fun ls hl => ?_)
        refine lv_goto (tgt := 213) G.1 G.2.1 d_Mo_reckon_189 (by decide) ?_
        exact J_213 y_j64 s_j64 d_j64 e_j64 x1j64 (x4j64 ^^^ x3j64) H locs h hP hD hS ls (lv_sub hl [1, 2, 0] rfl)
      replace h := h.2 e65_16
      by_cases e65_17 : x2j64 = 17
      · skip
        have h := h.1 e65_17
        refine lv_tableIn (off := 127) (tgt := 192) G.1 G.2.1 d_Mo_reckon_65 (by rw [e65_17]; decide) (by rw [e65_17]; decide) (by rw [e65_17]; rfl) (by decide) ?_
        refine lv_iload G.1 G.2.1 d_Mo_reckon_192 (lv_at hl 4 rfl) ?_
        refine lv_iload_n G.1 G.2.1 d_Mo_reckon_194 rfl (lv_at hl 3 rfl) ?_
        refine lv_bipush (v := 31) G.1 G.2.1 d_Mo_reckon_195 (by decide) ?_
        refine lv_iand G.1 G.2.1 d_Mo_reckon_197 ?_
        refine lv_ishl G.1 G.2.1 d_Mo_reckon_198 ?_
        refine lv_istore (lv' := [(5, .int (x4j64 <<< ((x3j64 &&& 31) &&& 31))), (0, .ref (ad a0)), (1, .int x1j64), (2, .int x2j64), (3, .int x3j64), (4, .int x4j64)]) G.1 G.2.1 d_Mo_reckon_199 hl (by decide) rfl (fun ls hl => ?_)
        refine lv_goto (tgt := 213) G.1 G.2.1 d_Mo_reckon_201 (by decide) ?_
        exact J_213 y_j64 s_j64 d_j64 e_j64 x1j64 (x4j64 <<< ((x3j64 &&& 31) &&& 31)) H locs h hP hD hS ls (lv_sub hl [1, 2, 0] rfl)
      replace h := h.2 e65_17
      have te65_8 := lv_neT (a := 8) e65_8 (by decide)
      have te65_9 := lv_neT (a := 9) e65_9 (by decide)
      have te65_10 := lv_neT (a := 10) e65_10 (by decide)
      have te65_11 := lv_neT (a := 11) e65_11 (by decide)
      have te65_12 := lv_neT (a := 12) e65_12 (by decide)
      have te65_13 := lv_neT (a := 13) e65_13 (by decide)
      have te65_14 := lv_neT (a := 14) e65_14 (by decide)
      have te65_15 := lv_neT (a := 15) e65_15 (by decide)
      have te65_16 := lv_neT (a := 16) e65_16 (by decide)
      have te65_17 := lv_neT (a := 17) e65_17 (by decide)
      refine lv_tableOut (tgt := 204) G.1 G.2.1 d_Mo_reckon_65 (by omega) (by decide) ?_
      refine lv_iload G.1 G.2.1 d_Mo_reckon_204 (lv_at hl 4 rfl) ?_
      refine lv_iload_n G.1 G.2.1 d_Mo_reckon_206 rfl (lv_at hl 3 rfl) ?_
      refine lv_bipush (v := 31) G.1 G.2.1 d_Mo_reckon_207 (by decide) ?_
      refine lv_iand G.1 G.2.1 d_Mo_reckon_209 ?_
      refine lv_ishr G.1 G.2.1 d_Mo_reckon_210 ?_
      refine lv_istore (lv' := [(5, .int (x4j64 >>> ((x3j64 &&& 31) &&& 31))), (0, .ref (ad a0)), (1, .int x1j64), (2, .int x2j64), (3, .int x3j64), (4, .int x4j64)]) G.1 G.2.1 d_Mo_reckon_211 hl (by decide) rfl (fun ls hl => ?_)
      exact J_213 y_j64 s_j64 d_j64 e_j64 x1j64 (x4j64 >>> ((x3j64 &&& 31) &&& 31)) H locs h hP hD hS ls (lv_sub hl [1, 2, 0] rfl)
    have J_53 : ∀ (y_j53 : Ly) (s_j53 : St) (d_j53 e_j53 : Nat) (x1j53 : Int32) (x2j53 : Int32) (x3j53 : Int32) (x4j53 : Int32) (H : Heap) (locs : List Loc), wja_Mo_reckon_53 mc ms Post a0 y_j53 s_j53 d_j53 e_j53 x1j53 x2j53 x3j53 x4j53 → va_P D CL (ws g ad y_j53 s_j53) H → va_D A (ws g ad y_j53 s_j53) → va_S A s.heap H locs → ∀ ls, lv_has ls 6 [(0, .ref (ad a0)), (1, .int x1j53), (2, .int x2j53), (3, .int x3j53), (4, .int x4j53)] → W p l e (ra_Mo_reckon mc ms) s m args below meth c H locs d_j53 e_j53 Q (F0 m 53 ls []) := by
      intro y_j53 s_j53 d_j53 e_j53 x1j53 x2j53 x3j53 x4j53 H locs h hP hD hS ls hl
      unfold wja_Mo_reckon_53 at h
      obtain ⟨hd, h⟩ := h
      refine lv_iload_n G.1 G.2.1 d_Mo_reckon_53 rfl (lv_at hl 3 rfl) ?_
      refine lv_if_ne (tgt := 64) G.1 G.2.1 d_Mo_reckon_54 (by decide) (fun c54 => ?_) (fun c54 => ?_)
      · skip
        have h := h.1 c54
        exact J_64 y_j53 s_j53 d_j53 e_j53 x1j53 x2j53 x3j53 x4j53 H locs h hP hD hS ls (lv_sub hl [0, 1, 2, 3, 4] rfl)
      · skip
        have h := h.2 c54
        refine lv_aload_n G.1 G.2.1 d_Mo_reckon_57 rfl (lv_at hl 0 rfl) ?_
        refine lv_iconst (v := 0) G.1 G.2.1 d_Mo_reckon_58 (by decide) ?_
        refine lv_iconst (v := 3) G.1 G.2.1 d_Mo_reckon_59 (by decide) ?_
        obtain ⟨mc_19, ms_20, hr_21, h⟩ := h
        refine uaVv (As := [.int 0, .int 3]) (rest := []) G hP hD hS (ca_Mo_throwNew l D g ad mc_19 ms_20 y_j53 _ s_j53 a0 0 3 H.size (us H) h_a0 h) w9_Mo_throwNew q3883 ⟨Nat.le_of_ble_eq_true rfl, Nat.le_of_ble_eq_true rfl⟩ rfl rfl h_a0 (q := (RMo, TMo, 131)) rfl rfl hl.1 rfl (Nat.le_of_ble_eq_true rfl) rfl hr_21 d_Mo_reckon_60 (fun y_16 s_15 d_17 e_18 H locs h hP hD hS => ?_)
        have hl := lv_sub (l' := []) hl [] rfl
        obtain ⟨hd, h⟩ := h
        exact hret (y_16, s_15, d_j53 + d_17, e_j53 + e_18) _ _ _ _ _ ls h hP hD hS (Nat.le_refl _) (Nat.le_refl _) hd.1 hd.2 d_Mo_reckon_63
    refine lv_icmp_eq (tgt := 53) G.1 G.2.1 d_Mo_reckon_44 (by decide) (fun c44 => ?_) (fun c44 => ?_)
    · skip
      have h := h.1 c44
      exact J_53 y s_4 0 0 v1 v2 r_1 r_3 H locs h hP hD hS ls (lv_sub hl [2, 3, 4, 1, 0] rfl)
    · skip
      have h := h.2 c44
      refine lv_iload_n G.1 G.2.1 d_Mo_reckon_47 rfl (lv_at hl 4 rfl) ?_
      refine lv_bipush (v := 12) G.1 G.2.1 d_Mo_reckon_48 (by decide) ?_
      refine lv_icmp_ne (tgt := 64) G.1 G.2.1 d_Mo_reckon_50 (by decide) (fun c50 => ?_) (fun c50 => ?_)
      · skip
        have h := h.1 c50
        exact J_64 y s_4 0 0 v1 v2 r_1 r_3 H locs h hP hD hS ls (lv_sub hl [2, 3, 4, 1, 0] rfl)
      · skip
        have h := h.2 c50
        exact J_53 y s_4 0 0 v1 v2 r_1 r_3 H locs h hP hD hS ls (lv_sub hl [2, 3, 4, 1, 0] rfl)
  · skip
    have h := h.2 c9
    refine lv_aload_n G.1 G.2.1 d_Mo_reckon_12 rfl (lv_at hl 1 rfl) ?_
    refine lv_iload_n G.1 G.2.1 d_Mo_reckon_13 rfl (lv_at hl 2 rfl) ?_
    refine lv_iload_n G.1 G.2.1 d_Mo_reckon_14 rfl (lv_at hl 0 rfl) ?_
    refine lv_ineg G.1 G.2.1 d_Mo_reckon_15 ?_
    refine W.eq (g2 := F0 m 16 ls [.int (-r_1), .int v1, .ref (ad a0)]) rfl ?_
    refine lv_iconst (v := 0) G.1 G.2.1 d_Mo_reckon_16 (by decide) ?_
    refine ucVv (As := [.int v1, .int (-r_1), .int 0]) (rest := []) G hP hD hS (cu_Mo_push l D g ad y _ s_2 a0 v1 (-r_1) 0 H.size h_a0 h) w9_Mo_push q3907 ⟨Nat.le_of_ble_eq_true rfl, Nat.le_of_ble_eq_true rfl⟩ rfl rfl h_a0 (q := (RMo, TMo, 131)) rfl rfl hl.1 rfl (Nat.le_of_ble_eq_true rfl) rfl hd d_Mo_reckon_17 (fun s_23 H locs h hP hD hS => ?_)
    refine lv_aload_n G.1 G.2.1 d_Mo_reckon_20 rfl (lv_at hl 1 rfl) ?_
    obtain ⟨b_24, e_25, c_26, h⟩ := h
    refine ugf (v := .ref (ad b_24)) G hP h_a0 iMo rfl 46 (by decide) rfl q3110 rfl (by show va_rf ((sO s_23 a0 46).map ad) = _; rw [e_25]; rfl) d_Mo_reckon_21 ?_
    refine ugfN (v := .ref (yP y b_24 18)) G hP c_26 iMr rfl 18 (by decide) rfl q3009 rfl rfl d_Mo_reckon_24 ?_
    refine lv_iload_n G.1 G.2.1 d_Mo_reckon_27 rfl (lv_at hl 2 rfl) ?_
    refine lv_dup2_11 G.1 G.2.1 d_Mo_reckon_28 rfl rfl ?_
    refine uiald G hP (kdp c_26 rfl) (typ c_26 rfl) h d_Mo_reckon_29 (fun x_27 h => ?_)
    refine lv_iconst (v := 1) G.1 G.2.1 d_Mo_reckon_30 (by decide) ?_
    refine lv_iadd G.1 G.2.1 d_Mo_reckon_31 ?_
    refine uiast G hP hD hS (kdp c_26 rfl) (typ c_26 rfl) h d_Mo_reckon_32 (fun s_28 H locs h hP hD hS => ?_)
    exact hret (y, s_28, 0, 0) _ _ _ _ _ ls h hP hD hS (Nat.le_refl _) (Nat.le_refl _) hd.1 hd.2 d_Mo_reckon_33
def y_Mo_rowStep : MethodName := ⟨"ClassWorksModel", "rowStep", "(II)V"⟩
abbrev b_Mo_rowStep : ByteArray := prog_14_method_112_code
theorem d_Mo_rowStep_0 : decode b_Mo_rowStep 0 = .ok (.iload_n 2, 1) := by decide +kernel
theorem d_Mo_rowStep_1 : decode b_Mo_rowStep 1 = .ok (.bipush 44, 2) := by decide +kernel
theorem d_Mo_rowStep_3 : decode b_Mo_rowStep 3 = .ok (.if_icmp .ne 11, 3) := by decide +kernel
theorem d_Mo_rowStep_6 : decode b_Mo_rowStep 6 = .ok (.aload_n 0, 1) := by decide +kernel
theorem d_Mo_rowStep_7 : decode b_Mo_rowStep 7 = .ok (.iload_n 1, 1) := by decide +kernel
theorem d_Mo_rowStep_8 : decode b_Mo_rowStep 8 = .ok (.invokevirtual 1057, 3) := by decide +kernel
theorem d_Mo_rowStep_11 : decode b_Mo_rowStep 11 = .ok (.goto 4, 3) := by decide +kernel
theorem d_Mo_rowStep_14 : decode b_Mo_rowStep 14 = .ok (.iconst 0, 1) := by decide +kernel
theorem d_Mo_rowStep_15 : decode b_Mo_rowStep 15 = .ok (.istore_n 3, 1) := by decide +kernel
theorem d_Mo_rowStep_16 : decode b_Mo_rowStep 16 = .ok (.iload_n 2, 1) := by decide +kernel
theorem d_Mo_rowStep_17 : decode b_Mo_rowStep 17 = .ok (.bipush 45, 2) := by decide +kernel
theorem d_Mo_rowStep_19 : decode b_Mo_rowStep 19 = .ok (.if_icmp .ne 7, 3) := by decide +kernel
theorem d_Mo_rowStep_22 : decode b_Mo_rowStep 22 = .ok (.iconst 0, 1) := by decide +kernel
theorem d_Mo_rowStep_23 : decode b_Mo_rowStep 23 = .ok (.goto 8, 3) := by decide +kernel
theorem d_Mo_rowStep_26 : decode b_Mo_rowStep 26 = .ok (.aload_n 0, 1) := by decide +kernel
theorem d_Mo_rowStep_27 : decode b_Mo_rowStep 27 = .ok (.iload_n 1, 1) := by decide +kernel
theorem d_Mo_rowStep_28 : decode b_Mo_rowStep 28 = .ok (.invokevirtual 1057, 3) := by decide +kernel
theorem d_Mo_rowStep_31 : decode b_Mo_rowStep 31 = .ok (.istore 4, 2) := by decide +kernel
theorem d_Mo_rowStep_33 : decode b_Mo_rowStep 33 = .ok (.iload_n 2, 1) := by decide +kernel
theorem d_Mo_rowStep_34 : decode b_Mo_rowStep 34 = .ok (.bipush 42, 2) := by decide +kernel
theorem d_Mo_rowStep_36 : decode b_Mo_rowStep 36 = .ok (.if_icmp .ne 73, 3) := by decide +kernel
theorem d_Mo_rowStep_39 : decode b_Mo_rowStep 39 = .ok (.iload 4, 2) := by decide +kernel
theorem d_Mo_rowStep_41 : decode b_Mo_rowStep 41 = .ok (.ifCond .lt 11, 3) := by decide +kernel
theorem d_Mo_rowStep_44 : decode b_Mo_rowStep 44 = .ok (.iload 4, 2) := by decide +kernel
theorem d_Mo_rowStep_46 : decode b_Mo_rowStep 46 = .ok (.sipush 300, 3) := by decide +kernel
theorem d_Mo_rowStep_49 : decode b_Mo_rowStep 49 = .ok (.if_icmp .le 7, 3) := by decide +kernel
theorem d_Mo_rowStep_52 : decode b_Mo_rowStep 52 = .ok (.iconst (-1), 1) := by decide +kernel
theorem d_Mo_rowStep_53 : decode b_Mo_rowStep 53 = .ok (.goto 10, 3) := by decide +kernel
theorem d_Mo_rowStep_56 : decode b_Mo_rowStep 56 = .ok (.aload_n 0, 1) := by decide +kernel
theorem d_Mo_rowStep_57 : decode b_Mo_rowStep 57 = .ok (.iconst (-1), 1) := by decide +kernel
theorem d_Mo_rowStep_58 : decode b_Mo_rowStep 58 = .ok (.iload 4, 2) := by decide +kernel
theorem d_Mo_rowStep_60 : decode b_Mo_rowStep 60 = .ok (.invokevirtual 1072, 3) := by decide +kernel
theorem d_Mo_rowStep_63 : decode b_Mo_rowStep 63 = .ok (.istore 5, 2) := by decide +kernel
theorem d_Mo_rowStep_65 : decode b_Mo_rowStep 65 = .ok (.iload 5, 2) := by decide +kernel
theorem d_Mo_rowStep_67 : decode b_Mo_rowStep 67 = .ok (.ifCond .ge 20, 3) := by decide +kernel
theorem d_Mo_rowStep_70 : decode b_Mo_rowStep 70 = .ok (.aload_n 0, 1) := by decide +kernel
theorem d_Mo_rowStep_71 : decode b_Mo_rowStep 71 = .ok (.iconst 0, 1) := by decide +kernel
theorem d_Mo_rowStep_72 : decode b_Mo_rowStep 72 = .ok (.iload 4, 2) := by decide +kernel
theorem d_Mo_rowStep_74 : decode b_Mo_rowStep 74 = .ok (.ifCond .ge 7, 3) := by decide +kernel
theorem d_Mo_rowStep_77 : decode b_Mo_rowStep 77 = .ok (.iconst 5, 1) := by decide +kernel
theorem d_Mo_rowStep_78 : decode b_Mo_rowStep 78 = .ok (.goto 5, 3) := by decide +kernel
theorem d_Mo_rowStep_81 : decode b_Mo_rowStep 81 = .ok (.bipush 9, 2) := by decide +kernel
theorem d_Mo_rowStep_83 : decode b_Mo_rowStep 83 = .ok (.invokevirtual 1001, 3) := by decide +kernel
theorem d_Mo_rowStep_86 : decode b_Mo_rowStep 86 = .ok (.return_, 1) := by decide +kernel
theorem d_Mo_rowStep_87 : decode b_Mo_rowStep 87 = .ok (.aload_n 0, 1) := by decide +kernel
theorem d_Mo_rowStep_88 : decode b_Mo_rowStep 88 = .ok (.iload_n 1, 1) := by decide +kernel
theorem d_Mo_rowStep_89 : decode b_Mo_rowStep 89 = .ok (.iload 5, 2) := by decide +kernel
theorem d_Mo_rowStep_91 : decode b_Mo_rowStep 91 = .ok (.iconst 1, 1) := by decide +kernel
theorem d_Mo_rowStep_92 : decode b_Mo_rowStep 92 = .ok (.invokevirtual 970, 3) := by decide +kernel
theorem d_Mo_rowStep_95 : decode b_Mo_rowStep 95 = .ok (.aload_n 0, 1) := by decide +kernel
theorem d_Mo_rowStep_96 : decode b_Mo_rowStep 96 = .ok (.getfield 917, 3) := by decide +kernel
theorem d_Mo_rowStep_99 : decode b_Mo_rowStep 99 = .ok (.getfield 930, 3) := by decide +kernel
theorem d_Mo_rowStep_102 : decode b_Mo_rowStep 102 = .ok (.iload_n 1, 1) := by decide +kernel
theorem d_Mo_rowStep_103 : decode b_Mo_rowStep 103 = .ok (.dup2, 1) := by decide +kernel
theorem d_Mo_rowStep_104 : decode b_Mo_rowStep 104 = .ok (.iaload, 1) := by decide +kernel
theorem d_Mo_rowStep_105 : decode b_Mo_rowStep 105 = .ok (.iconst 1, 1) := by decide +kernel
theorem d_Mo_rowStep_106 : decode b_Mo_rowStep 106 = .ok (.iadd, 1) := by decide +kernel
theorem d_Mo_rowStep_107 : decode b_Mo_rowStep 107 = .ok (.iastore, 1) := by decide +kernel
theorem d_Mo_rowStep_108 : decode b_Mo_rowStep 108 = .ok (.return_, 1) := by decide +kernel
theorem d_Mo_rowStep_109 : decode b_Mo_rowStep 109 = .ok (.aload_n 0, 1) := by decide +kernel
theorem d_Mo_rowStep_110 : decode b_Mo_rowStep 110 = .ok (.iload_n 1, 1) := by decide +kernel
theorem d_Mo_rowStep_111 : decode b_Mo_rowStep 111 = .ok (.invokevirtual 1057, 3) := by decide +kernel
theorem d_Mo_rowStep_114 : decode b_Mo_rowStep 114 = .ok (.istore 5, 2) := by decide +kernel
theorem d_Mo_rowStep_116 : decode b_Mo_rowStep 116 = .ok (.iload 5, 2) := by decide +kernel
theorem d_Mo_rowStep_118 : decode b_Mo_rowStep 118 = .ok (.ifCond .ne 10, 3) := by decide +kernel
theorem d_Mo_rowStep_121 : decode b_Mo_rowStep 121 = .ok (.aload_n 0, 1) := by decide +kernel
theorem d_Mo_rowStep_122 : decode b_Mo_rowStep 122 = .ok (.iconst 0, 1) := by decide +kernel
theorem d_Mo_rowStep_123 : decode b_Mo_rowStep 123 = .ok (.iconst 2, 1) := by decide +kernel
theorem d_Mo_rowStep_124 : decode b_Mo_rowStep 124 = .ok (.invokevirtual 1001, 3) := by decide +kernel
theorem d_Mo_rowStep_127 : decode b_Mo_rowStep 127 = .ok (.return_, 1) := by decide +kernel
theorem d_Mo_rowStep_128 : decode b_Mo_rowStep 128 = .ok (.aload_n 0, 1) := by decide +kernel
theorem d_Mo_rowStep_129 : decode b_Mo_rowStep 129 = .ok (.getfield 522, 3) := by decide +kernel
theorem d_Mo_rowStep_132 : decode b_Mo_rowStep 132 = .ok (.getfield 887, 3) := by decide +kernel
theorem d_Mo_rowStep_135 : decode b_Mo_rowStep 135 = .ok (.iload 5, 2) := by decide +kernel
theorem d_Mo_rowStep_137 : decode b_Mo_rowStep 137 = .ok (.iaload, 1) := by decide +kernel
theorem d_Mo_rowStep_138 : decode b_Mo_rowStep 138 = .ok (.istore 6, 2) := by decide +kernel
theorem d_Mo_rowStep_140 : decode b_Mo_rowStep 140 = .ok (.iload_n 2, 1) := by decide +kernel
theorem d_Mo_rowStep_141 : decode b_Mo_rowStep 141 = .ok (.bipush 45, 2) := by decide +kernel
theorem d_Mo_rowStep_143 : decode b_Mo_rowStep 143 = .ok (.if_icmp .eq 22, 3) := by decide +kernel
theorem d_Mo_rowStep_146 : decode b_Mo_rowStep 146 = .ok (.iload 4, 2) := by decide +kernel
theorem d_Mo_rowStep_148 : decode b_Mo_rowStep 148 = .ok (.ifCond .lt 10, 3) := by decide +kernel
theorem d_Mo_rowStep_151 : decode b_Mo_rowStep 151 = .ok (.iload 4, 2) := by decide +kernel
theorem d_Mo_rowStep_153 : decode b_Mo_rowStep 153 = .ok (.iload 6, 2) := by decide +kernel
theorem d_Mo_rowStep_155 : decode b_Mo_rowStep 155 = .ok (.if_icmp .lt 10, 3) := by decide +kernel
theorem d_Mo_rowStep_158 : decode b_Mo_rowStep 158 = .ok (.aload_n 0, 1) := by decide +kernel
theorem d_Mo_rowStep_159 : decode b_Mo_rowStep 159 = .ok (.iconst 0, 1) := by decide +kernel
theorem d_Mo_rowStep_160 : decode b_Mo_rowStep 160 = .ok (.iconst 4, 1) := by decide +kernel
theorem d_Mo_rowStep_161 : decode b_Mo_rowStep 161 = .ok (.invokevirtual 1001, 3) := by decide +kernel
theorem d_Mo_rowStep_164 : decode b_Mo_rowStep 164 = .ok (.return_, 1) := by decide +kernel
theorem d_Mo_rowStep_165 : decode b_Mo_rowStep 165 = .ok (.iload_n 2, 1) := by decide +kernel
theorem d_Mo_rowStep_166 : decode b_Mo_rowStep 166 = .ok (.bipush 44, 2) := by decide +kernel
theorem d_Mo_rowStep_168 : decode b_Mo_rowStep 168 = .ok (.if_icmp .ne 28, 3) := by decide +kernel
theorem d_Mo_rowStep_171 : decode b_Mo_rowStep 171 = .ok (.aload_n 0, 1) := by decide +kernel
theorem d_Mo_rowStep_172 : decode b_Mo_rowStep 172 = .ok (.getfield 522, 3) := by decide +kernel
theorem d_Mo_rowStep_175 : decode b_Mo_rowStep 175 = .ok (.getfield 893, 3) := by decide +kernel
theorem d_Mo_rowStep_178 : decode b_Mo_rowStep 178 = .ok (.aload_n 0, 1) := by decide +kernel
theorem d_Mo_rowStep_179 : decode b_Mo_rowStep 179 = .ok (.getfield 522, 3) := by decide +kernel
theorem d_Mo_rowStep_182 : decode b_Mo_rowStep 182 = .ok (.getfield 884, 3) := by decide +kernel
theorem d_Mo_rowStep_185 : decode b_Mo_rowStep 185 = .ok (.iload 5, 2) := by decide +kernel
theorem d_Mo_rowStep_187 : decode b_Mo_rowStep 187 = .ok (.iaload, 1) := by decide +kernel
theorem d_Mo_rowStep_188 : decode b_Mo_rowStep 188 = .ok (.iload 4, 2) := by decide +kernel
theorem d_Mo_rowStep_190 : decode b_Mo_rowStep 190 = .ok (.iadd, 1) := by decide +kernel
theorem d_Mo_rowStep_191 : decode b_Mo_rowStep 191 = .ok (.iload_n 3, 1) := by decide +kernel
theorem d_Mo_rowStep_192 : decode b_Mo_rowStep 192 = .ok (.iastore, 1) := by decide +kernel
theorem d_Mo_rowStep_193 : decode b_Mo_rowStep 193 = .ok (.goto 41, 3) := by decide +kernel
theorem d_Mo_rowStep_196 : decode b_Mo_rowStep 196 = .ok (.aload_n 0, 1) := by decide +kernel
theorem d_Mo_rowStep_197 : decode b_Mo_rowStep 197 = .ok (.iload_n 1, 1) := by decide +kernel
theorem d_Mo_rowStep_198 : decode b_Mo_rowStep 198 = .ok (.iload_n 2, 1) := by decide +kernel
theorem d_Mo_rowStep_199 : decode b_Mo_rowStep 199 = .ok (.bipush 45, 2) := by decide +kernel
theorem d_Mo_rowStep_201 : decode b_Mo_rowStep 201 = .ok (.if_icmp .ne 8, 3) := by decide +kernel
theorem d_Mo_rowStep_204 : decode b_Mo_rowStep 204 = .ok (.iload 6, 2) := by decide +kernel
theorem d_Mo_rowStep_206 : decode b_Mo_rowStep 206 = .ok (.goto 24, 3) := by decide +kernel
theorem d_Mo_rowStep_209 : decode b_Mo_rowStep 209 = .ok (.aload_n 0, 1) := by decide +kernel
theorem d_Mo_rowStep_210 : decode b_Mo_rowStep 210 = .ok (.getfield 522, 3) := by decide +kernel
theorem d_Mo_rowStep_213 : decode b_Mo_rowStep 213 = .ok (.getfield 893, 3) := by decide +kernel
theorem d_Mo_rowStep_216 : decode b_Mo_rowStep 216 = .ok (.aload_n 0, 1) := by decide +kernel
theorem d_Mo_rowStep_217 : decode b_Mo_rowStep 217 = .ok (.getfield 522, 3) := by decide +kernel
theorem d_Mo_rowStep_220 : decode b_Mo_rowStep 220 = .ok (.getfield 884, 3) := by decide +kernel
theorem d_Mo_rowStep_223 : decode b_Mo_rowStep 223 = .ok (.iload 5, 2) := by decide +kernel
theorem d_Mo_rowStep_225 : decode b_Mo_rowStep 225 = .ok (.iaload, 1) := by decide +kernel
theorem d_Mo_rowStep_226 : decode b_Mo_rowStep 226 = .ok (.iload 4, 2) := by decide +kernel
theorem d_Mo_rowStep_228 : decode b_Mo_rowStep 228 = .ok (.iadd, 1) := by decide +kernel
theorem d_Mo_rowStep_229 : decode b_Mo_rowStep 229 = .ok (.iaload, 1) := by decide +kernel
theorem d_Mo_rowStep_230 : decode b_Mo_rowStep 230 = .ok (.iconst 0, 1) := by decide +kernel
theorem d_Mo_rowStep_231 : decode b_Mo_rowStep 231 = .ok (.invokevirtual 970, 3) := by decide +kernel
theorem d_Mo_rowStep_234 : decode b_Mo_rowStep 234 = .ok (.aload_n 0, 1) := by decide +kernel
theorem d_Mo_rowStep_235 : decode b_Mo_rowStep 235 = .ok (.getfield 917, 3) := by decide +kernel
theorem d_Mo_rowStep_238 : decode b_Mo_rowStep 238 = .ok (.getfield 930, 3) := by decide +kernel
theorem d_Mo_rowStep_241 : decode b_Mo_rowStep 241 = .ok (.iload_n 1, 1) := by decide +kernel
theorem d_Mo_rowStep_242 : decode b_Mo_rowStep 242 = .ok (.dup2, 1) := by decide +kernel
theorem d_Mo_rowStep_243 : decode b_Mo_rowStep 243 = .ok (.iaload, 1) := by decide +kernel
theorem d_Mo_rowStep_244 : decode b_Mo_rowStep 244 = .ok (.iconst 1, 1) := by decide +kernel
theorem d_Mo_rowStep_245 : decode b_Mo_rowStep 245 = .ok (.iadd, 1) := by decide +kernel
theorem d_Mo_rowStep_246 : decode b_Mo_rowStep 246 = .ok (.iastore, 1) := by decide +kernel
theorem d_Mo_rowStep_247 : decode b_Mo_rowStep 247 = .ok (.return_, 1) := by decide +kernel
abbrev ra_Mo_rowStep (mc ms : Nat) : Room := { frames := 8, cells := mc, slots := ms, locals := 220 }
def wja_Mo_rowStep_234 (mc ms : Nat) (Post : Ly → St → Nat → Nat → Prop) (a0 : Nat) (y_j234 : Ly) (s_j234 : St) (d_j234 e_j234 : Nat) (x1j234 : Int32) : Prop := (d_j234 ≤ mc ∧ e_j234 ≤ ms) ∧ ∃ b_7 : Nat, sO s_j234 a0 46 = some b_7 ∧ cl b_7 = 12 ∧ xA y_j234 s_j234 b_7 18 x1j234 (fun x_10 : Int32 => xS y_j234 s_j234 b_7 18 x1j234 (x_10 + 1) (fun s_11 : St => Post y_j234 s_11 d_j234 e_j234))
def wja_Mo_rowStep_230 (mc ms : Nat) (Post : Ly → St → Nat → Nat → Prop) (a0 : Nat) (y_j230 : Ly) (s_j230 : St) (d_j230 e_j230 : Nat) (x1j230 : Int32) (z1j230 : Int32) (z2j230 : Int32) : Prop := (d_j230 ≤ mc ∧ e_j230 ≤ ms) ∧ wu_Mo_push y_j230 (fun (s_13 : St) => wja_Mo_rowStep_234 mc ms Post a0 y_j230 s_13 d_j230 e_j230 x1j230) s_j230 a0 z1j230 z2j230 0
def wja_Mo_rowStep_165 (mc ms : Nat) (Post : Ly → St → Nat → Nat → Prop) (a0 : Nat) (y_j165 : Ly) (s_j165 : St) (d_j165 e_j165 : Nat) (x1j165 : Int32) (x2j165 : Int32) (x3j165 : Int32) (x4j165 : Int32) (x5j165 : Int32) (x6j165 : Int32) : Prop := (d_j165 ≤ mc ∧ e_j165 ≤ ms) ∧ ((¬ x2j165 = 44 → ((¬ x2j165 = 45 → ∃ b_14 : Nat, sO s_j165 a0 45 = some b_14 ∧ cl b_14 = 13 ∧ xA y_j165 s_j165 b_14 46 x5j165 (fun x_17 : Int32 => xA y_j165 s_j165 b_14 51 (x_17 + x4j165) (fun x_18 : Int32 => wja_Mo_rowStep_230 mc ms Post a0 y_j165 s_j165 d_j165 e_j165 x1j165 x1j165 x_18))) ∧ (x2j165 = 45 → wja_Mo_rowStep_230 mc ms Post a0 y_j165 s_j165 d_j165 e_j165 x1j165 x1j165 x6j165))) ∧ (x2j165 = 44 → ∃ b_19 : Nat, sO s_j165 a0 45 = some b_19 ∧ cl b_19 = 13 ∧ xA y_j165 s_j165 b_19 46 x5j165 (fun x_22 : Int32 => xS y_j165 s_j165 b_19 51 (x_22 + x4j165) x3j165 (fun s_23 : St => wja_Mo_rowStep_234 mc ms Post a0 y_j165 s_23 d_j165 e_j165 x1j165))))
def wja_Mo_rowStep_158 (mc ms : Nat) (Post : Ly → St → Nat → Nat → Prop) (a0 : Nat) (y_j158 : Ly) (s_j158 : St) (d_j158 e_j158 : Nat) : Prop := (d_j158 ≤ mc ∧ e_j158 ≤ ms) ∧ ∃ mc_29 ms_30 : Nat, (d_j158 + mc_29 ≤ mc ∧ e_j158 + ms_30 ≤ ms) ∧ wa_Mo_throwNew mc_29 ms_30 y_j158 (fun (y_26 : Ly) (s_25 : St) (d_27 e_28 : Nat) => (d_j158 + d_27 ≤ mc ∧ e_j158 + e_28 ≤ ms) ∧ Post y_26 s_25 (d_j158 + d_27) (e_j158 + e_28)) s_j158 a0 0 4
def wja_Mo_rowStep_83 (mc ms : Nat) (Post : Ly → St → Nat → Nat → Prop) (a0 : Nat) (y_j83 : Ly) (s_j83 : St) (d_j83 e_j83 : Nat) (z1j83 : Int32) (z2j83 : Int32) : Prop := (d_j83 ≤ mc ∧ e_j83 ≤ ms) ∧ ∃ mc_52 ms_53 : Nat, (d_j83 + mc_52 ≤ mc ∧ e_j83 + ms_53 ≤ ms) ∧ wa_Mo_throwNew mc_52 ms_53 y_j83 (fun (y_49 : Ly) (s_48 : St) (d_50 e_51 : Nat) => (d_j83 + d_50 ≤ mc ∧ e_j83 + e_51 ≤ ms) ∧ Post y_49 s_48 (d_j83 + d_50) (e_j83 + e_51)) s_j83 a0 z1j83 z2j83
def wja_Mo_rowStep_63 (mc ms : Nat) (Post : Ly → St → Nat → Nat → Prop) (a0 : Nat) (y_j63 : Ly) (s_j63 : St) (d_j63 e_j63 : Nat) (x1j63 : Int32) (x4j63 : Int32) (z0j63 : Int32) : Prop := (d_j63 ≤ mc ∧ e_j63 ≤ ms) ∧ ((0 ≤ z0j63 → wu_Mo_push y_j63 (fun (s_41 : St) => ∃ b_42 : Nat, sO s_41 a0 46 = some b_42 ∧ cl b_42 = 12 ∧ xA y_j63 s_41 b_42 18 x1j63 (fun x_45 : Int32 => xS y_j63 s_41 b_42 18 x1j63 (x_45 + 1) (fun s_46 : St => Post y_j63 s_46 d_j63 e_j63))) s_j63 a0 x1j63 z0j63 1) ∧ (¬ (0 ≤ z0j63) → ((0 ≤ x4j63 → wja_Mo_rowStep_83 mc ms Post a0 y_j63 s_j63 d_j63 e_j63 0 9) ∧ (¬ (0 ≤ x4j63) → wja_Mo_rowStep_83 mc ms Post a0 y_j63 s_j63 d_j63 e_j63 0 5))))
def wja_Mo_rowStep_52 (mc ms : Nat) (Post : Ly → St → Nat → Nat → Prop) (a0 : Nat) (y_j52 : Ly) (s_j52 : St) (d_j52 e_j52 : Nat) (x1j52 : Int32) (x4j52 : Int32) : Prop := (d_j52 ≤ mc ∧ e_j52 ≤ ms) ∧ wja_Mo_rowStep_63 mc ms Post a0 y_j52 s_j52 d_j52 e_j52 x1j52 x4j52 (-1)
def wja_Mo_rowStep_31 (mc ms : Nat) (Post : Ly → St → Nat → Nat → Prop) (a0 : Nat) (y_j31 : Ly) (s_j31 : St) (d_j31 e_j31 : Nat) (x1j31 : Int32) (x2j31 : Int32) (x3j31 : Int32) (z0j31 : Int32) : Prop := (d_j31 ≤ mc ∧ e_j31 ≤ ms) ∧ ((¬ x2j31 = 42 → wu_Mo_pop y_j31 (fun (s_2 : St) (r_1 : Int32) => ((¬ r_1 = 0 → ∃ b_3 : Nat, sO s_2 a0 45 = some b_3 ∧ cl b_3 = 13 ∧ xA y_j31 s_2 b_3 47 r_1 (fun x_6 : Int32 => ((x2j31 = 45 → wja_Mo_rowStep_165 mc ms Post a0 y_j31 s_2 d_j31 e_j31 x1j31 x2j31 x3j31 z0j31 r_1 x_6) ∧ (¬ (x2j31 = 45) → ((z0j31 < 0 → wja_Mo_rowStep_158 mc ms Post a0 y_j31 s_2 d_j31 e_j31) ∧ (¬ (z0j31 < 0) → ((z0j31 < x_6 → wja_Mo_rowStep_165 mc ms Post a0 y_j31 s_2 d_j31 e_j31 x1j31 x2j31 x3j31 z0j31 r_1 x_6) ∧ (¬ (z0j31 < x_6) → wja_Mo_rowStep_158 mc ms Post a0 y_j31 s_2 d_j31 e_j31)))))))) ∧ (r_1 = 0 → ∃ mc_37 ms_38 : Nat, (d_j31 + mc_37 ≤ mc ∧ e_j31 + ms_38 ≤ ms) ∧ wa_Mo_throwNew mc_37 ms_38 y_j31 (fun (y_34 : Ly) (s_33 : St) (d_35 e_36 : Nat) => (d_j31 + d_35 ≤ mc ∧ e_j31 + e_36 ≤ ms) ∧ Post y_34 s_33 (d_j31 + d_35) (e_j31 + e_36)) s_2 a0 0 2))) s_j31 a0 x1j31) ∧ (x2j31 = 42 → ((z0j31 < 0 → wja_Mo_rowStep_52 mc ms Post a0 y_j31 s_j31 d_j31 e_j31 x1j31 z0j31) ∧ (¬ (z0j31 < 0) → ((z0j31 ≤ 300 → wu_Mo_newThing y_j31 (fun (s_56 : St) (r_55 : Int32) => wja_Mo_rowStep_63 mc ms Post a0 y_j31 s_56 d_j31 e_j31 x1j31 z0j31 r_55) s_j31 a0 (-1) z0j31) ∧ (¬ (z0j31 ≤ 300) → wja_Mo_rowStep_52 mc ms Post a0 y_j31 s_j31 d_j31 e_j31 x1j31 z0j31))))))
def wja_Mo_rowStep_15 (mc ms : Nat) (Post : Ly → St → Nat → Nat → Prop) (a0 : Nat) (y_j15 : Ly) (s_j15 : St) (d_j15 e_j15 : Nat) (x1j15 : Int32) (x2j15 : Int32) (z0j15 : Int32) : Prop := (d_j15 ≤ mc ∧ e_j15 ≤ ms) ∧ ((¬ x2j15 = 45 → wu_Mo_pop y_j15 (fun (s_58 : St) (r_57 : Int32) => wja_Mo_rowStep_31 mc ms Post a0 y_j15 s_58 d_j15 e_j15 x1j15 x2j15 z0j15 r_57) s_j15 a0 x1j15) ∧ (x2j15 = 45 → wja_Mo_rowStep_31 mc ms Post a0 y_j15 s_j15 d_j15 e_j15 x1j15 x2j15 z0j15 0))
def wa_Mo_rowStep (mc ms : Nat) (y : Ly) (Post : Ly → St → Nat → Nat → Prop) (σ : St) (a0 : Nat) (v1 : Int32) (v2 : Int32) : Prop := ((¬ v2 = 44 → wja_Mo_rowStep_15 mc ms Post a0 y σ 0 0 v1 v2 0) ∧ (v2 = 44 → wu_Mo_pop y (fun (s_60 : St) (r_59 : Int32) => wja_Mo_rowStep_15 mc ms Post a0 y s_60 0 0 v1 v2 r_59) σ a0 v1))
set_option maxHeartbeats 4000000 in
set_option maxRecDepth 100000 in
theorem ca_Mo_rowStep (l : Launch) (D : va_G) (g : Nat → ClassId) (ad : Nat → Nat) (mc ms : Nat) (y : Ly) (Post : Ly → St → Nat → Nat → Prop) (σ : St) (a0 : Nat) (v1 : Int32) (v2 : Int32) (sz uz : Nat) (h_a0 : cl a0 = 14) (h : wa_Mo_rowStep mc ms y Post σ a0 v1 v2) : Met l y_Mo_rowStep (mw y_Mo_rowStep b_Mo_rowStep 7 (none)) (ra_Mo_rowStep mc ms) (PCu g D [] [.ref (ad a0), .int v1, .int v2] sz uz (ws g ad y σ)) (va_Qv (fun (u : Ly × St × Nat × Nat) => Post u.1 u.2.1 u.2.2.1 u.2.2.2) (QU D (va_A (ws g ad y σ) sz) (fun u => ws g ad u.1 u.2.1) sz uz (fun u => u.2.2.1) (fun u => u.2.2.2)) (va_A (ws g ad y σ) sz)) mc ms (va_A (ws g ad y σ) sz) := by
  refine ofVu (by decide +kernel) (Nat.le_of_ble_eq_true rfl) ?_
  intro p e s m args below meth c A Q ls H locs G hsz hP hD hS hl hret
  subst hsz
  have hl : lv_has ls 7 [(0, .ref (ad a0)), (1, .int v1), (2, .int v2)] := hl
  have hd : 0 ≤ mc ∧ 0 ≤ ms := ⟨Nat.zero_le _, Nat.zero_le _⟩
  unfold wa_Mo_rowStep at h
  refine lv_iload_n G.1 G.2.1 d_Mo_rowStep_0 rfl (lv_at hl 2 rfl) ?_
  refine lv_bipush (v := 44) G.1 G.2.1 d_Mo_rowStep_1 (by decide) ?_
  have J_15 : ∀ (y_j15 : Ly) (s_j15 : St) (d_j15 e_j15 : Nat) (x1j15 : Int32) (x2j15 : Int32) (z0j15 : Int32) (H : Heap) (locs : List Loc), wja_Mo_rowStep_15 mc ms Post a0 y_j15 s_j15 d_j15 e_j15 x1j15 x2j15 z0j15 → va_P D CL (ws g ad y_j15 s_j15) H → va_D A (ws g ad y_j15 s_j15) → va_S A s.heap H locs → ∀ ls, lv_has ls 7 [(0, .ref (ad a0)), (1, .int x1j15), (2, .int x2j15)] → W p l e (ra_Mo_rowStep mc ms) s m args below meth c H locs d_j15 e_j15 Q (F0 m 15 ls [.int z0j15]) := by
    intro y_j15 s_j15 d_j15 e_j15 x1j15 x2j15 z0j15 H locs h hP hD hS ls hl
    unfold wja_Mo_rowStep_15 at h
    obtain ⟨hd, h⟩ := h
    refine lv_istore_n (lv' := [(3, .int z0j15), (0, .ref (ad a0)), (1, .int x1j15), (2, .int x2j15)]) G.1 G.2.1 d_Mo_rowStep_15 rfl hl (by decide) rfl (fun ls hl => ?_)
    refine lv_iload_n G.1 G.2.1 d_Mo_rowStep_16 rfl (lv_at hl 3 rfl) ?_
    refine lv_bipush (v := 45) G.1 G.2.1 d_Mo_rowStep_17 (by decide) ?_
    have J_31 : ∀ (y_j31 : Ly) (s_j31 : St) (d_j31 e_j31 : Nat) (x1j31 : Int32) (x2j31 : Int32) (x3j31 : Int32) (z0j31 : Int32) (H : Heap) (locs : List Loc), wja_Mo_rowStep_31 mc ms Post a0 y_j31 s_j31 d_j31 e_j31 x1j31 x2j31 x3j31 z0j31 → va_P D CL (ws g ad y_j31 s_j31) H → va_D A (ws g ad y_j31 s_j31) → va_S A s.heap H locs → ∀ ls, lv_has ls 7 [(0, .ref (ad a0)), (1, .int x1j31), (2, .int x2j31), (3, .int x3j31)] → W p l e (ra_Mo_rowStep mc ms) s m args below meth c H locs d_j31 e_j31 Q (F0 m 31 ls [.int z0j31]) := by
      intro y_j31 s_j31 d_j31 e_j31 x1j31 x2j31 x3j31 z0j31 H locs h hP hD hS ls hl
      unfold wja_Mo_rowStep_31 at h
      obtain ⟨hd, h⟩ := h
      refine lv_istore (lv' := [(4, .int z0j31), (0, .ref (ad a0)), (1, .int x1j31), (2, .int x2j31), (3, .int x3j31)]) G.1 G.2.1 d_Mo_rowStep_31 hl (by decide) rfl (fun ls hl => ?_)
      refine lv_iload_n G.1 G.2.1 d_Mo_rowStep_33 rfl (lv_at hl 3 rfl) ?_
      refine lv_bipush (v := 42) G.1 G.2.1 d_Mo_rowStep_34 (by decide) ?_
      refine lv_icmp_ne (tgt := 109) G.1 G.2.1 d_Mo_rowStep_36 (by decide) (fun c36 => ?_) (fun c36 => ?_)
      · skip
        have h := h.1 c36
        refine lv_aload_n G.1 G.2.1 d_Mo_rowStep_109 rfl (lv_at hl 1 rfl) ?_
        refine lv_iload_n G.1 G.2.1 d_Mo_rowStep_110 rfl (lv_at hl 2 rfl) ?_
        refine ucVi (As := [.int x1j31]) (rest := []) G hP hD hS (cu_Mo_pop l D g ad y_j31 _ s_j31 a0 x1j31 H.size h_a0 h) w9_Mo_pop q3947 ⟨Nat.le_of_ble_eq_true rfl, Nat.le_of_ble_eq_true rfl⟩ rfl rfl h_a0 (q := (RMo, TMo, 131)) rfl rfl hl.1 rfl (Nat.le_of_ble_eq_true rfl) rfl hd d_Mo_rowStep_111 (fun r_1 s_2 H locs h hP hD hS => ?_)
        refine lv_istore (lv' := [(5, .int r_1), (4, .int z0j31), (0, .ref (ad a0)), (1, .int x1j31), (2, .int x2j31), (3, .int x3j31)]) G.1 G.2.1 d_Mo_rowStep_114 hl (by decide) rfl (fun ls hl => ?_)
        refine lv_iload G.1 G.2.1 d_Mo_rowStep_116 (lv_at hl 0 rfl) ?_
        refine lv_if_ne (tgt := 128) G.1 G.2.1 d_Mo_rowStep_118 (by decide) (fun c118 => ?_) (fun c118 => ?_)
        · skip
          have h := h.1 c118
          refine lv_aload_n G.1 G.2.1 d_Mo_rowStep_128 rfl (lv_at hl 2 rfl) ?_
          refine W.eq (g2 := F0 m 129 ls [.ref (ad a0)]) rfl ?_
          obtain ⟨b_3, e_4, c_5, h⟩ := h
          refine ugf (v := .ref (ad b_3)) G hP h_a0 iMo rfl 45 (by decide) rfl q3109 rfl (by show va_rf ((sO s_2 a0 45).map ad) = _; rw [e_4]; rfl) d_Mo_rowStep_129 ?_
          refine ugfN (v := .ref (yP y_j31 b_3 47)) G hP c_5 iMw rfl 47 (by decide) rfl q2794 rfl rfl d_Mo_rowStep_132 ?_
          refine lv_iload G.1 G.2.1 d_Mo_rowStep_135 (lv_at hl 0 rfl) ?_
          refine uiald G hP (kdp c_5 rfl) (typ c_5 rfl) h d_Mo_rowStep_137 (fun x_6 h => ?_)
          refine lv_istore (lv' := [(6, .int x_6), (5, .int r_1), (4, .int z0j31), (0, .ref (ad a0)), (1, .int x1j31), (2, .int x2j31), (3, .int x3j31)]) G.1 G.2.1 d_Mo_rowStep_138 hl (by decide) rfl (fun ls hl => ?_)
          refine lv_iload_n G.1 G.2.1 d_Mo_rowStep_140 rfl (lv_at hl 5 rfl) ?_
          refine lv_bipush (v := 45) G.1 G.2.1 d_Mo_rowStep_141 (by decide) ?_
          have J_165 : ∀ (y_j165 : Ly) (s_j165 : St) (d_j165 e_j165 : Nat) (x1j165 : Int32) (x2j165 : Int32) (x3j165 : Int32) (x4j165 : Int32) (x5j165 : Int32) (x6j165 : Int32) (H : Heap) (locs : List Loc), wja_Mo_rowStep_165 mc ms Post a0 y_j165 s_j165 d_j165 e_j165 x1j165 x2j165 x3j165 x4j165 x5j165 x6j165 → va_P D CL (ws g ad y_j165 s_j165) H → va_D A (ws g ad y_j165 s_j165) → va_S A s.heap H locs → ∀ ls, lv_has ls 7 [(0, .ref (ad a0)), (1, .int x1j165), (2, .int x2j165), (3, .int x3j165), (4, .int x4j165), (5, .int x5j165), (6, .int x6j165)] → W p l e (ra_Mo_rowStep mc ms) s m args below meth c H locs d_j165 e_j165 Q (F0 m 165 ls []) := by
            intro y_j165 s_j165 d_j165 e_j165 x1j165 x2j165 x3j165 x4j165 x5j165 x6j165 H locs h hP hD hS ls hl
            unfold wja_Mo_rowStep_165 at h
            obtain ⟨hd, h⟩ := h
            refine lv_iload_n G.1 G.2.1 d_Mo_rowStep_165 rfl (lv_at hl 2 rfl) ?_
            refine lv_bipush (v := 44) G.1 G.2.1 d_Mo_rowStep_166 (by decide) ?_
            have J_234 : ∀ (y_j234 : Ly) (s_j234 : St) (d_j234 e_j234 : Nat) (x1j234 : Int32) (H : Heap) (locs : List Loc), wja_Mo_rowStep_234 mc ms Post a0 y_j234 s_j234 d_j234 e_j234 x1j234 → va_P D CL (ws g ad y_j234 s_j234) H → va_D A (ws g ad y_j234 s_j234) → va_S A s.heap H locs → ∀ ls, lv_has ls 7 [(0, .ref (ad a0)), (1, .int x1j234)] → W p l e (ra_Mo_rowStep mc ms) s m args below meth c H locs d_j234 e_j234 Q (F0 m 234 ls []) := by
              intro y_j234 s_j234 d_j234 e_j234 x1j234 H locs h hP hD hS ls hl
              unfold wja_Mo_rowStep_234 at h
              obtain ⟨hd, h⟩ := h
              refine lv_aload_n G.1 G.2.1 d_Mo_rowStep_234 rfl (lv_at hl 0 rfl) ?_
              obtain ⟨b_7, e_8, c_9, h⟩ := h
              refine ugf (v := .ref (ad b_7)) G hP h_a0 iMo rfl 46 (by decide) rfl q3110 rfl (by show va_rf ((sO s_j234 a0 46).map ad) = _; rw [e_8]; rfl) d_Mo_rowStep_235 ?_
              refine ugfN (v := .ref (yP y_j234 b_7 18)) G hP c_9 iMr rfl 18 (by decide) rfl q3009 rfl rfl d_Mo_rowStep_238 ?_
              refine lv_iload_n G.1 G.2.1 d_Mo_rowStep_241 rfl (lv_at hl 1 rfl) ?_
              refine lv_dup2_11 G.1 G.2.1 d_Mo_rowStep_242 rfl rfl ?_
              refine uiald G hP (kdp c_9 rfl) (typ c_9 rfl) h d_Mo_rowStep_243 (fun x_10 h => ?_)
              refine lv_iconst (v := 1) G.1 G.2.1 d_Mo_rowStep_244 (by decide) ?_
              refine lv_iadd G.1 G.2.1 d_Mo_rowStep_245 ?_
              refine uiast G hP hD hS (kdp c_9 rfl) (typ c_9 rfl) h d_Mo_rowStep_246 (fun s_11 H locs h hP hD hS => ?_)
              exact hret (y_j234, s_11, d_j234, e_j234) _ _ _ _ _ ls h hP hD hS (Nat.le_refl _) (Nat.le_refl _) hd.1 hd.2 d_Mo_rowStep_247
            refine lv_icmp_ne (tgt := 196) G.1 G.2.1 d_Mo_rowStep_168 (by decide) (fun c168 => ?_) (fun c168 => ?_)
            · skip
              have h := h.1 c168
              refine lv_aload_n G.1 G.2.1 d_Mo_rowStep_196 rfl (lv_at hl 0 rfl) ?_
              refine lv_iload_n G.1 G.2.1 d_Mo_rowStep_197 rfl (lv_at hl 1 rfl) ?_
              refine lv_iload_n G.1 G.2.1 d_Mo_rowStep_198 rfl (lv_at hl 2 rfl) ?_
              refine lv_bipush (v := 45) G.1 G.2.1 d_Mo_rowStep_199 (by decide) ?_
              have J_230 : ∀ (y_j230 : Ly) (s_j230 : St) (d_j230 e_j230 : Nat) (x1j230 : Int32) (z1j230 : Int32) (z2j230 : Int32) (H : Heap) (locs : List Loc), wja_Mo_rowStep_230 mc ms Post a0 y_j230 s_j230 d_j230 e_j230 x1j230 z1j230 z2j230 → va_P D CL (ws g ad y_j230 s_j230) H → va_D A (ws g ad y_j230 s_j230) → va_S A s.heap H locs → ∀ ls, lv_has ls 7 [(0, .ref (ad a0)), (1, .int x1j230)] → W p l e (ra_Mo_rowStep mc ms) s m args below meth c H locs d_j230 e_j230 Q (F0 m 230 ls [.int z2j230, .int z1j230, .ref (ad a0)]) := by
                intro y_j230 s_j230 d_j230 e_j230 x1j230 z1j230 z2j230 H locs h hP hD hS ls hl
                unfold wja_Mo_rowStep_230 at h
                obtain ⟨hd, h⟩ := h
                refine lv_iconst (v := 0) G.1 G.2.1 d_Mo_rowStep_230 (by decide) ?_
                refine ucVv (As := [.int z1j230, .int z2j230, .int 0]) (rest := []) G hP hD hS (cu_Mo_push l D g ad y_j230 _ s_j230 a0 z1j230 z2j230 0 H.size h_a0 h) w9_Mo_push q3907 ⟨Nat.le_of_ble_eq_true rfl, Nat.le_of_ble_eq_true rfl⟩ rfl rfl h_a0 (q := (RMo, TMo, 131)) rfl rfl hl.1 rfl (Nat.le_of_ble_eq_true rfl) rfl hd d_Mo_rowStep_231 (fun s_13 H locs h hP hD hS => ?_)
                exact J_234 y_j230 s_13 d_j230 e_j230 x1j230 H locs h hP hD hS ls (lv_sub hl [0, 1] rfl)
              refine lv_icmp_ne (tgt := 209) G.1 G.2.1 d_Mo_rowStep_201 (by decide) (fun c201 => ?_) (fun c201 => ?_)
              · skip
                have h := h.1 c201
                refine lv_aload_n G.1 G.2.1 d_Mo_rowStep_209 rfl (lv_at hl 0 rfl) ?_
                obtain ⟨b_14, e_15, c_16, h⟩ := h
                refine ugf (v := .ref (ad b_14)) G hP h_a0 iMo rfl 45 (by decide) rfl q3109 rfl (by show va_rf ((sO s_j165 a0 45).map ad) = _; rw [e_15]; rfl) d_Mo_rowStep_210 ?_
                refine ugfN (v := .ref (yP y_j165 b_14 51)) G hP c_16 iMw rfl 51 (by decide) rfl q2801 rfl rfl d_Mo_rowStep_213 ?_
                refine W.eq (g2 := F0 m 216 ls [.ref (yP y_j165 b_14 51), .int x1j165, .ref (ad a0)]) rfl ?_
                refine lv_aload_n G.1 G.2.1 d_Mo_rowStep_216 rfl (lv_at hl 0 rfl) ?_
                refine ugf (v := .ref (ad b_14)) G hP h_a0 iMo rfl 45 (by decide) rfl q3109 rfl (by show va_rf ((sO s_j165 a0 45).map ad) = _; rw [e_15]; rfl) d_Mo_rowStep_217 ?_
                refine ugfN (v := .ref (yP y_j165 b_14 46)) G hP c_16 iMw rfl 46 (by decide) rfl q2792 rfl rfl d_Mo_rowStep_220 ?_
                refine lv_iload G.1 G.2.1 d_Mo_rowStep_223 (lv_at hl 5 rfl) ?_
                refine uiald G hP (kdp c_16 rfl) (typ c_16 rfl) h d_Mo_rowStep_225 (fun x_17 h => ?_)
                refine lv_iload G.1 G.2.1 d_Mo_rowStep_226 (lv_at hl 4 rfl) ?_
                refine lv_iadd G.1 G.2.1 d_Mo_rowStep_228 ?_
                refine uiald G hP (kdp c_16 rfl) (typ c_16 rfl) h d_Mo_rowStep_229 (fun x_18 h => ?_)
                exact J_230 y_j165 s_j165 d_j165 e_j165 x1j165 x1j165 x_18 H locs h hP hD hS ls (lv_sub hl [0, 1] rfl)
              · skip
                have h := h.2 c201
                refine lv_iload G.1 G.2.1 d_Mo_rowStep_204 (lv_at hl 6 rfl) ?_
                refine lv_goto (tgt := 230) G.1 G.2.1 d_Mo_rowStep_206 (by decide) ?_
                exact J_230 y_j165 s_j165 d_j165 e_j165 x1j165 x1j165 x6j165 H locs h hP hD hS ls (lv_sub hl [0, 1] rfl)
            · skip
              have h := h.2 c168
              refine lv_aload_n G.1 G.2.1 d_Mo_rowStep_171 rfl (lv_at hl 0 rfl) ?_
              obtain ⟨b_19, e_20, c_21, h⟩ := h
              refine ugf (v := .ref (ad b_19)) G hP h_a0 iMo rfl 45 (by decide) rfl q3109 rfl (by show va_rf ((sO s_j165 a0 45).map ad) = _; rw [e_20]; rfl) d_Mo_rowStep_172 ?_
              refine ugfN (v := .ref (yP y_j165 b_19 51)) G hP c_21 iMw rfl 51 (by decide) rfl q2801 rfl rfl d_Mo_rowStep_175 ?_
              refine lv_aload_n G.1 G.2.1 d_Mo_rowStep_178 rfl (lv_at hl 0 rfl) ?_
              refine ugf (v := .ref (ad b_19)) G hP h_a0 iMo rfl 45 (by decide) rfl q3109 rfl (by show va_rf ((sO s_j165 a0 45).map ad) = _; rw [e_20]; rfl) d_Mo_rowStep_179 ?_
              refine ugfN (v := .ref (yP y_j165 b_19 46)) G hP c_21 iMw rfl 46 (by decide) rfl q2792 rfl rfl d_Mo_rowStep_182 ?_
              refine lv_iload G.1 G.2.1 d_Mo_rowStep_185 (lv_at hl 5 rfl) ?_
              refine uiald G hP (kdp c_21 rfl) (typ c_21 rfl) h d_Mo_rowStep_187 (fun x_22 h => ?_)
              refine W.eq (g2 := F0 m 188 ls [.int x_22, .ref (yP y_j165 b_19 51)]) rfl ?_
              refine lv_iload G.1 G.2.1 d_Mo_rowStep_188 (lv_at hl 4 rfl) ?_
              refine lv_iadd G.1 G.2.1 d_Mo_rowStep_190 ?_
              refine lv_iload_n G.1 G.2.1 d_Mo_rowStep_191 rfl (lv_at hl 3 rfl) ?_
              refine uiast G hP hD hS (kdp c_21 rfl) (typ c_21 rfl) h d_Mo_rowStep_192 (fun s_23 H locs h hP hD hS => ?_)
              refine lv_goto (tgt := 234) G.1 G.2.1 d_Mo_rowStep_193 (by decide) ?_
              exact J_234 y_j165 s_23 d_j165 e_j165 x1j165 H locs h hP hD hS ls (lv_sub hl [0, 1] rfl)
          refine lv_icmp_eq (tgt := 165) G.1 G.2.1 d_Mo_rowStep_143 (by decide) (fun c143 => ?_) (fun c143 => ?_)
          · skip
            have h := h.1 c143
            exact J_165 y_j31 s_2 d_j31 e_j31 x1j31 x2j31 x3j31 z0j31 r_1 x_6 H locs h hP hD hS ls (lv_sub hl [3, 4, 5, 6, 2, 1, 0] rfl)
          · skip
            have h := h.2 c143
            refine lv_iload G.1 G.2.1 d_Mo_rowStep_146 (lv_at hl 2 rfl) ?_
            have J_158 : ∀ (y_j158 : Ly) (s_j158 : St) (d_j158 e_j158 : Nat) (H : Heap) (locs : List Loc), wja_Mo_rowStep_158 mc ms Post a0 y_j158 s_j158 d_j158 e_j158 → va_P D CL (ws g ad y_j158 s_j158) H → va_D A (ws g ad y_j158 s_j158) → va_S A s.heap H locs → ∀ ls, lv_has ls 7 [(0, .ref (ad a0))] → W p l e (ra_Mo_rowStep mc ms) s m args below meth c H locs d_j158 e_j158 Q (F0 m 158 ls []) := by
              intro y_j158 s_j158 d_j158 e_j158 H locs h hP hD hS ls hl
              unfold wja_Mo_rowStep_158 at h
              obtain ⟨hd, h⟩ := h
              refine lv_aload_n G.1 G.2.1 d_Mo_rowStep_158 rfl (lv_at hl 0 rfl) ?_
              refine lv_iconst (v := 0) G.1 G.2.1 d_Mo_rowStep_159 (by decide) ?_
              refine lv_iconst (v := 4) G.1 G.2.1 d_Mo_rowStep_160 (by decide) ?_
              obtain ⟨mc_29, ms_30, hr_31, h⟩ := h
              refine uaVv (As := [.int 0, .int 4]) (rest := []) G hP hD hS (ca_Mo_throwNew l D g ad mc_29 ms_30 y_j158 _ s_j158 a0 0 4 H.size (us H) h_a0 h) w9_Mo_throwNew q3883 ⟨Nat.le_of_ble_eq_true rfl, Nat.le_of_ble_eq_true rfl⟩ rfl rfl h_a0 (q := (RMo, TMo, 131)) rfl rfl hl.1 rfl (Nat.le_of_ble_eq_true rfl) rfl hr_31 d_Mo_rowStep_161 (fun y_26 s_25 d_27 e_28 H locs h hP hD hS => ?_)
              have hl := lv_sub (l' := []) hl [] rfl
              obtain ⟨hd, h⟩ := h
              exact hret (y_26, s_25, d_j158 + d_27, e_j158 + e_28) _ _ _ _ _ ls h hP hD hS (Nat.le_refl _) (Nat.le_refl _) hd.1 hd.2 d_Mo_rowStep_164
            refine lv_if_lt (tgt := 158) G.1 G.2.1 d_Mo_rowStep_148 (by decide) (fun c148 => ?_) (fun c148 => ?_)
            · skip
              have h := h.1 c148
              exact J_158 y_j31 s_2 d_j31 e_j31 H locs h hP hD hS ls (lv_sub hl [3] rfl)
            · skip
              have h := h.2 c148
              refine lv_iload G.1 G.2.1 d_Mo_rowStep_151 (lv_at hl 2 rfl) ?_
              refine lv_iload G.1 G.2.1 d_Mo_rowStep_153 (lv_at hl 0 rfl) ?_
              refine W.eq (g2 := F0 m 155 ls [.int x_6, .int z0j31]) rfl ?_
              refine lv_icmp_lt (tgt := 165) G.1 G.2.1 d_Mo_rowStep_155 (by decide) (fun c155 => ?_) (fun c155 => ?_)
              · skip
                have h := h.1 c155
                exact J_165 y_j31 s_2 d_j31 e_j31 x1j31 x2j31 x3j31 z0j31 r_1 x_6 H locs h hP hD hS ls (lv_sub hl [3, 4, 5, 6, 2, 1, 0] rfl)
              · skip
                have h := h.2 c155
                exact J_158 y_j31 s_2 d_j31 e_j31 H locs h hP hD hS ls (lv_sub hl [3] rfl)
        · skip
          have h := h.2 c118
          refine lv_aload_n G.1 G.2.1 d_Mo_rowStep_121 rfl (lv_at hl 2 rfl) ?_
          refine W.eq (g2 := F0 m 122 ls [.ref (ad a0)]) rfl ?_
          refine lv_iconst (v := 0) G.1 G.2.1 d_Mo_rowStep_122 (by decide) ?_
          refine lv_iconst (v := 2) G.1 G.2.1 d_Mo_rowStep_123 (by decide) ?_
          obtain ⟨mc_37, ms_38, hr_39, h⟩ := h
          refine uaVv (As := [.int 0, .int 2]) (rest := []) G hP hD hS (ca_Mo_throwNew l D g ad mc_37 ms_38 y_j31 _ s_2 a0 0 2 H.size (us H) h_a0 h) w9_Mo_throwNew q3883 ⟨Nat.le_of_ble_eq_true rfl, Nat.le_of_ble_eq_true rfl⟩ rfl rfl h_a0 (q := (RMo, TMo, 131)) rfl rfl hl.1 rfl (Nat.le_of_ble_eq_true rfl) rfl hr_39 d_Mo_rowStep_124 (fun y_34 s_33 d_35 e_36 H locs h hP hD hS => ?_)
          have hl := lv_sub (l' := []) hl [] rfl
          obtain ⟨hd, h⟩ := h
          exact hret (y_34, s_33, d_j31 + d_35, e_j31 + e_36) _ _ _ _ _ ls h hP hD hS (Nat.le_refl _) (Nat.le_refl _) hd.1 hd.2 d_Mo_rowStep_127
      · skip
        have h := h.2 c36
        refine lv_iload G.1 G.2.1 d_Mo_rowStep_39 (lv_at hl 0 rfl) ?_
        have J_63 : ∀ (y_j63 : Ly) (s_j63 : St) (d_j63 e_j63 : Nat) (x1j63 : Int32) (x4j63 : Int32) (z0j63 : Int32) (H : Heap) (locs : List Loc), wja_Mo_rowStep_63 mc ms Post a0 y_j63 s_j63 d_j63 e_j63 x1j63 x4j63 z0j63 → va_P D CL (ws g ad y_j63 s_j63) H → va_D A (ws g ad y_j63 s_j63) → va_S A s.heap H locs → ∀ ls, lv_has ls 7 [(0, .ref (ad a0)), (1, .int x1j63), (4, .int x4j63)] → W p l e (ra_Mo_rowStep mc ms) s m args below meth c H locs d_j63 e_j63 Q (F0 m 63 ls [.int z0j63]) := by
          intro y_j63 s_j63 d_j63 e_j63 x1j63 x4j63 z0j63 H locs h hP hD hS ls hl
          unfold wja_Mo_rowStep_63 at h
          obtain ⟨hd, h⟩ := h
          refine lv_istore (lv' := [(5, .int z0j63), (0, .ref (ad a0)), (1, .int x1j63), (4, .int x4j63)]) G.1 G.2.1 d_Mo_rowStep_63 hl (by decide) rfl (fun ls hl => ?_)
          refine lv_iload G.1 G.2.1 d_Mo_rowStep_65 (lv_at hl 0 rfl) ?_
          refine lv_if_ge (tgt := 87) G.1 G.2.1 d_Mo_rowStep_67 (by decide) (fun c67 => ?_) (fun c67 => ?_)
          · skip
            have h := h.1 c67
            refine lv_aload_n G.1 G.2.1 d_Mo_rowStep_87 rfl (lv_at hl 1 rfl) ?_
            refine lv_iload_n G.1 G.2.1 d_Mo_rowStep_88 rfl (lv_at hl 2 rfl) ?_
            refine lv_iload G.1 G.2.1 d_Mo_rowStep_89 (lv_at hl 0 rfl) ?_
            refine lv_iconst (v := 1) G.1 G.2.1 d_Mo_rowStep_91 (by decide) ?_
            refine ucVv (As := [.int x1j63, .int z0j63, .int 1]) (rest := []) G hP hD hS (cu_Mo_push l D g ad y_j63 _ s_j63 a0 x1j63 z0j63 1 H.size h_a0 h) w9_Mo_push q3907 ⟨Nat.le_of_ble_eq_true rfl, Nat.le_of_ble_eq_true rfl⟩ rfl rfl h_a0 (q := (RMo, TMo, 131)) rfl rfl hl.1 rfl (Nat.le_of_ble_eq_true rfl) rfl hd d_Mo_rowStep_92 (fun s_41 H locs h hP hD hS => ?_)
            refine lv_aload_n G.1 G.2.1 d_Mo_rowStep_95 rfl (lv_at hl 1 rfl) ?_
            obtain ⟨b_42, e_43, c_44, h⟩ := h
            refine ugf (v := .ref (ad b_42)) G hP h_a0 iMo rfl 46 (by decide) rfl q3110 rfl (by show va_rf ((sO s_41 a0 46).map ad) = _; rw [e_43]; rfl) d_Mo_rowStep_96 ?_
            refine ugfN (v := .ref (yP y_j63 b_42 18)) G hP c_44 iMr rfl 18 (by decide) rfl q3009 rfl rfl d_Mo_rowStep_99 ?_
            refine W.eq (g2 := F0 m 102 ls [.ref (yP y_j63 b_42 18)]) rfl ?_
            refine lv_iload_n G.1 G.2.1 d_Mo_rowStep_102 rfl (lv_at hl 2 rfl) ?_
            refine lv_dup2_11 G.1 G.2.1 d_Mo_rowStep_103 rfl rfl ?_
            refine uiald G hP (kdp c_44 rfl) (typ c_44 rfl) h d_Mo_rowStep_104 (fun x_45 h => ?_)
            refine lv_iconst (v := 1) G.1 G.2.1 d_Mo_rowStep_105 (by decide) ?_
            refine lv_iadd G.1 G.2.1 d_Mo_rowStep_106 ?_
            refine uiast G hP hD hS (kdp c_44 rfl) (typ c_44 rfl) h d_Mo_rowStep_107 (fun s_46 H locs h hP hD hS => ?_)
            exact hret (y_j63, s_46, d_j63, e_j63) _ _ _ _ _ ls h hP hD hS (Nat.le_refl _) (Nat.le_refl _) hd.1 hd.2 d_Mo_rowStep_108
          · skip
            have h := h.2 c67
            refine lv_aload_n G.1 G.2.1 d_Mo_rowStep_70 rfl (lv_at hl 1 rfl) ?_
            refine lv_iconst (v := 0) G.1 G.2.1 d_Mo_rowStep_71 (by decide) ?_
            refine lv_iload G.1 G.2.1 d_Mo_rowStep_72 (lv_at hl 3 rfl) ?_
            have J_83 : ∀ (y_j83 : Ly) (s_j83 : St) (d_j83 e_j83 : Nat) (z1j83 : Int32) (z2j83 : Int32) (H : Heap) (locs : List Loc), wja_Mo_rowStep_83 mc ms Post a0 y_j83 s_j83 d_j83 e_j83 z1j83 z2j83 → va_P D CL (ws g ad y_j83 s_j83) H → va_D A (ws g ad y_j83 s_j83) → va_S A s.heap H locs → ∀ ls, lv_has ls 7 [] → W p l e (ra_Mo_rowStep mc ms) s m args below meth c H locs d_j83 e_j83 Q (F0 m 83 ls [.int z2j83, .int z1j83, .ref (ad a0)]) := by
              intro y_j83 s_j83 d_j83 e_j83 z1j83 z2j83 H locs h hP hD hS ls hl
              unfold wja_Mo_rowStep_83 at h
              obtain ⟨hd, h⟩ := h
              obtain ⟨mc_52, ms_53, hr_54, h⟩ := h
              refine uaVv (As := [.int z1j83, .int z2j83]) (rest := []) G hP hD hS (ca_Mo_throwNew l D g ad mc_52 ms_53 y_j83 _ s_j83 a0 z1j83 z2j83 H.size (us H) h_a0 h) w9_Mo_throwNew q3883 ⟨Nat.le_of_ble_eq_true rfl, Nat.le_of_ble_eq_true rfl⟩ rfl rfl h_a0 (q := (RMo, TMo, 131)) rfl rfl hl.1 rfl (Nat.le_of_ble_eq_true rfl) rfl hr_54 d_Mo_rowStep_83 (fun y_49 s_48 d_50 e_51 H locs h hP hD hS => ?_)
              obtain ⟨hd, h⟩ := h
              exact hret (y_49, s_48, d_j83 + d_50, e_j83 + e_51) _ _ _ _ _ ls h hP hD hS (Nat.le_refl _) (Nat.le_refl _) hd.1 hd.2 d_Mo_rowStep_86
            refine lv_if_ge (tgt := 81) G.1 G.2.1 d_Mo_rowStep_74 (by decide) (fun c74 => ?_) (fun c74 => ?_)
            · skip
              have h := h.1 c74
              refine lv_bipush (v := 9) G.1 G.2.1 d_Mo_rowStep_81 (by decide) ?_
              exact J_83 y_j63 s_j63 d_j63 e_j63 0 9 H locs h hP hD hS ls (lv_sub hl [] rfl)
            · skip
              have h := h.2 c74
              refine lv_iconst (v := 5) G.1 G.2.1 d_Mo_rowStep_77 (by decide) ?_
              refine lv_goto (tgt := 83) G.1 G.2.1 d_Mo_rowStep_78 (by decide) ?_
              exact J_83 y_j63 s_j63 d_j63 e_j63 0 5 H locs h hP hD hS ls (lv_sub hl [] rfl)
        have J_52 : ∀ (y_j52 : Ly) (s_j52 : St) (d_j52 e_j52 : Nat) (x1j52 : Int32) (x4j52 : Int32) (H : Heap) (locs : List Loc), wja_Mo_rowStep_52 mc ms Post a0 y_j52 s_j52 d_j52 e_j52 x1j52 x4j52 → va_P D CL (ws g ad y_j52 s_j52) H → va_D A (ws g ad y_j52 s_j52) → va_S A s.heap H locs → ∀ ls, lv_has ls 7 [(0, .ref (ad a0)), (1, .int x1j52), (4, .int x4j52)] → W p l e (ra_Mo_rowStep mc ms) s m args below meth c H locs d_j52 e_j52 Q (F0 m 52 ls []) := by
          intro y_j52 s_j52 d_j52 e_j52 x1j52 x4j52 H locs h hP hD hS ls hl
          unfold wja_Mo_rowStep_52 at h
          obtain ⟨hd, h⟩ := h
          refine lv_iconst (v := (-1)) G.1 G.2.1 d_Mo_rowStep_52 (by decide) ?_
          refine lv_goto (tgt := 63) G.1 G.2.1 d_Mo_rowStep_53 (by decide) ?_
          exact J_63 y_j52 s_j52 d_j52 e_j52 x1j52 x4j52 (-1) H locs h hP hD hS ls (lv_sub hl [0, 1, 2] rfl)
        refine lv_if_lt (tgt := 52) G.1 G.2.1 d_Mo_rowStep_41 (by decide) (fun c41 => ?_) (fun c41 => ?_)
        · skip
          have h := h.1 c41
          exact J_52 y_j31 s_j31 d_j31 e_j31 x1j31 z0j31 H locs h hP hD hS ls (lv_sub hl [1, 2, 0] rfl)
        · skip
          have h := h.2 c41
          refine lv_iload G.1 G.2.1 d_Mo_rowStep_44 (lv_at hl 0 rfl) ?_
          refine lv_sipush (v := 300) G.1 G.2.1 d_Mo_rowStep_46 (by decide) ?_
          refine lv_icmp_le (tgt := 56) G.1 G.2.1 d_Mo_rowStep_49 (by decide) (fun c49 => ?_) (fun c49 => ?_)
          · skip
            have h := h.1 c49
            refine lv_aload_n G.1 G.2.1 d_Mo_rowStep_56 rfl (lv_at hl 1 rfl) ?_
            refine lv_iconst (v := (-1)) G.1 G.2.1 d_Mo_rowStep_57 (by decide) ?_
            refine W.eq (g2 := F0 m 58 ls [.int (-1), .ref (ad a0)]) rfl ?_
            refine lv_iload G.1 G.2.1 d_Mo_rowStep_58 (lv_at hl 0 rfl) ?_
            refine ucVi (As := [.int (-1), .int z0j31]) (rest := []) G hP hD hS (cu_Mo_newThing l D g ad y_j31 _ s_j31 a0 (-1) z0j31 H.size h_a0 h) w9_Mo_newThing q3975 ⟨Nat.le_of_ble_eq_true rfl, Nat.le_of_ble_eq_true rfl⟩ rfl rfl h_a0 (q := (RMo, TMo, 131)) rfl rfl hl.1 rfl (Nat.le_of_ble_eq_true rfl) rfl hd d_Mo_rowStep_60 (fun r_55 s_56 H locs h hP hD hS => ?_)
            exact J_63 y_j31 s_56 d_j31 e_j31 x1j31 z0j31 r_55 H locs h hP hD hS ls (lv_sub hl [1, 2, 0] rfl)
          · skip
            have h := h.2 c49
            exact J_52 y_j31 s_j31 d_j31 e_j31 x1j31 z0j31 H locs h hP hD hS ls (lv_sub hl [1, 2, 0] rfl)
    refine lv_icmp_ne (tgt := 26) G.1 G.2.1 d_Mo_rowStep_19 (by decide) (fun c19 => ?_) (fun c19 => ?_)
    · skip
      have h := h.1 c19
      refine lv_aload_n G.1 G.2.1 d_Mo_rowStep_26 rfl (lv_at hl 1 rfl) ?_
      refine lv_iload_n G.1 G.2.1 d_Mo_rowStep_27 rfl (lv_at hl 2 rfl) ?_
      refine ucVi (As := [.int x1j15]) (rest := []) G hP hD hS (cu_Mo_pop l D g ad y_j15 _ s_j15 a0 x1j15 H.size h_a0 h) w9_Mo_pop q3947 ⟨Nat.le_of_ble_eq_true rfl, Nat.le_of_ble_eq_true rfl⟩ rfl rfl h_a0 (q := (RMo, TMo, 131)) rfl rfl hl.1 rfl (Nat.le_of_ble_eq_true rfl) rfl hd d_Mo_rowStep_28 (fun r_57 s_58 H locs h hP hD hS => ?_)
      exact J_31 y_j15 s_58 d_j15 e_j15 x1j15 x2j15 z0j15 r_57 H locs h hP hD hS ls (lv_sub hl [1, 2, 3, 0] rfl)
    · skip
      have h := h.2 c19
      refine lv_iconst (v := 0) G.1 G.2.1 d_Mo_rowStep_22 (by decide) ?_
      refine lv_goto (tgt := 31) G.1 G.2.1 d_Mo_rowStep_23 (by decide) ?_
      exact J_31 y_j15 s_j15 d_j15 e_j15 x1j15 x2j15 z0j15 0 H locs h hP hD hS ls (lv_sub hl [1, 2, 3, 0] rfl)
  refine lv_icmp_ne (tgt := 14) G.1 G.2.1 d_Mo_rowStep_3 (by decide) (fun c3 => ?_) (fun c3 => ?_)
  · skip
    have h := h.1 c3
    refine lv_iconst (v := 0) G.1 G.2.1 d_Mo_rowStep_14 (by decide) ?_
    exact J_15 y σ 0 0 v1 v2 0 H locs h hP hD hS ls (lv_sub hl [0, 1, 2] rfl)
  · skip
    have h := h.2 c3
    refine lv_aload_n G.1 G.2.1 d_Mo_rowStep_6 rfl (lv_at hl 0 rfl) ?_
    refine lv_iload_n G.1 G.2.1 d_Mo_rowStep_7 rfl (lv_at hl 1 rfl) ?_
    refine ucVi (As := [.int v1]) (rest := []) G hP hD hS (cu_Mo_pop l D g ad y _ σ a0 v1 H.size h_a0 h) w9_Mo_pop q3947 ⟨Nat.le_of_ble_eq_true rfl, Nat.le_of_ble_eq_true rfl⟩ rfl rfl h_a0 (q := (RMo, TMo, 131)) rfl rfl hl.1 rfl (Nat.le_of_ble_eq_true rfl) rfl hd d_Mo_rowStep_8 (fun r_59 s_60 H locs h hP hD hS => ?_)
    refine lv_goto (tgt := 15) G.1 G.2.1 d_Mo_rowStep_11 (by decide) ?_
    exact J_15 y s_60 0 0 v1 v2 r_59 H locs h hP hD hS ls (lv_sub hl [0, 1, 2] rfl)
theorem q3979 : Cond.methodLink "ClassWorksModel" 1045 y_Mo_classStep ∈ lw_ok := lw_okmem (List.mem_of_getElem? (i := 3979) (by decide +kernel)) rfl
theorem q3982 : Cond.code y_Mo_classStep b_Mo_classStep 8 (some .int) ∈ lw_ok := lw_okmem (List.mem_of_getElem? (i := 3982) (by decide +kernel)) rfl
theorem q3981 : Cond.instanceMethod y_Mo_classStep ∈ lw_ok := lw_okmem (List.mem_of_getElem? (i := 3981) (by decide +kernel)) rfl
theorem q284 : Cond.selects y_Mo_classStep.cls y_Mo_classStep y_Mo_classStep ∈ lw_ok := lw_okmem (List.mem_of_getElem? (i := 284) (by decide +kernel)) rfl
theorem w9_Mo_classStep : CWv y_Mo_classStep b_Mo_classStep 8 (some .int) 3 ∧ Cond.instanceMethod y_Mo_classStep ∈ lw_ok ∧ Cond.selects y_Mo_classStep.cls y_Mo_classStep y_Mo_classStep ∈ lw_ok := ⟨⟨q3982, q348, by decide +kernel, by decide +kernel, by decide +kernel⟩, q3981, q284⟩
theorem q3983 : Cond.methodLink "ClassWorksModel" 1048 y_Mo_lockStep ∈ lw_ok := lw_okmem (List.mem_of_getElem? (i := 3983) (by decide +kernel)) rfl
theorem q3986 : Cond.code y_Mo_lockStep b_Mo_lockStep 5 (some .int) ∈ lw_ok := lw_okmem (List.mem_of_getElem? (i := 3986) (by decide +kernel)) rfl
theorem q3985 : Cond.instanceMethod y_Mo_lockStep ∈ lw_ok := lw_okmem (List.mem_of_getElem? (i := 3985) (by decide +kernel)) rfl
theorem q285 : Cond.selects y_Mo_lockStep.cls y_Mo_lockStep y_Mo_lockStep ∈ lw_ok := lw_okmem (List.mem_of_getElem? (i := 285) (by decide +kernel)) rfl
theorem w9_Mo_lockStep : CWv y_Mo_lockStep b_Mo_lockStep 5 (some .int) 2 ∧ Cond.instanceMethod y_Mo_lockStep ∈ lw_ok ∧ Cond.selects y_Mo_lockStep.cls y_Mo_lockStep y_Mo_lockStep ∈ lw_ok := ⟨⟨q3986, q348, by decide +kernel, by decide +kernel, by decide +kernel⟩, q3985, q285⟩
theorem q3999 : Cond.methodLink "ClassWorksModel" 1060 y_Mo_turnStep ∈ lw_ok := lw_okmem (List.mem_of_getElem? (i := 3999) (by decide +kernel)) rfl
theorem q4002 : Cond.code y_Mo_turnStep b_Mo_turnStep 7 (none) ∈ lw_ok := lw_okmem (List.mem_of_getElem? (i := 4002) (by decide +kernel)) rfl
theorem q4001 : Cond.instanceMethod y_Mo_turnStep ∈ lw_ok := lw_okmem (List.mem_of_getElem? (i := 4001) (by decide +kernel)) rfl
theorem q289 : Cond.selects y_Mo_turnStep.cls y_Mo_turnStep y_Mo_turnStep ∈ lw_ok := lw_okmem (List.mem_of_getElem? (i := 289) (by decide +kernel)) rfl
theorem w9_Mo_turnStep : CWv y_Mo_turnStep b_Mo_turnStep 7 (none) 2 ∧ Cond.instanceMethod y_Mo_turnStep ∈ lw_ok ∧ Cond.selects y_Mo_turnStep.cls y_Mo_turnStep y_Mo_turnStep ∈ lw_ok := ⟨⟨q4002, q348, by decide +kernel, by decide +kernel, by decide +kernel⟩, q4001, q289⟩
theorem q4007 : Cond.methodLink "ClassWorksModel" 1063 y_Mo_rowStep ∈ lw_ok := lw_okmem (List.mem_of_getElem? (i := 4007) (by decide +kernel)) rfl
theorem q4010 : Cond.code y_Mo_rowStep b_Mo_rowStep 7 (none) ∈ lw_ok := lw_okmem (List.mem_of_getElem? (i := 4010) (by decide +kernel)) rfl
theorem q4009 : Cond.instanceMethod y_Mo_rowStep ∈ lw_ok := lw_okmem (List.mem_of_getElem? (i := 4009) (by decide +kernel)) rfl
theorem q291 : Cond.selects y_Mo_rowStep.cls y_Mo_rowStep y_Mo_rowStep ∈ lw_ok := lw_okmem (List.mem_of_getElem? (i := 291) (by decide +kernel)) rfl
theorem w9_Mo_rowStep : CWv y_Mo_rowStep b_Mo_rowStep 7 (none) 2 ∧ Cond.instanceMethod y_Mo_rowStep ∈ lw_ok ∧ Cond.selects y_Mo_rowStep.cls y_Mo_rowStep y_Mo_rowStep ∈ lw_ok := ⟨⟨q4010, q348, by decide +kernel, by decide +kernel, by decide +kernel⟩, q4009, q291⟩
theorem q4011 : Cond.methodLink "ClassWorksModel" 1066 y_Mo_endFrame ∈ lw_ok := lw_okmem (List.mem_of_getElem? (i := 4011) (by decide +kernel)) rfl
theorem q4014 : Cond.code y_Mo_endFrame b_Mo_endFrame 6 (none) ∈ lw_ok := lw_okmem (List.mem_of_getElem? (i := 4014) (by decide +kernel)) rfl
theorem q4013 : Cond.instanceMethod y_Mo_endFrame ∈ lw_ok := lw_okmem (List.mem_of_getElem? (i := 4013) (by decide +kernel)) rfl
theorem q292 : Cond.selects y_Mo_endFrame.cls y_Mo_endFrame y_Mo_endFrame ∈ lw_ok := lw_okmem (List.mem_of_getElem? (i := 292) (by decide +kernel)) rfl
theorem w9_Mo_endFrame : CWv y_Mo_endFrame b_Mo_endFrame 6 (none) 3 ∧ Cond.instanceMethod y_Mo_endFrame ∈ lw_ok ∧ Cond.selects y_Mo_endFrame.cls y_Mo_endFrame y_Mo_endFrame ∈ lw_ok := ⟨⟨q4014, q348, by decide +kernel, by decide +kernel, by decide +kernel⟩, q4013, q292⟩
theorem q3995 : Cond.methodLink "ClassWorksModel" 1054 y_Mo_reckon ∈ lw_ok := lw_okmem (List.mem_of_getElem? (i := 3995) (by decide +kernel)) rfl
theorem q3998 : Cond.code y_Mo_reckon b_Mo_reckon 6 (none) ∈ lw_ok := lw_okmem (List.mem_of_getElem? (i := 3998) (by decide +kernel)) rfl
theorem q3997 : Cond.instanceMethod y_Mo_reckon ∈ lw_ok := lw_okmem (List.mem_of_getElem? (i := 3997) (by decide +kernel)) rfl
theorem q288 : Cond.selects y_Mo_reckon.cls y_Mo_reckon y_Mo_reckon ∈ lw_ok := lw_okmem (List.mem_of_getElem? (i := 288) (by decide +kernel)) rfl
theorem w9_Mo_reckon : CWv y_Mo_reckon b_Mo_reckon 6 (none) 2 ∧ Cond.instanceMethod y_Mo_reckon ∈ lw_ok ∧ Cond.selects y_Mo_reckon.cls y_Mo_reckon y_Mo_reckon ∈ lw_ok := ⟨⟨q3998, q348, by decide +kernel, by decide +kernel, by decide +kernel⟩, q3997, q288⟩
theorem q3991 : Cond.methodLink "ClassWorksModel" 1051 y_Mo_goStep ∈ lw_ok := lw_okmem (List.mem_of_getElem? (i := 3991) (by decide +kernel)) rfl
theorem q3994 : Cond.code y_Mo_goStep b_Mo_goStep 7 (none) ∈ lw_ok := lw_okmem (List.mem_of_getElem? (i := 3994) (by decide +kernel)) rfl
theorem q3993 : Cond.instanceMethod y_Mo_goStep ∈ lw_ok := lw_okmem (List.mem_of_getElem? (i := 3993) (by decide +kernel)) rfl
theorem q287 : Cond.selects y_Mo_goStep.cls y_Mo_goStep y_Mo_goStep ∈ lw_ok := lw_okmem (List.mem_of_getElem? (i := 287) (by decide +kernel)) rfl
theorem w9_Mo_goStep : CWv y_Mo_goStep b_Mo_goStep 7 (none) 3 ∧ Cond.instanceMethod y_Mo_goStep ∈ lw_ok ∧ Cond.selects y_Mo_goStep.cls y_Mo_goStep y_Mo_goStep ∈ lw_ok := ⟨⟨q3994, q348, by decide +kernel, by decide +kernel, by decide +kernel⟩, q3993, q287⟩
theorem q3971 : Cond.methodLink "ClassWorksModel" 1042 y_Mo_newStep ∈ lw_ok := lw_okmem (List.mem_of_getElem? (i := 3971) (by decide +kernel)) rfl
theorem q3974 : Cond.code y_Mo_newStep b_Mo_newStep 6 (some .int) ∈ lw_ok := lw_okmem (List.mem_of_getElem? (i := 3974) (by decide +kernel)) rfl
theorem q3973 : Cond.instanceMethod y_Mo_newStep ∈ lw_ok := lw_okmem (List.mem_of_getElem? (i := 3973) (by decide +kernel)) rfl
theorem q282 : Cond.selects y_Mo_newStep.cls y_Mo_newStep y_Mo_newStep ∈ lw_ok := lw_okmem (List.mem_of_getElem? (i := 282) (by decide +kernel)) rfl
theorem w9_Mo_newStep : CWv y_Mo_newStep b_Mo_newStep 6 (some .int) 2 ∧ Cond.instanceMethod y_Mo_newStep ∈ lw_ok ∧ Cond.selects y_Mo_newStep.cls y_Mo_newStep y_Mo_newStep ∈ lw_ok := ⟨⟨q3974, q348, by decide +kernel, by decide +kernel, by decide +kernel⟩, q3973, q282⟩
theorem q3963 : Cond.methodLink "ClassWorksModel" 1039 y_Mo_callStep ∈ lw_ok := lw_okmem (List.mem_of_getElem? (i := 3963) (by decide +kernel)) rfl
set_option maxRecDepth 100000 in
theorem q3966 : Cond.code y_Mo_callStep b_Mo_callStep 13 (some .int) ∈ lw_ok := lw_okmem (List.mem_of_getElem? (i := 3966) (by rfl)) rfl
theorem q3965 : Cond.instanceMethod y_Mo_callStep ∈ lw_ok := lw_okmem (List.mem_of_getElem? (i := 3965) (by decide +kernel)) rfl
theorem q280 : Cond.selects y_Mo_callStep.cls y_Mo_callStep y_Mo_callStep ∈ lw_ok := lw_okmem (List.mem_of_getElem? (i := 280) (by decide +kernel)) rfl
theorem w9_Mo_callStep : CWv y_Mo_callStep b_Mo_callStep 13 (some .int) 4 ∧ Cond.instanceMethod y_Mo_callStep ∈ lw_ok ∧ Cond.selects y_Mo_callStep.cls y_Mo_callStep y_Mo_callStep ∈ lw_ok := ⟨⟨q3966, q348, by decide +kernel, by decide +kernel, by decide +kernel⟩, q3965, q280⟩
theorem q3927 : Cond.methodLink "ClassWorksModel" 1035 y_Mo_fieldStep ∈ lw_ok := lw_okmem (List.mem_of_getElem? (i := 3927) (by decide +kernel)) rfl
theorem q3930 : Cond.code y_Mo_fieldStep b_Mo_fieldStep 10 (some .int) ∈ lw_ok := lw_okmem (List.mem_of_getElem? (i := 3930) (by decide +kernel)) rfl
theorem q3929 : Cond.instanceMethod y_Mo_fieldStep ∈ lw_ok := lw_okmem (List.mem_of_getElem? (i := 3929) (by decide +kernel)) rfl
theorem q271 : Cond.selects y_Mo_fieldStep.cls y_Mo_fieldStep y_Mo_fieldStep ∈ lw_ok := lw_okmem (List.mem_of_getElem? (i := 271) (by decide +kernel)) rfl
theorem w9_Mo_fieldStep : CWv y_Mo_fieldStep b_Mo_fieldStep 10 (some .int) 4 ∧ Cond.instanceMethod y_Mo_fieldStep ∈ lw_ok ∧ Cond.selects y_Mo_fieldStep.cls y_Mo_fieldStep y_Mo_fieldStep ∈ lw_ok := ⟨⟨q3930, q348, by decide +kernel, by decide +kernel, by decide +kernel⟩, q3929, q271⟩
def y_Mo_instruction : MethodName := ⟨"ClassWorksModel", "instruction", "()I"⟩
abbrev b_Mo_instruction : ByteArray := prog_14_method_108_code
theorem d_Mo_instruction_0 : decode b_Mo_instruction 0 = .ok (.aload_n 0, 1) := by decide +kernel
theorem d_Mo_instruction_1 : decode b_Mo_instruction 1 = .ok (.getfield 917, 3) := by decide +kernel
theorem d_Mo_instruction_4 : decode b_Mo_instruction 4 = .ok (.getfield 942, 3) := by decide +kernel
theorem d_Mo_instruction_7 : decode b_Mo_instruction 7 = .ok (.aload_n 0, 1) := by decide +kernel
theorem d_Mo_instruction_8 : decode b_Mo_instruction 8 = .ok (.getfield 917, 3) := by decide +kernel
theorem d_Mo_instruction_11 : decode b_Mo_instruction 11 = .ok (.getfield 945, 3) := by decide +kernel
theorem d_Mo_instruction_14 : decode b_Mo_instruction 14 = .ok (.iconst 1, 1) := by decide +kernel
theorem d_Mo_instruction_15 : decode b_Mo_instruction 15 = .ok (.isub, 1) := by decide +kernel
theorem d_Mo_instruction_16 : decode b_Mo_instruction 16 = .ok (.iaload, 1) := by decide +kernel
theorem d_Mo_instruction_17 : decode b_Mo_instruction 17 = .ok (.istore_n 1, 1) := by decide +kernel
theorem d_Mo_instruction_18 : decode b_Mo_instruction 18 = .ok (.aload_n 0, 1) := by decide +kernel
theorem d_Mo_instruction_19 : decode b_Mo_instruction 19 = .ok (.getfield 917, 3) := by decide +kernel
theorem d_Mo_instruction_22 : decode b_Mo_instruction 22 = .ok (.getfield 927, 3) := by decide +kernel
theorem d_Mo_instruction_25 : decode b_Mo_instruction 25 = .ok (.iload_n 1, 1) := by decide +kernel
theorem d_Mo_instruction_26 : decode b_Mo_instruction 26 = .ok (.iaload, 1) := by decide +kernel
theorem d_Mo_instruction_27 : decode b_Mo_instruction 27 = .ok (.istore_n 2, 1) := by decide +kernel
theorem d_Mo_instruction_28 : decode b_Mo_instruction 28 = .ok (.aload_n 0, 1) := by decide +kernel
theorem d_Mo_instruction_29 : decode b_Mo_instruction 29 = .ok (.getfield 522, 3) := by decide +kernel
theorem d_Mo_instruction_32 : decode b_Mo_instruction 32 = .ok (.getfield 462, 3) := by decide +kernel
theorem d_Mo_instruction_35 : decode b_Mo_instruction 35 = .ok (.iload_n 2, 1) := by decide +kernel
theorem d_Mo_instruction_36 : decode b_Mo_instruction 36 = .ok (.iaload, 1) := by decide +kernel
theorem d_Mo_instruction_37 : decode b_Mo_instruction 37 = .ok (.aload_n 0, 1) := by decide +kernel
theorem d_Mo_instruction_38 : decode b_Mo_instruction 38 = .ok (.getfield 917, 3) := by decide +kernel
theorem d_Mo_instruction_41 : decode b_Mo_instruction 41 = .ok (.getfield 930, 3) := by decide +kernel
theorem d_Mo_instruction_44 : decode b_Mo_instruction 44 = .ok (.iload_n 1, 1) := by decide +kernel
theorem d_Mo_instruction_45 : decode b_Mo_instruction 45 = .ok (.iaload, 1) := by decide +kernel
theorem d_Mo_instruction_46 : decode b_Mo_instruction 46 = .ok (.iadd, 1) := by decide +kernel
theorem d_Mo_instruction_47 : decode b_Mo_instruction 47 = .ok (.istore_n 3, 1) := by decide +kernel
theorem d_Mo_instruction_48 : decode b_Mo_instruction 48 = .ok (.aload_n 0, 1) := by decide +kernel
theorem d_Mo_instruction_49 : decode b_Mo_instruction 49 = .ok (.getfield 522, 3) := by decide +kernel
theorem d_Mo_instruction_52 : decode b_Mo_instruction 52 = .ok (.getfield 674, 3) := by decide +kernel
theorem d_Mo_instruction_55 : decode b_Mo_instruction 55 = .ok (.iload_n 3, 1) := by decide +kernel
theorem d_Mo_instruction_56 : decode b_Mo_instruction 56 = .ok (.baload, 1) := by decide +kernel
theorem d_Mo_instruction_57 : decode b_Mo_instruction 57 = .ok (.istore 4, 2) := by decide +kernel
theorem d_Mo_instruction_59 : decode b_Mo_instruction 59 = .ok (.iload 4, 2) := by decide +kernel
theorem d_Mo_instruction_61 : decode b_Mo_instruction 61 = .ok (.bipush 46, 2) := by decide +kernel
theorem d_Mo_instruction_63 : decode b_Mo_instruction 63 = .ok (.if_icmp .lt 20, 3) := by decide +kernel
theorem d_Mo_instruction_66 : decode b_Mo_instruction 66 = .ok (.iload 4, 2) := by decide +kernel
theorem d_Mo_instruction_68 : decode b_Mo_instruction 68 = .ok (.bipush 49, 2) := by decide +kernel
theorem d_Mo_instruction_70 : decode b_Mo_instruction 70 = .ok (.if_icmp .gt 13, 3) := by decide +kernel
theorem d_Mo_instruction_73 : decode b_Mo_instruction 73 = .ok (.aload_n 0, 1) := by decide +kernel
theorem d_Mo_instruction_74 : decode b_Mo_instruction 74 = .ok (.iload_n 1, 1) := by decide +kernel
theorem d_Mo_instruction_75 : decode b_Mo_instruction 75 = .ok (.iload_n 2, 1) := by decide +kernel
theorem d_Mo_instruction_76 : decode b_Mo_instruction 76 = .ok (.iload_n 3, 1) := by decide +kernel
theorem d_Mo_instruction_77 : decode b_Mo_instruction 77 = .ok (.iload 4, 2) := by decide +kernel
theorem d_Mo_instruction_79 : decode b_Mo_instruction 79 = .ok (.invokevirtual 1035, 3) := by decide +kernel
theorem d_Mo_instruction_82 : decode b_Mo_instruction 82 = .ok (.ireturn, 1) := by decide +kernel
theorem d_Mo_instruction_83 : decode b_Mo_instruction 83 = .ok (.iload 4, 2) := by decide +kernel
theorem d_Mo_instruction_85 : decode b_Mo_instruction 85 = .ok (.bipush 50, 2) := by decide +kernel
theorem d_Mo_instruction_87 : decode b_Mo_instruction 87 = .ok (.if_icmp .lt 20, 3) := by decide +kernel
theorem d_Mo_instruction_90 : decode b_Mo_instruction 90 = .ok (.iload 4, 2) := by decide +kernel
theorem d_Mo_instruction_92 : decode b_Mo_instruction 92 = .ok (.bipush 53, 2) := by decide +kernel
theorem d_Mo_instruction_94 : decode b_Mo_instruction 94 = .ok (.if_icmp .gt 13, 3) := by decide +kernel
theorem d_Mo_instruction_97 : decode b_Mo_instruction 97 = .ok (.aload_n 0, 1) := by decide +kernel
theorem d_Mo_instruction_98 : decode b_Mo_instruction 98 = .ok (.iload_n 1, 1) := by decide +kernel
theorem d_Mo_instruction_99 : decode b_Mo_instruction 99 = .ok (.iload_n 2, 1) := by decide +kernel
theorem d_Mo_instruction_100 : decode b_Mo_instruction 100 = .ok (.iload_n 3, 1) := by decide +kernel
theorem d_Mo_instruction_101 : decode b_Mo_instruction 101 = .ok (.iload 4, 2) := by decide +kernel
theorem d_Mo_instruction_103 : decode b_Mo_instruction 103 = .ok (.invokevirtual 1039, 3) := by decide +kernel
theorem d_Mo_instruction_106 : decode b_Mo_instruction 106 = .ok (.ireturn, 1) := by decide +kernel
theorem d_Mo_instruction_107 : decode b_Mo_instruction 107 = .ok (.iload 4, 2) := by decide +kernel
theorem d_Mo_instruction_109 : decode b_Mo_instruction 109 = .ok (.bipush 41, 2) := by decide +kernel
theorem d_Mo_instruction_111 : decode b_Mo_instruction 111 = .ok (.if_icmp .ne 10, 3) := by decide +kernel
theorem d_Mo_instruction_114 : decode b_Mo_instruction 114 = .ok (.aload_n 0, 1) := by decide +kernel
theorem d_Mo_instruction_115 : decode b_Mo_instruction 115 = .ok (.iload_n 1, 1) := by decide +kernel
theorem d_Mo_instruction_116 : decode b_Mo_instruction 116 = .ok (.iload_n 3, 1) := by decide +kernel
theorem d_Mo_instruction_117 : decode b_Mo_instruction 117 = .ok (.invokevirtual 1042, 3) := by decide +kernel
theorem d_Mo_instruction_120 : decode b_Mo_instruction 120 = .ok (.ireturn, 1) := by decide +kernel
theorem d_Mo_instruction_121 : decode b_Mo_instruction 121 = .ok (.iload 4, 2) := by decide +kernel
theorem d_Mo_instruction_123 : decode b_Mo_instruction 123 = .ok (.bipush 54, 2) := by decide +kernel
theorem d_Mo_instruction_125 : decode b_Mo_instruction 125 = .ok (.if_icmp .eq 10, 3) := by decide +kernel
theorem d_Mo_instruction_128 : decode b_Mo_instruction 128 = .ok (.iload 4, 2) := by decide +kernel
theorem d_Mo_instruction_130 : decode b_Mo_instruction 130 = .ok (.bipush 55, 2) := by decide +kernel
theorem d_Mo_instruction_132 : decode b_Mo_instruction 132 = .ok (.if_icmp .ne 12, 3) := by decide +kernel
theorem d_Mo_instruction_135 : decode b_Mo_instruction 135 = .ok (.aload_n 0, 1) := by decide +kernel
theorem d_Mo_instruction_136 : decode b_Mo_instruction 136 = .ok (.iload_n 1, 1) := by decide +kernel
theorem d_Mo_instruction_137 : decode b_Mo_instruction 137 = .ok (.iload_n 3, 1) := by decide +kernel
theorem d_Mo_instruction_138 : decode b_Mo_instruction 138 = .ok (.iload 4, 2) := by decide +kernel
theorem d_Mo_instruction_140 : decode b_Mo_instruction 140 = .ok (.invokevirtual 1045, 3) := by decide +kernel
theorem d_Mo_instruction_143 : decode b_Mo_instruction 143 = .ok (.ireturn, 1) := by decide +kernel
theorem d_Mo_instruction_144 : decode b_Mo_instruction 144 = .ok (.iload 4, 2) := by decide +kernel
theorem d_Mo_instruction_146 : decode b_Mo_instruction 146 = .ok (.bipush 60, 2) := by decide +kernel
theorem d_Mo_instruction_148 : decode b_Mo_instruction 148 = .ok (.if_icmp .eq 10, 3) := by decide +kernel
theorem d_Mo_instruction_151 : decode b_Mo_instruction 151 = .ok (.iload 4, 2) := by decide +kernel
theorem d_Mo_instruction_153 : decode b_Mo_instruction 153 = .ok (.bipush 61, 2) := by decide +kernel
theorem d_Mo_instruction_155 : decode b_Mo_instruction 155 = .ok (.if_icmp .ne 11, 3) := by decide +kernel
theorem d_Mo_instruction_158 : decode b_Mo_instruction 158 = .ok (.aload_n 0, 1) := by decide +kernel
theorem d_Mo_instruction_159 : decode b_Mo_instruction 159 = .ok (.iload_n 1, 1) := by decide +kernel
theorem d_Mo_instruction_160 : decode b_Mo_instruction 160 = .ok (.iload 4, 2) := by decide +kernel
theorem d_Mo_instruction_162 : decode b_Mo_instruction 162 = .ok (.invokevirtual 1048, 3) := by decide +kernel
theorem d_Mo_instruction_165 : decode b_Mo_instruction 165 = .ok (.ireturn, 1) := by decide +kernel
theorem d_Mo_instruction_166 : decode b_Mo_instruction 166 = .ok (.aload_n 0, 1) := by decide +kernel
theorem d_Mo_instruction_167 : decode b_Mo_instruction 167 = .ok (.iload 4, 2) := by decide +kernel
theorem d_Mo_instruction_169 : decode b_Mo_instruction 169 = .ok (.invokevirtual 1032, 3) := by decide +kernel
theorem d_Mo_instruction_172 : decode b_Mo_instruction 172 = .ok (.iload 4, 2) := by decide +kernel
theorem d_Mo_instruction_174 : decode b_Mo_instruction 174 = .ok (.bipush 23, 2) := by decide +kernel
theorem d_Mo_instruction_176 : decode b_Mo_instruction 176 = .ok (.if_icmp .lt 20, 3) := by decide +kernel
theorem d_Mo_instruction_179 : decode b_Mo_instruction 179 = .ok (.iload 4, 2) := by decide +kernel
theorem d_Mo_instruction_181 : decode b_Mo_instruction 181 = .ok (.bipush 40, 2) := by decide +kernel
theorem d_Mo_instruction_183 : decode b_Mo_instruction 183 = .ok (.if_icmp .gt 13, 3) := by decide +kernel
theorem d_Mo_instruction_186 : decode b_Mo_instruction 186 = .ok (.aload_n 0, 1) := by decide +kernel
theorem d_Mo_instruction_187 : decode b_Mo_instruction 187 = .ok (.iload_n 1, 1) := by decide +kernel
theorem d_Mo_instruction_188 : decode b_Mo_instruction 188 = .ok (.iload_n 3, 1) := by decide +kernel
theorem d_Mo_instruction_189 : decode b_Mo_instruction 189 = .ok (.iload 4, 2) := by decide +kernel
theorem d_Mo_instruction_191 : decode b_Mo_instruction 191 = .ok (.invokevirtual 1051, 3) := by decide +kernel
theorem d_Mo_instruction_194 : decode b_Mo_instruction 194 = .ok (.iconst 1, 1) := by decide +kernel
theorem d_Mo_instruction_195 : decode b_Mo_instruction 195 = .ok (.ireturn, 1) := by decide +kernel
theorem d_Mo_instruction_196 : decode b_Mo_instruction 196 = .ok (.iload 4, 2) := by decide +kernel
theorem d_Mo_instruction_198 : decode b_Mo_instruction 198 = .ok (.bipush 8, 2) := by decide +kernel
theorem d_Mo_instruction_200 : decode b_Mo_instruction 200 = .ok (.if_icmp .lt 19, 3) := by decide +kernel
theorem d_Mo_instruction_203 : decode b_Mo_instruction 203 = .ok (.iload 4, 2) := by decide +kernel
theorem d_Mo_instruction_205 : decode b_Mo_instruction 205 = .ok (.bipush 18, 2) := by decide +kernel
theorem d_Mo_instruction_207 : decode b_Mo_instruction 207 = .ok (.if_icmp .gt 12, 3) := by decide +kernel
theorem d_Mo_instruction_210 : decode b_Mo_instruction 210 = .ok (.aload_n 0, 1) := by decide +kernel
theorem d_Mo_instruction_211 : decode b_Mo_instruction 211 = .ok (.iload_n 1, 1) := by decide +kernel
theorem d_Mo_instruction_212 : decode b_Mo_instruction 212 = .ok (.iload 4, 2) := by decide +kernel
theorem d_Mo_instruction_214 : decode b_Mo_instruction 214 = .ok (.invokevirtual 1054, 3) := by decide +kernel
theorem d_Mo_instruction_217 : decode b_Mo_instruction 217 = .ok (.iconst 1, 1) := by decide +kernel
theorem d_Mo_instruction_218 : decode b_Mo_instruction 218 = .ok (.ireturn, 1) := by decide +kernel
theorem d_Mo_instruction_219 : decode b_Mo_instruction 219 = .ok (.aload_n 0, 1) := by decide +kernel
theorem d_Mo_instruction_220 : decode b_Mo_instruction 220 = .ok (.getfield 522, 3) := by decide +kernel
theorem d_Mo_instruction_223 : decode b_Mo_instruction 223 = .ok (.getfield 677, 3) := by decide +kernel
theorem d_Mo_instruction_226 : decode b_Mo_instruction 226 = .ok (.iload_n 3, 1) := by decide +kernel
theorem d_Mo_instruction_227 : decode b_Mo_instruction 227 = .ok (.iaload, 1) := by decide +kernel
theorem d_Mo_instruction_228 : decode b_Mo_instruction 228 = .ok (.istore 5, 2) := by decide +kernel
theorem d_Mo_instruction_230 : decode b_Mo_instruction 230 = .ok (.bipush 44, 2) := by decide +kernel
theorem d_Mo_instruction_232 : decode b_Mo_instruction 232 = .ok (.iload_n 1, 1) := by decide +kernel
theorem d_Mo_instruction_233 : decode b_Mo_instruction 233 = .ok (.imul, 1) := by decide +kernel
theorem d_Mo_instruction_234 : decode b_Mo_instruction 234 = .ok (.iload 5, 2) := by decide +kernel
theorem d_Mo_instruction_236 : decode b_Mo_instruction 236 = .ok (.iadd, 1) := by decide +kernel
theorem d_Mo_instruction_237 : decode b_Mo_instruction 237 = .ok (.istore 6, 2) := by decide +kernel
theorem d_Mo_instruction_239 : decode b_Mo_instruction 239 = .ok (.iload 4, 2) := by decide +kernel
theorem d_Mo_instruction_241 : decode b_Mo_instruction 241 = .ok (.tableswitch 485 1 59 #[251, 262, 272, 291, 310, 339, 368, 485, 485, 485, 485, 485, 485, 485, 485, 485, 485, 485, 393, 402, 402, 402, 485, 485, 485, 485, 485, 485, 485, 485, 485, 485, 485, 485, 485, 485, 485, 485, 485, 485, 485, 412, 412, 412, 412, 485, 485, 485, 485, 485, 485, 485, 485, 485, 485, 421, 450, 459, 472], 251) := by decide +kernel
theorem d_Mo_instruction_492 : decode b_Mo_instruction 492 = .ok (.aload_n 0, 1) := by decide +kernel
theorem d_Mo_instruction_493 : decode b_Mo_instruction 493 = .ok (.iload_n 1, 1) := by decide +kernel
theorem d_Mo_instruction_494 : decode b_Mo_instruction 494 = .ok (.iload 5, 2) := by decide +kernel
theorem d_Mo_instruction_496 : decode b_Mo_instruction 496 = .ok (.iconst 0, 1) := by decide +kernel
theorem d_Mo_instruction_497 : decode b_Mo_instruction 497 = .ok (.invokevirtual 970, 3) := by decide +kernel
theorem d_Mo_instruction_500 : decode b_Mo_instruction 500 = .ok (.goto 226, 3) := by decide +kernel
theorem d_Mo_instruction_503 : decode b_Mo_instruction 503 = .ok (.aload_n 0, 1) := by decide +kernel
theorem d_Mo_instruction_504 : decode b_Mo_instruction 504 = .ok (.iload_n 1, 1) := by decide +kernel
theorem d_Mo_instruction_505 : decode b_Mo_instruction 505 = .ok (.iconst 0, 1) := by decide +kernel
theorem d_Mo_instruction_506 : decode b_Mo_instruction 506 = .ok (.iconst 1, 1) := by decide +kernel
theorem d_Mo_instruction_507 : decode b_Mo_instruction 507 = .ok (.invokevirtual 970, 3) := by decide +kernel
theorem d_Mo_instruction_510 : decode b_Mo_instruction 510 = .ok (.goto 216, 3) := by decide +kernel
theorem d_Mo_instruction_513 : decode b_Mo_instruction 513 = .ok (.aload_n 0, 1) := by decide +kernel
theorem d_Mo_instruction_514 : decode b_Mo_instruction 514 = .ok (.iload_n 1, 1) := by decide +kernel
theorem d_Mo_instruction_515 : decode b_Mo_instruction 515 = .ok (.aload_n 0, 1) := by decide +kernel
theorem d_Mo_instruction_516 : decode b_Mo_instruction 516 = .ok (.getfield 917, 3) := by decide +kernel
theorem d_Mo_instruction_519 : decode b_Mo_instruction 519 = .ok (.getfield 936, 3) := by decide +kernel
theorem d_Mo_instruction_522 : decode b_Mo_instruction 522 = .ok (.iload 6, 2) := by decide +kernel
theorem d_Mo_instruction_524 : decode b_Mo_instruction 524 = .ok (.iaload, 1) := by decide +kernel
theorem d_Mo_instruction_525 : decode b_Mo_instruction 525 = .ok (.iconst 0, 1) := by decide +kernel
theorem d_Mo_instruction_526 : decode b_Mo_instruction 526 = .ok (.invokevirtual 970, 3) := by decide +kernel
theorem d_Mo_instruction_529 : decode b_Mo_instruction 529 = .ok (.goto 197, 3) := by decide +kernel
theorem d_Mo_instruction_532 : decode b_Mo_instruction 532 = .ok (.aload_n 0, 1) := by decide +kernel
theorem d_Mo_instruction_533 : decode b_Mo_instruction 533 = .ok (.iload_n 1, 1) := by decide +kernel
theorem d_Mo_instruction_534 : decode b_Mo_instruction 534 = .ok (.aload_n 0, 1) := by decide +kernel
theorem d_Mo_instruction_535 : decode b_Mo_instruction 535 = .ok (.getfield 917, 3) := by decide +kernel
theorem d_Mo_instruction_538 : decode b_Mo_instruction 538 = .ok (.getfield 936, 3) := by decide +kernel
theorem d_Mo_instruction_541 : decode b_Mo_instruction 541 = .ok (.iload 6, 2) := by decide +kernel
theorem d_Mo_instruction_543 : decode b_Mo_instruction 543 = .ok (.iaload, 1) := by decide +kernel
theorem d_Mo_instruction_544 : decode b_Mo_instruction 544 = .ok (.iconst 1, 1) := by decide +kernel
theorem d_Mo_instruction_545 : decode b_Mo_instruction 545 = .ok (.invokevirtual 970, 3) := by decide +kernel
theorem d_Mo_instruction_548 : decode b_Mo_instruction 548 = .ok (.goto 178, 3) := by decide +kernel
theorem d_Mo_instruction_551 : decode b_Mo_instruction 551 = .ok (.aload_n 0, 1) := by decide +kernel
theorem d_Mo_instruction_552 : decode b_Mo_instruction 552 = .ok (.getfield 917, 3) := by decide +kernel
theorem d_Mo_instruction_555 : decode b_Mo_instruction 555 = .ok (.getfield 936, 3) := by decide +kernel
theorem d_Mo_instruction_558 : decode b_Mo_instruction 558 = .ok (.iload 6, 2) := by decide +kernel
theorem d_Mo_instruction_560 : decode b_Mo_instruction 560 = .ok (.aload_n 0, 1) := by decide +kernel
theorem d_Mo_instruction_561 : decode b_Mo_instruction 561 = .ok (.iload_n 1, 1) := by decide +kernel
theorem d_Mo_instruction_562 : decode b_Mo_instruction 562 = .ok (.invokevirtual 1057, 3) := by decide +kernel
theorem d_Mo_instruction_565 : decode b_Mo_instruction 565 = .ok (.iastore, 1) := by decide +kernel
theorem d_Mo_instruction_566 : decode b_Mo_instruction 566 = .ok (.aload_n 0, 1) := by decide +kernel
theorem d_Mo_instruction_567 : decode b_Mo_instruction 567 = .ok (.getfield 917, 3) := by decide +kernel
theorem d_Mo_instruction_570 : decode b_Mo_instruction 570 = .ok (.getfield 939, 3) := by decide +kernel
theorem d_Mo_instruction_573 : decode b_Mo_instruction 573 = .ok (.iload 6, 2) := by decide +kernel
theorem d_Mo_instruction_575 : decode b_Mo_instruction 575 = .ok (.iconst 0, 1) := by decide +kernel
theorem d_Mo_instruction_576 : decode b_Mo_instruction 576 = .ok (.bastore, 1) := by decide +kernel
theorem d_Mo_instruction_577 : decode b_Mo_instruction 577 = .ok (.goto 149, 3) := by decide +kernel
theorem d_Mo_instruction_580 : decode b_Mo_instruction 580 = .ok (.aload_n 0, 1) := by decide +kernel
theorem d_Mo_instruction_581 : decode b_Mo_instruction 581 = .ok (.getfield 917, 3) := by decide +kernel
theorem d_Mo_instruction_584 : decode b_Mo_instruction 584 = .ok (.getfield 936, 3) := by decide +kernel
theorem d_Mo_instruction_587 : decode b_Mo_instruction 587 = .ok (.iload 6, 2) := by decide +kernel
theorem d_Mo_instruction_589 : decode b_Mo_instruction 589 = .ok (.aload_n 0, 1) := by decide +kernel
theorem d_Mo_instruction_590 : decode b_Mo_instruction 590 = .ok (.iload_n 1, 1) := by decide +kernel
theorem d_Mo_instruction_591 : decode b_Mo_instruction 591 = .ok (.invokevirtual 1057, 3) := by decide +kernel
theorem d_Mo_instruction_594 : decode b_Mo_instruction 594 = .ok (.iastore, 1) := by decide +kernel
theorem d_Mo_instruction_595 : decode b_Mo_instruction 595 = .ok (.aload_n 0, 1) := by decide +kernel
theorem d_Mo_instruction_596 : decode b_Mo_instruction 596 = .ok (.getfield 917, 3) := by decide +kernel
theorem d_Mo_instruction_599 : decode b_Mo_instruction 599 = .ok (.getfield 939, 3) := by decide +kernel
theorem d_Mo_instruction_602 : decode b_Mo_instruction 602 = .ok (.iload 6, 2) := by decide +kernel
theorem d_Mo_instruction_604 : decode b_Mo_instruction 604 = .ok (.iconst 1, 1) := by decide +kernel
theorem d_Mo_instruction_605 : decode b_Mo_instruction 605 = .ok (.bastore, 1) := by decide +kernel
theorem d_Mo_instruction_606 : decode b_Mo_instruction 606 = .ok (.goto 120, 3) := by decide +kernel
theorem d_Mo_instruction_609 : decode b_Mo_instruction 609 = .ok (.aload_n 0, 1) := by decide +kernel
theorem d_Mo_instruction_610 : decode b_Mo_instruction 610 = .ok (.getfield 917, 3) := by decide +kernel
theorem d_Mo_instruction_613 : decode b_Mo_instruction 613 = .ok (.getfield 936, 3) := by decide +kernel
theorem d_Mo_instruction_616 : decode b_Mo_instruction 616 = .ok (.iload 6, 2) := by decide +kernel
theorem d_Mo_instruction_618 : decode b_Mo_instruction 618 = .ok (.dup2, 1) := by decide +kernel
theorem d_Mo_instruction_619 : decode b_Mo_instruction 619 = .ok (.iaload, 1) := by decide +kernel
theorem d_Mo_instruction_620 : decode b_Mo_instruction 620 = .ok (.aload_n 0, 1) := by decide +kernel
theorem d_Mo_instruction_621 : decode b_Mo_instruction 621 = .ok (.getfield 522, 3) := by decide +kernel
theorem d_Mo_instruction_624 : decode b_Mo_instruction 624 = .ok (.getfield 680, 3) := by decide +kernel
theorem d_Mo_instruction_627 : decode b_Mo_instruction 627 = .ok (.iload_n 3, 1) := by decide +kernel
theorem d_Mo_instruction_628 : decode b_Mo_instruction 628 = .ok (.iaload, 1) := by decide +kernel
theorem d_Mo_instruction_629 : decode b_Mo_instruction 629 = .ok (.iadd, 1) := by decide +kernel
theorem d_Mo_instruction_630 : decode b_Mo_instruction 630 = .ok (.iastore, 1) := by decide +kernel
theorem d_Mo_instruction_631 : decode b_Mo_instruction 631 = .ok (.goto 95, 3) := by decide +kernel
theorem d_Mo_instruction_634 : decode b_Mo_instruction 634 = .ok (.aload_n 0, 1) := by decide +kernel
theorem d_Mo_instruction_635 : decode b_Mo_instruction 635 = .ok (.iload_n 1, 1) := by decide +kernel
theorem d_Mo_instruction_636 : decode b_Mo_instruction 636 = .ok (.invokevirtual 1057, 3) := by decide +kernel
theorem d_Mo_instruction_639 : decode b_Mo_instruction 639 = .ok (.pop, 1) := by decide +kernel
theorem d_Mo_instruction_640 : decode b_Mo_instruction 640 = .ok (.goto 86, 3) := by decide +kernel
theorem d_Mo_instruction_643 : decode b_Mo_instruction 643 = .ok (.aload_n 0, 1) := by decide +kernel
theorem d_Mo_instruction_644 : decode b_Mo_instruction 644 = .ok (.iload_n 1, 1) := by decide +kernel
theorem d_Mo_instruction_645 : decode b_Mo_instruction 645 = .ok (.iload 4, 2) := by decide +kernel
theorem d_Mo_instruction_647 : decode b_Mo_instruction 647 = .ok (.invokevirtual 1060, 3) := by decide +kernel
theorem d_Mo_instruction_650 : decode b_Mo_instruction 650 = .ok (.goto 76, 3) := by decide +kernel
theorem d_Mo_instruction_653 : decode b_Mo_instruction 653 = .ok (.aload_n 0, 1) := by decide +kernel
theorem d_Mo_instruction_654 : decode b_Mo_instruction 654 = .ok (.iload_n 1, 1) := by decide +kernel
theorem d_Mo_instruction_655 : decode b_Mo_instruction 655 = .ok (.iload 4, 2) := by decide +kernel
theorem d_Mo_instruction_657 : decode b_Mo_instruction 657 = .ok (.invokevirtual 1063, 3) := by decide +kernel
theorem d_Mo_instruction_660 : decode b_Mo_instruction 660 = .ok (.iconst 1, 1) := by decide +kernel
theorem d_Mo_instruction_661 : decode b_Mo_instruction 661 = .ok (.ireturn, 1) := by decide +kernel
theorem d_Mo_instruction_662 : decode b_Mo_instruction 662 = .ok (.aload_n 0, 1) := by decide +kernel
theorem d_Mo_instruction_663 : decode b_Mo_instruction 663 = .ok (.iload_n 1, 1) := by decide +kernel
theorem d_Mo_instruction_664 : decode b_Mo_instruction 664 = .ok (.invokevirtual 1057, 3) := by decide +kernel
theorem d_Mo_instruction_667 : decode b_Mo_instruction 667 = .ok (.istore 7, 2) := by decide +kernel
theorem d_Mo_instruction_669 : decode b_Mo_instruction 669 = .ok (.iload 7, 2) := by decide +kernel
theorem d_Mo_instruction_671 : decode b_Mo_instruction 671 = .ok (.ifCond .ne 12, 3) := by decide +kernel
theorem d_Mo_instruction_674 : decode b_Mo_instruction 674 = .ok (.aload_n 0, 1) := by decide +kernel
theorem d_Mo_instruction_675 : decode b_Mo_instruction 675 = .ok (.iconst 0, 1) := by decide +kernel
theorem d_Mo_instruction_676 : decode b_Mo_instruction 676 = .ok (.iconst 2, 1) := by decide +kernel
theorem d_Mo_instruction_677 : decode b_Mo_instruction 677 = .ok (.invokevirtual 1001, 3) := by decide +kernel
theorem d_Mo_instruction_680 : decode b_Mo_instruction 680 = .ok (.goto 9, 3) := by decide +kernel
theorem d_Mo_instruction_683 : decode b_Mo_instruction 683 = .ok (.aload_n 0, 1) := by decide +kernel
theorem d_Mo_instruction_684 : decode b_Mo_instruction 684 = .ok (.iload 7, 2) := by decide +kernel
theorem d_Mo_instruction_686 : decode b_Mo_instruction 686 = .ok (.invokevirtual 957, 3) := by decide +kernel
theorem d_Mo_instruction_689 : decode b_Mo_instruction 689 = .ok (.iconst 1, 1) := by decide +kernel
theorem d_Mo_instruction_690 : decode b_Mo_instruction 690 = .ok (.ireturn, 1) := by decide +kernel
theorem d_Mo_instruction_691 : decode b_Mo_instruction 691 = .ok (.aload_n 0, 1) := by decide +kernel
theorem d_Mo_instruction_692 : decode b_Mo_instruction 692 = .ok (.iconst 0, 1) := by decide +kernel
theorem d_Mo_instruction_693 : decode b_Mo_instruction 693 = .ok (.iconst 0, 1) := by decide +kernel
theorem d_Mo_instruction_694 : decode b_Mo_instruction 694 = .ok (.iconst 0, 1) := by decide +kernel
theorem d_Mo_instruction_695 : decode b_Mo_instruction 695 = .ok (.invokevirtual 1066, 3) := by decide +kernel
theorem d_Mo_instruction_698 : decode b_Mo_instruction 698 = .ok (.iconst 1, 1) := by decide +kernel
theorem d_Mo_instruction_699 : decode b_Mo_instruction 699 = .ok (.ireturn, 1) := by decide +kernel
theorem d_Mo_instruction_700 : decode b_Mo_instruction 700 = .ok (.aload_n 0, 1) := by decide +kernel
theorem d_Mo_instruction_701 : decode b_Mo_instruction 701 = .ok (.iconst 1, 1) := by decide +kernel
theorem d_Mo_instruction_702 : decode b_Mo_instruction 702 = .ok (.aload_n 0, 1) := by decide +kernel
theorem d_Mo_instruction_703 : decode b_Mo_instruction 703 = .ok (.iload_n 1, 1) := by decide +kernel
theorem d_Mo_instruction_704 : decode b_Mo_instruction 704 = .ok (.invokevirtual 1057, 3) := by decide +kernel
theorem d_Mo_instruction_707 : decode b_Mo_instruction 707 = .ok (.iconst 0, 1) := by decide +kernel
theorem d_Mo_instruction_708 : decode b_Mo_instruction 708 = .ok (.invokevirtual 1066, 3) := by decide +kernel
theorem d_Mo_instruction_711 : decode b_Mo_instruction 711 = .ok (.iconst 1, 1) := by decide +kernel
theorem d_Mo_instruction_712 : decode b_Mo_instruction 712 = .ok (.ireturn, 1) := by decide +kernel
theorem d_Mo_instruction_713 : decode b_Mo_instruction 713 = .ok (.aload_n 0, 1) := by decide +kernel
theorem d_Mo_instruction_714 : decode b_Mo_instruction 714 = .ok (.iconst 1, 1) := by decide +kernel
theorem d_Mo_instruction_715 : decode b_Mo_instruction 715 = .ok (.aload_n 0, 1) := by decide +kernel
theorem d_Mo_instruction_716 : decode b_Mo_instruction 716 = .ok (.iload_n 1, 1) := by decide +kernel
theorem d_Mo_instruction_717 : decode b_Mo_instruction 717 = .ok (.invokevirtual 1057, 3) := by decide +kernel
theorem d_Mo_instruction_720 : decode b_Mo_instruction 720 = .ok (.iconst 1, 1) := by decide +kernel
theorem d_Mo_instruction_721 : decode b_Mo_instruction 721 = .ok (.invokevirtual 1066, 3) := by decide +kernel
theorem d_Mo_instruction_724 : decode b_Mo_instruction 724 = .ok (.iconst 1, 1) := by decide +kernel
theorem d_Mo_instruction_725 : decode b_Mo_instruction 725 = .ok (.ireturn, 1) := by decide +kernel
theorem d_Mo_instruction_726 : decode b_Mo_instruction 726 = .ok (.aload_n 0, 1) := by decide +kernel
theorem d_Mo_instruction_727 : decode b_Mo_instruction 727 = .ok (.getfield 917, 3) := by decide +kernel
theorem d_Mo_instruction_730 : decode b_Mo_instruction 730 = .ok (.getfield 930, 3) := by decide +kernel
theorem d_Mo_instruction_733 : decode b_Mo_instruction 733 = .ok (.iload_n 1, 1) := by decide +kernel
theorem d_Mo_instruction_734 : decode b_Mo_instruction 734 = .ok (.dup2, 1) := by decide +kernel
theorem d_Mo_instruction_735 : decode b_Mo_instruction 735 = .ok (.iaload, 1) := by decide +kernel
theorem d_Mo_instruction_736 : decode b_Mo_instruction 736 = .ok (.iconst 1, 1) := by decide +kernel
theorem d_Mo_instruction_737 : decode b_Mo_instruction 737 = .ok (.iadd, 1) := by decide +kernel
theorem d_Mo_instruction_738 : decode b_Mo_instruction 738 = .ok (.iastore, 1) := by decide +kernel
theorem d_Mo_instruction_739 : decode b_Mo_instruction 739 = .ok (.iconst 1, 1) := by decide +kernel
theorem d_Mo_instruction_740 : decode b_Mo_instruction 740 = .ok (.ireturn, 1) := by decide +kernel
abbrev ra_Mo_instruction (mc ms : Nat) : Room := { frames := 472, cells := mc, slots := ms, locals := 11493 }
def wja_Mo_instruction_135 (mc ms : Nat) (Post : Ly → St → Int32 → Nat → Nat → Prop) (a0 : Nat) (y_j135 : Ly) (s_j135 : St) (d_j135 e_j135 : Nat) (x1j135 : Int32) (x3j135 : Int32) (x4j135 : Int32) : Prop := (d_j135 ≤ mc ∧ e_j135 ≤ ms) ∧ ∃ mc_17 ms_18 : Nat, (d_j135 + mc_17 ≤ mc ∧ e_j135 + ms_18 ≤ ms) ∧ wa_Mo_classStep mc_17 ms_18 y_j135 (fun (y_14 : Ly) (s_13 : St) (r_12 : Int32) (d_15 e_16 : Nat) => (d_j135 + d_15 ≤ mc ∧ e_j135 + e_16 ≤ ms) ∧ Post y_14 s_13 r_12 (d_j135 + d_15) (e_j135 + e_16)) s_j135 a0 x1j135 x3j135 x4j135
def wja_Mo_instruction_158 (mc ms : Nat) (Post : Ly → St → Int32 → Nat → Nat → Prop) (a0 : Nat) (y_j158 : Ly) (s_j158 : St) (d_j158 e_j158 : Nat) (x1j158 : Int32) (x4j158 : Int32) : Prop := (d_j158 ≤ mc ∧ e_j158 ≤ ms) ∧ ∃ mc_25 ms_26 : Nat, (d_j158 + mc_25 ≤ mc ∧ e_j158 + ms_26 ≤ ms) ∧ wa_Mo_lockStep mc_25 ms_26 y_j158 (fun (y_22 : Ly) (s_21 : St) (r_20 : Int32) (d_23 e_24 : Nat) => (d_j158 + d_23 ≤ mc ∧ e_j158 + e_24 ≤ ms) ∧ Post y_22 s_21 r_20 (d_j158 + d_23) (e_j158 + e_24)) s_j158 a0 x1j158 x4j158
def wja_Mo_instruction_726 (mc ms : Nat) (Post : Ly → St → Int32 → Nat → Nat → Prop) (a0 : Nat) (y_j726 : Ly) (s_j726 : St) (d_j726 e_j726 : Nat) (x1j726 : Int32) : Prop := (d_j726 ≤ mc ∧ e_j726 ≤ ms) ∧ ∃ b_34 : Nat, sO s_j726 a0 46 = some b_34 ∧ cl b_34 = 12 ∧ xA y_j726 s_j726 b_34 18 x1j726 (fun x_37 : Int32 => xS y_j726 s_j726 b_34 18 x1j726 (x_37 + 1) (fun s_38 : St => Post y_j726 s_38 1 d_j726 e_j726))
def wja_Mo_instruction_689 (mc ms : Nat) (Post : Ly → St → Int32 → Nat → Nat → Prop) (a0 : Nat) (y_j689 : Ly) (s_j689 : St) (d_j689 e_j689 : Nat) : Prop := (d_j689 ≤ mc ∧ e_j689 ≤ ms) ∧ Post y_j689 s_j689 1 d_j689 e_j689
def wja_Mo_instruction_219 (mc ms : Nat) (Post : Ly → St → Int32 → Nat → Nat → Prop) (a0 : Nat) (y_j219 : Ly) (s_j219 : St) (d_j219 e_j219 : Nat) (x1j219 : Int32) (x3j219 : Int32) (x4j219 : Int32) : Prop := (d_j219 ≤ mc ∧ e_j219 ≤ ms) ∧ ∃ b_30 : Nat, sO s_j219 a0 45 = some b_30 ∧ cl b_30 = 13 ∧ xA y_j219 s_j219 b_30 31 x3j219 (fun x_33 : Int32 => ((x4j219 = 1 → wu_Mo_push y_j219 (fun (s_40 : St) => wja_Mo_instruction_726 mc ms Post a0 y_j219 s_40 d_j219 e_j219 x1j219) s_j219 a0 x1j219 x_33 0) ∧ (¬ (x4j219 = 1) → ((x4j219 = 2 → wu_Mo_push y_j219 (fun (s_42 : St) => wja_Mo_instruction_726 mc ms Post a0 y_j219 s_42 d_j219 e_j219 x1j219) s_j219 a0 x1j219 0 1) ∧ (¬ (x4j219 = 2) → ((x4j219 = 3 → ∃ b_43 : Nat, sO s_j219 a0 46 = some b_43 ∧ cl b_43 = 12 ∧ xA y_j219 s_j219 b_43 20 ((44 * x1j219) + x_33) (fun x_46 : Int32 => wu_Mo_push y_j219 (fun (s_48 : St) => wja_Mo_instruction_726 mc ms Post a0 y_j219 s_48 d_j219 e_j219 x1j219) s_j219 a0 x1j219 x_46 0)) ∧ (¬ (x4j219 = 3) → ((x4j219 = 4 → ∃ b_49 : Nat, sO s_j219 a0 46 = some b_49 ∧ cl b_49 = 12 ∧ xA y_j219 s_j219 b_49 20 ((44 * x1j219) + x_33) (fun x_52 : Int32 => wu_Mo_push y_j219 (fun (s_54 : St) => wja_Mo_instruction_726 mc ms Post a0 y_j219 s_54 d_j219 e_j219 x1j219) s_j219 a0 x1j219 x_52 1)) ∧ (¬ (x4j219 = 4) → ((x4j219 = 5 → ∃ b_55 : Nat, sO s_j219 a0 46 = some b_55 ∧ cl b_55 = 12 ∧ wu_Mo_pop y_j219 (fun (s_59 : St) (r_58 : Int32) => xS y_j219 s_59 b_55 20 ((44 * x1j219) + x_33) r_58 (fun s_60 : St => ∃ b_61 : Nat, sO s_60 a0 46 = some b_61 ∧ cl b_61 = 12 ∧ xS y_j219 s_60 b_61 21 ((44 * x1j219) + x_33) (vp_nar .boolean 0) (fun s_64 : St => wja_Mo_instruction_726 mc ms Post a0 y_j219 s_64 d_j219 e_j219 x1j219))) s_j219 a0 x1j219) ∧ (¬ (x4j219 = 5) → ((x4j219 = 6 → ∃ b_65 : Nat, sO s_j219 a0 46 = some b_65 ∧ cl b_65 = 12 ∧ wu_Mo_pop y_j219 (fun (s_69 : St) (r_68 : Int32) => xS y_j219 s_69 b_65 20 ((44 * x1j219) + x_33) r_68 (fun s_70 : St => ∃ b_71 : Nat, sO s_70 a0 46 = some b_71 ∧ cl b_71 = 12 ∧ xS y_j219 s_70 b_71 21 ((44 * x1j219) + x_33) (vp_nar .boolean 1) (fun s_74 : St => wja_Mo_instruction_726 mc ms Post a0 y_j219 s_74 d_j219 e_j219 x1j219))) s_j219 a0 x1j219) ∧ (¬ (x4j219 = 6) → ((x4j219 = 7 → ∃ b_75 : Nat, sO s_j219 a0 46 = some b_75 ∧ cl b_75 = 12 ∧ xA y_j219 s_j219 b_75 20 ((44 * x1j219) + x_33) (fun x_78 : Int32 => xA y_j219 s_j219 b_30 32 x3j219 (fun x_79 : Int32 => xS y_j219 s_j219 b_75 20 ((44 * x1j219) + x_33) (x_78 + x_79) (fun s_80 : St => wja_Mo_instruction_726 mc ms Post a0 y_j219 s_80 d_j219 e_j219 x1j219)))) ∧ (¬ (x4j219 = 7) → ((x4j219 = 8 → wja_Mo_instruction_726 mc ms Post a0 y_j219 s_j219 d_j219 e_j219 x1j219) ∧ (¬ (x4j219 = 8) → ((x4j219 = 9 → wja_Mo_instruction_726 mc ms Post a0 y_j219 s_j219 d_j219 e_j219 x1j219) ∧ (¬ (x4j219 = 9) → ((x4j219 = 10 → wja_Mo_instruction_726 mc ms Post a0 y_j219 s_j219 d_j219 e_j219 x1j219) ∧ (¬ (x4j219 = 10) → ((x4j219 = 11 → wja_Mo_instruction_726 mc ms Post a0 y_j219 s_j219 d_j219 e_j219 x1j219) ∧ (¬ (x4j219 = 11) → ((x4j219 = 12 → wja_Mo_instruction_726 mc ms Post a0 y_j219 s_j219 d_j219 e_j219 x1j219) ∧ (¬ (x4j219 = 12) → ((x4j219 = 13 → wja_Mo_instruction_726 mc ms Post a0 y_j219 s_j219 d_j219 e_j219 x1j219) ∧ (¬ (x4j219 = 13) → ((x4j219 = 14 → wja_Mo_instruction_726 mc ms Post a0 y_j219 s_j219 d_j219 e_j219 x1j219) ∧ (¬ (x4j219 = 14) → ((x4j219 = 15 → wja_Mo_instruction_726 mc ms Post a0 y_j219 s_j219 d_j219 e_j219 x1j219) ∧ (¬ (x4j219 = 15) → ((x4j219 = 16 → wja_Mo_instruction_726 mc ms Post a0 y_j219 s_j219 d_j219 e_j219 x1j219) ∧ (¬ (x4j219 = 16) → ((x4j219 = 17 → wja_Mo_instruction_726 mc ms Post a0 y_j219 s_j219 d_j219 e_j219 x1j219) ∧ (¬ (x4j219 = 17) → ((x4j219 = 18 → wja_Mo_instruction_726 mc ms Post a0 y_j219 s_j219 d_j219 e_j219 x1j219) ∧ (¬ (x4j219 = 18) → ((x4j219 = 19 → wu_Mo_pop y_j219 (fun (s_82 : St) (r_81 : Int32) => wja_Mo_instruction_726 mc ms Post a0 y_j219 s_82 d_j219 e_j219 x1j219) s_j219 a0 x1j219) ∧ (¬ (x4j219 = 19) → ((x4j219 = 20 → wu_Mo_turnStep y_j219 (fun (s_84 : St) => wja_Mo_instruction_726 mc ms Post a0 y_j219 s_84 d_j219 e_j219 x1j219) s_j219 a0 x1j219 x4j219) ∧ (¬ (x4j219 = 20) → ((x4j219 = 21 → wu_Mo_turnStep y_j219 (fun (s_86 : St) => wja_Mo_instruction_726 mc ms Post a0 y_j219 s_86 d_j219 e_j219 x1j219) s_j219 a0 x1j219 x4j219) ∧ (¬ (x4j219 = 21) → ((x4j219 = 22 → wu_Mo_turnStep y_j219 (fun (s_88 : St) => wja_Mo_instruction_726 mc ms Post a0 y_j219 s_88 d_j219 e_j219 x1j219) s_j219 a0 x1j219 x4j219) ∧ (¬ (x4j219 = 22) → ((x4j219 = 23 → wja_Mo_instruction_726 mc ms Post a0 y_j219 s_j219 d_j219 e_j219 x1j219) ∧ (¬ (x4j219 = 23) → ((x4j219 = 24 → wja_Mo_instruction_726 mc ms Post a0 y_j219 s_j219 d_j219 e_j219 x1j219) ∧ (¬ (x4j219 = 24) → ((x4j219 = 25 → wja_Mo_instruction_726 mc ms Post a0 y_j219 s_j219 d_j219 e_j219 x1j219) ∧ (¬ (x4j219 = 25) → ((x4j219 = 26 → wja_Mo_instruction_726 mc ms Post a0 y_j219 s_j219 d_j219 e_j219 x1j219) ∧ (¬ (x4j219 = 26) → ((x4j219 = 27 → wja_Mo_instruction_726 mc ms Post a0 y_j219 s_j219 d_j219 e_j219 x1j219) ∧ (¬ (x4j219 = 27) → ((x4j219 = 28 → wja_Mo_instruction_726 mc ms Post a0 y_j219 s_j219 d_j219 e_j219 x1j219) ∧ (¬ (x4j219 = 28) → ((x4j219 = 29 → wja_Mo_instruction_726 mc ms Post a0 y_j219 s_j219 d_j219 e_j219 x1j219) ∧ (¬ (x4j219 = 29) → ((x4j219 = 30 → wja_Mo_instruction_726 mc ms Post a0 y_j219 s_j219 d_j219 e_j219 x1j219) ∧ (¬ (x4j219 = 30) → ((x4j219 = 31 → wja_Mo_instruction_726 mc ms Post a0 y_j219 s_j219 d_j219 e_j219 x1j219) ∧ (¬ (x4j219 = 31) → ((x4j219 = 32 → wja_Mo_instruction_726 mc ms Post a0 y_j219 s_j219 d_j219 e_j219 x1j219) ∧ (¬ (x4j219 = 32) → ((x4j219 = 33 → wja_Mo_instruction_726 mc ms Post a0 y_j219 s_j219 d_j219 e_j219 x1j219) ∧ (¬ (x4j219 = 33) → ((x4j219 = 34 → wja_Mo_instruction_726 mc ms Post a0 y_j219 s_j219 d_j219 e_j219 x1j219) ∧ (¬ (x4j219 = 34) → ((x4j219 = 35 → wja_Mo_instruction_726 mc ms Post a0 y_j219 s_j219 d_j219 e_j219 x1j219) ∧ (¬ (x4j219 = 35) → ((x4j219 = 36 → wja_Mo_instruction_726 mc ms Post a0 y_j219 s_j219 d_j219 e_j219 x1j219) ∧ (¬ (x4j219 = 36) → ((x4j219 = 37 → wja_Mo_instruction_726 mc ms Post a0 y_j219 s_j219 d_j219 e_j219 x1j219) ∧ (¬ (x4j219 = 37) → ((x4j219 = 38 → wja_Mo_instruction_726 mc ms Post a0 y_j219 s_j219 d_j219 e_j219 x1j219) ∧ (¬ (x4j219 = 38) → ((x4j219 = 39 → wja_Mo_instruction_726 mc ms Post a0 y_j219 s_j219 d_j219 e_j219 x1j219) ∧ (¬ (x4j219 = 39) → ((x4j219 = 40 → wja_Mo_instruction_726 mc ms Post a0 y_j219 s_j219 d_j219 e_j219 x1j219) ∧ (¬ (x4j219 = 40) → ((x4j219 = 41 → wja_Mo_instruction_726 mc ms Post a0 y_j219 s_j219 d_j219 e_j219 x1j219) ∧ (¬ (x4j219 = 41) → ((x4j219 = 42 → ∃ mc_94 ms_95 : Nat, (d_j219 + mc_94 ≤ mc ∧ e_j219 + ms_95 ≤ ms) ∧ wa_Mo_rowStep mc_94 ms_95 y_j219 (fun (y_91 : Ly) (s_90 : St) (d_92 e_93 : Nat) => (d_j219 + d_92 ≤ mc ∧ e_j219 + e_93 ≤ ms) ∧ Post y_91 s_90 1 (d_j219 + d_92) (e_j219 + e_93)) s_j219 a0 x1j219 x4j219) ∧ (¬ (x4j219 = 42) → ((x4j219 = 43 → ∃ mc_102 ms_103 : Nat, (d_j219 + mc_102 ≤ mc ∧ e_j219 + ms_103 ≤ ms) ∧ wa_Mo_rowStep mc_102 ms_103 y_j219 (fun (y_99 : Ly) (s_98 : St) (d_100 e_101 : Nat) => (d_j219 + d_100 ≤ mc ∧ e_j219 + e_101 ≤ ms) ∧ Post y_99 s_98 1 (d_j219 + d_100) (e_j219 + e_101)) s_j219 a0 x1j219 x4j219) ∧ (¬ (x4j219 = 43) → ((x4j219 = 44 → ∃ mc_110 ms_111 : Nat, (d_j219 + mc_110 ≤ mc ∧ e_j219 + ms_111 ≤ ms) ∧ wa_Mo_rowStep mc_110 ms_111 y_j219 (fun (y_107 : Ly) (s_106 : St) (d_108 e_109 : Nat) => (d_j219 + d_108 ≤ mc ∧ e_j219 + e_109 ≤ ms) ∧ Post y_107 s_106 1 (d_j219 + d_108) (e_j219 + e_109)) s_j219 a0 x1j219 x4j219) ∧ (¬ (x4j219 = 44) → ((x4j219 = 45 → ∃ mc_118 ms_119 : Nat, (d_j219 + mc_118 ≤ mc ∧ e_j219 + ms_119 ≤ ms) ∧ wa_Mo_rowStep mc_118 ms_119 y_j219 (fun (y_115 : Ly) (s_114 : St) (d_116 e_117 : Nat) => (d_j219 + d_116 ≤ mc ∧ e_j219 + e_117 ≤ ms) ∧ Post y_115 s_114 1 (d_j219 + d_116) (e_j219 + e_117)) s_j219 a0 x1j219 x4j219) ∧ (¬ (x4j219 = 45) → ((x4j219 = 46 → wja_Mo_instruction_726 mc ms Post a0 y_j219 s_j219 d_j219 e_j219 x1j219) ∧ (¬ (x4j219 = 46) → ((x4j219 = 47 → wja_Mo_instruction_726 mc ms Post a0 y_j219 s_j219 d_j219 e_j219 x1j219) ∧ (¬ (x4j219 = 47) → ((x4j219 = 48 → wja_Mo_instruction_726 mc ms Post a0 y_j219 s_j219 d_j219 e_j219 x1j219) ∧ (¬ (x4j219 = 48) → ((x4j219 = 49 → wja_Mo_instruction_726 mc ms Post a0 y_j219 s_j219 d_j219 e_j219 x1j219) ∧ (¬ (x4j219 = 49) → ((x4j219 = 50 → wja_Mo_instruction_726 mc ms Post a0 y_j219 s_j219 d_j219 e_j219 x1j219) ∧ (¬ (x4j219 = 50) → ((x4j219 = 51 → wja_Mo_instruction_726 mc ms Post a0 y_j219 s_j219 d_j219 e_j219 x1j219) ∧ (¬ (x4j219 = 51) → ((x4j219 = 52 → wja_Mo_instruction_726 mc ms Post a0 y_j219 s_j219 d_j219 e_j219 x1j219) ∧ (¬ (x4j219 = 52) → ((x4j219 = 53 → wja_Mo_instruction_726 mc ms Post a0 y_j219 s_j219 d_j219 e_j219 x1j219) ∧ (¬ (x4j219 = 53) → ((x4j219 = 54 → wja_Mo_instruction_726 mc ms Post a0 y_j219 s_j219 d_j219 e_j219 x1j219) ∧ (¬ (x4j219 = 54) → ((x4j219 = 55 → wja_Mo_instruction_726 mc ms Post a0 y_j219 s_j219 d_j219 e_j219 x1j219) ∧ (¬ (x4j219 = 55) → ((x4j219 = 56 → wu_Mo_pop y_j219 (fun (s_122 : St) (r_121 : Int32) => ((¬ r_121 = 0 → ∃ mc_128 ms_129 : Nat, (d_j219 + mc_128 ≤ mc ∧ e_j219 + ms_129 ≤ ms) ∧ wa_Mo_unwind mc_128 ms_129 y_j219 (fun (y_125 : Ly) (s_124 : St) (d_126 e_127 : Nat) => (d_j219 + d_126 ≤ mc ∧ e_j219 + e_127 ≤ ms) ∧ wja_Mo_instruction_689 mc ms Post a0 y_125 s_124 (d_j219 + d_126) (e_j219 + e_127)) s_122 a0 r_121) ∧ (r_121 = 0 → ∃ mc_136 ms_137 : Nat, (d_j219 + mc_136 ≤ mc ∧ e_j219 + ms_137 ≤ ms) ∧ wa_Mo_throwNew mc_136 ms_137 y_j219 (fun (y_133 : Ly) (s_132 : St) (d_134 e_135 : Nat) => (d_j219 + d_134 ≤ mc ∧ e_j219 + e_135 ≤ ms) ∧ wja_Mo_instruction_689 mc ms Post a0 y_133 s_132 (d_j219 + d_134) (e_j219 + e_135)) s_122 a0 0 2))) s_j219 a0 x1j219) ∧ (¬ (x4j219 = 56) → ((x4j219 = 57 → wu_Mo_endFrame y_j219 (fun (s_140 : St) => Post y_j219 s_140 1 d_j219 e_j219) s_j219 a0 0 0 0) ∧ (¬ (x4j219 = 57) → ((x4j219 = 58 → wu_Mo_pop y_j219 (fun (s_142 : St) (r_141 : Int32) => wu_Mo_endFrame y_j219 (fun (s_144 : St) => Post y_j219 s_144 1 d_j219 e_j219) s_142 a0 1 r_141 0) s_j219 a0 x1j219) ∧ (¬ (x4j219 = 58) → ((x4j219 = 59 → wu_Mo_pop y_j219 (fun (s_146 : St) (r_145 : Int32) => wu_Mo_endFrame y_j219 (fun (s_148 : St) => Post y_j219 s_148 1 d_j219 e_j219) s_146 a0 1 r_145 1) s_j219 a0 x1j219) ∧ (¬ (x4j219 = 59) → wja_Mo_instruction_726 mc ms Post a0 y_j219 s_j219 d_j219 e_j219 x1j219)))))))))))))))))))))))))))))))))))))))))))))))))))))))))))))))))))))))))))))))))))))))))))))))))))))))))))))))))))))))
def wja_Mo_instruction_196 (mc ms : Nat) (Post : Ly → St → Int32 → Nat → Nat → Prop) (a0 : Nat) (y_j196 : Ly) (s_j196 : St) (d_j196 e_j196 : Nat) (x1j196 : Int32) (x3j196 : Int32) (x4j196 : Int32) : Prop := (d_j196 ≤ mc ∧ e_j196 ≤ ms) ∧ ((x4j196 < 8 → wja_Mo_instruction_219 mc ms Post a0 y_j196 s_j196 d_j196 e_j196 x1j196 x3j196 x4j196) ∧ (¬ (x4j196 < 8) → ((18 < x4j196 → wja_Mo_instruction_219 mc ms Post a0 y_j196 s_j196 d_j196 e_j196 x1j196 x3j196 x4j196) ∧ (¬ (18 < x4j196) → ∃ mc_154 ms_155 : Nat, (d_j196 + mc_154 ≤ mc ∧ e_j196 + ms_155 ≤ ms) ∧ wa_Mo_reckon mc_154 ms_155 y_j196 (fun (y_151 : Ly) (s_150 : St) (d_152 e_153 : Nat) => (d_j196 + d_152 ≤ mc ∧ e_j196 + e_153 ≤ ms) ∧ Post y_151 s_150 1 (d_j196 + d_152) (e_j196 + e_153)) s_j196 a0 x1j196 x4j196))))
def wja_Mo_instruction_107 (mc ms : Nat) (Post : Ly → St → Int32 → Nat → Nat → Prop) (a0 : Nat) (y_j107 : Ly) (s_j107 : St) (d_j107 e_j107 : Nat) (x1j107 : Int32) (x3j107 : Int32) (x4j107 : Int32) : Prop := (d_j107 ≤ mc ∧ e_j107 ≤ ms) ∧ ((¬ x4j107 = 41 → ((x4j107 = 54 → wja_Mo_instruction_135 mc ms Post a0 y_j107 s_j107 d_j107 e_j107 x1j107 x3j107 x4j107) ∧ (¬ (x4j107 = 54) → ((¬ x4j107 = 55 → ((x4j107 = 60 → wja_Mo_instruction_158 mc ms Post a0 y_j107 s_j107 d_j107 e_j107 x1j107 x4j107) ∧ (¬ (x4j107 = 60) → ((¬ x4j107 = 61 → wu_Mo_tally y_j107 (fun (s_29 : St) => ((x4j107 < 23 → wja_Mo_instruction_196 mc ms Post a0 y_j107 s_29 d_j107 e_j107 x1j107 x3j107 x4j107) ∧ (¬ (x4j107 < 23) → ((40 < x4j107 → wja_Mo_instruction_196 mc ms Post a0 y_j107 s_29 d_j107 e_j107 x1j107 x3j107 x4j107) ∧ (¬ (40 < x4j107) → wu_Mo_goStep y_j107 (fun (s_158 : St) => Post y_j107 s_158 1 d_j107 e_j107) s_29 a0 x1j107 x3j107 x4j107))))) s_j107 a0 x4j107) ∧ (x4j107 = 61 → wja_Mo_instruction_158 mc ms Post a0 y_j107 s_j107 d_j107 e_j107 x1j107 x4j107))))) ∧ (x4j107 = 55 → wja_Mo_instruction_135 mc ms Post a0 y_j107 s_j107 d_j107 e_j107 x1j107 x3j107 x4j107))))) ∧ (x4j107 = 41 → ∃ mc_164 ms_165 : Nat, (d_j107 + mc_164 ≤ mc ∧ e_j107 + ms_165 ≤ ms) ∧ wa_Mo_newStep mc_164 ms_165 y_j107 (fun (y_161 : Ly) (s_160 : St) (r_159 : Int32) (d_162 e_163 : Nat) => (d_j107 + d_162 ≤ mc ∧ e_j107 + e_163 ≤ ms) ∧ Post y_161 s_160 r_159 (d_j107 + d_162) (e_j107 + e_163)) s_j107 a0 x1j107 x3j107))
def wja_Mo_instruction_83 (mc ms : Nat) (Post : Ly → St → Int32 → Nat → Nat → Prop) (a0 : Nat) (y_j83 : Ly) (s_j83 : St) (d_j83 e_j83 : Nat) (x1j83 : Int32) (x2j83 : Int32) (x3j83 : Int32) (x4j83 : Int32) : Prop := (d_j83 ≤ mc ∧ e_j83 ≤ ms) ∧ ((x4j83 < 50 → wja_Mo_instruction_107 mc ms Post a0 y_j83 s_j83 d_j83 e_j83 x1j83 x3j83 x4j83) ∧ (¬ (x4j83 < 50) → ((53 < x4j83 → wja_Mo_instruction_107 mc ms Post a0 y_j83 s_j83 d_j83 e_j83 x1j83 x3j83 x4j83) ∧ (¬ (53 < x4j83) → ∃ mc_172 ms_173 : Nat, (d_j83 + mc_172 ≤ mc ∧ e_j83 + ms_173 ≤ ms) ∧ wa_Mo_callStep mc_172 ms_173 y_j83 (fun (y_169 : Ly) (s_168 : St) (r_167 : Int32) (d_170 e_171 : Nat) => (d_j83 + d_170 ≤ mc ∧ e_j83 + e_171 ≤ ms) ∧ Post y_169 s_168 r_167 (d_j83 + d_170) (e_j83 + e_171)) s_j83 a0 x1j83 x2j83 x3j83 x4j83))))
def wa_Mo_instruction (mc ms : Nat) (y : Ly) (Post : Ly → St → Int32 → Nat → Nat → Prop) (σ : St) (a0 : Nat) : Prop := ∃ b_1 : Nat, sO σ a0 46 = some b_1 ∧ cl b_1 = 12 ∧ xA y σ b_1 14 ((sV σ b_1 16) - 1) (fun x_4 : Int32 => xA y σ b_1 17 x_4 (fun x_5 : Int32 => ∃ b_6 : Nat, sO σ a0 45 = some b_6 ∧ cl b_6 = 13 ∧ xA y σ b_6 23 x_5 (fun x_9 : Int32 => xA y σ b_1 18 x_4 (fun x_10 : Int32 => xA y σ b_6 30 (x_9 + x_10) (fun x_11 : Int32 => ((x_11 < 46 → wja_Mo_instruction_83 mc ms Post a0 y σ 0 0 x_4 x_5 (x_9 + x_10) x_11) ∧ (¬ (x_11 < 46) → ((49 < x_11 → wja_Mo_instruction_83 mc ms Post a0 y σ 0 0 x_4 x_5 (x_9 + x_10) x_11) ∧ (¬ (49 < x_11) → ∃ mc_180 ms_181 : Nat, (0 + mc_180 ≤ mc ∧ 0 + ms_181 ≤ ms) ∧ wa_Mo_fieldStep mc_180 ms_181 y (fun (y_177 : Ly) (s_176 : St) (r_175 : Int32) (d_178 e_179 : Nat) => (0 + d_178 ≤ mc ∧ 0 + e_179 ≤ ms) ∧ Post y_177 s_176 r_175 (0 + d_178) (0 + e_179)) σ a0 x_4 x_5 (x_9 + x_10) x_11)))))))))
set_option maxHeartbeats 4000000 in
set_option maxRecDepth 100000 in
theorem ca_Mo_instruction (l : Launch) (D : va_G) (g : Nat → ClassId) (ad : Nat → Nat) (mc ms : Nat) (y : Ly) (Post : Ly → St → Int32 → Nat → Nat → Prop) (σ : St) (a0 : Nat) (sz uz : Nat) (h_a0 : cl a0 = 14) (h : wa_Mo_instruction mc ms y Post σ a0) : Met l y_Mo_instruction (mw y_Mo_instruction b_Mo_instruction 8 (some .int)) (ra_Mo_instruction mc ms) (PCu g D [] [.ref (ad a0)] sz uz (ws g ad y σ)) (va_Qi (fun (r : Int32) (u : Ly × St × Nat × Nat) => Post u.1 u.2.1 r u.2.2.1 u.2.2.2) (QU D (va_A (ws g ad y σ) sz) (fun u => ws g ad u.1 u.2.1) sz uz (fun u => u.2.2.1) (fun u => u.2.2.2)) (va_A (ws g ad y σ) sz)) mc ms (va_A (ws g ad y σ) sz) := by
  refine ofIu (by decide +kernel) (Nat.le_of_ble_eq_true rfl) ?_
  intro p e s m args below meth c A Q ls H locs G hsz hP hD hS hl hret
  subst hsz
  have hl : lv_has ls 8 [(0, .ref (ad a0))] := hl
  have hd : 0 ≤ mc ∧ 0 ≤ ms := ⟨Nat.zero_le _, Nat.zero_le _⟩
  unfold wa_Mo_instruction at h
  refine lv_aload_n G.1 G.2.1 d_Mo_instruction_0 rfl (lv_at hl 0 rfl) ?_
  obtain ⟨b_1, e_2, c_3, h⟩ := h
  refine ugf (v := .ref (ad b_1)) G hP h_a0 iMo rfl 46 (by decide) rfl q3110 rfl (by show va_rf ((sO σ a0 46).map ad) = _; rw [e_2]; rfl) d_Mo_instruction_1 ?_
  refine ugfN (v := .ref (yP y b_1 14)) G hP c_3 iMr rfl 14 (by decide) rfl q3002 rfl rfl d_Mo_instruction_4 ?_
  refine lv_aload_n G.1 G.2.1 d_Mo_instruction_7 rfl (lv_at hl 0 rfl) ?_
  refine ugf (v := .ref (ad b_1)) G hP h_a0 iMo rfl 46 (by decide) rfl q3110 rfl (by show va_rf ((sO σ a0 46).map ad) = _; rw [e_2]; rfl) d_Mo_instruction_8 ?_
  refine ugfN (v := .int (sV σ b_1 16)) G hP c_3 iMr rfl 16 (by decide) rfl q3005 rfl rfl d_Mo_instruction_11 ?_
  refine lv_iconst (v := 1) G.1 G.2.1 d_Mo_instruction_14 (by decide) ?_
  refine lv_isub G.1 G.2.1 d_Mo_instruction_15 ?_
  refine uiald G hP (kdp c_3 rfl) (typ c_3 rfl) h d_Mo_instruction_16 (fun x_4 h => ?_)
  refine lv_istore_n (lv' := [(1, .int x_4), (0, .ref (ad a0))]) G.1 G.2.1 d_Mo_instruction_17 rfl hl (by decide) rfl (fun ls hl => ?_)
  refine lv_aload_n G.1 G.2.1 d_Mo_instruction_18 rfl (lv_at hl 1 rfl) ?_
  refine W.eq (g2 := F0 m 19 ls [.ref (ad a0)]) rfl ?_
  refine ugf (v := .ref (ad b_1)) G hP h_a0 iMo rfl 46 (by decide) rfl q3110 rfl (by show va_rf ((sO σ a0 46).map ad) = _; rw [e_2]; rfl) d_Mo_instruction_19 ?_
  refine ugfN (v := .ref (yP y b_1 17)) G hP c_3 iMr rfl 17 (by decide) rfl q3007 rfl rfl d_Mo_instruction_22 ?_
  refine lv_iload_n G.1 G.2.1 d_Mo_instruction_25 rfl (lv_at hl 0 rfl) ?_
  refine uiald G hP (kdp c_3 rfl) (typ c_3 rfl) h d_Mo_instruction_26 (fun x_5 h => ?_)
  refine lv_istore_n (lv' := [(2, .int x_5), (1, .int x_4), (0, .ref (ad a0))]) G.1 G.2.1 d_Mo_instruction_27 rfl hl (by decide) rfl (fun ls hl => ?_)
  refine lv_aload_n G.1 G.2.1 d_Mo_instruction_28 rfl (lv_at hl 2 rfl) ?_
  obtain ⟨b_6, e_7, c_8, h⟩ := h
  refine ugf (v := .ref (ad b_6)) G hP h_a0 iMo rfl 45 (by decide) rfl q3109 rfl (by show va_rf ((sO σ a0 45).map ad) = _; rw [e_7]; rfl) d_Mo_instruction_29 ?_
  refine ugfN (v := .ref (yP y b_6 23)) G hP c_8 iMw rfl 23 (by decide) rfl q2750 rfl rfl d_Mo_instruction_32 ?_
  refine lv_iload_n G.1 G.2.1 d_Mo_instruction_35 rfl (lv_at hl 0 rfl) ?_
  refine uiald G hP (kdp c_8 rfl) (typ c_8 rfl) h d_Mo_instruction_36 (fun x_9 h => ?_)
  refine lv_aload_n G.1 G.2.1 d_Mo_instruction_37 rfl (lv_at hl 2 rfl) ?_
  refine ugf (v := .ref (ad b_1)) G hP h_a0 iMo rfl 46 (by decide) rfl q3110 rfl (by show va_rf ((sO σ a0 46).map ad) = _; rw [e_2]; rfl) d_Mo_instruction_38 ?_
  refine W.eq (g2 := F0 m 41 ls [.ref (ad b_1), .int x_9]) rfl ?_
  refine ugfN (v := .ref (yP y b_1 18)) G hP c_3 iMr rfl 18 (by decide) rfl q3009 rfl rfl d_Mo_instruction_41 ?_
  refine lv_iload_n G.1 G.2.1 d_Mo_instruction_44 rfl (lv_at hl 1 rfl) ?_
  refine uiald G hP (kdp c_3 rfl) (typ c_3 rfl) h d_Mo_instruction_45 (fun x_10 h => ?_)
  refine lv_iadd G.1 G.2.1 d_Mo_instruction_46 ?_
  refine lv_istore_n (lv' := [(3, .int (x_9 + x_10)), (2, .int x_5), (1, .int x_4), (0, .ref (ad a0))]) G.1 G.2.1 d_Mo_instruction_47 rfl hl (by decide) rfl (fun ls hl => ?_)
  refine lv_aload_n G.1 G.2.1 d_Mo_instruction_48 rfl (lv_at hl 3 rfl) ?_
  refine ugf (v := .ref (ad b_6)) G hP h_a0 iMo rfl 45 (by decide) rfl q3109 rfl (by show va_rf ((sO σ a0 45).map ad) = _; rw [e_7]; rfl) d_Mo_instruction_49 ?_
  refine ugfN (v := .ref (yP y b_6 30)) G hP c_8 iMw rfl 30 (by decide) rfl q2764 rfl rfl d_Mo_instruction_52 ?_
  refine lv_iload_n G.1 G.2.1 d_Mo_instruction_55 rfl (lv_at hl 0 rfl) ?_
  refine ubald G hP (kdp c_8 rfl) (typ c_8 rfl) h d_Mo_instruction_56 (fun x_11 h => ?_)
  refine lv_istore (lv' := [(4, .int x_11), (3, .int (x_9 + x_10)), (2, .int x_5), (1, .int x_4), (0, .ref (ad a0))]) G.1 G.2.1 d_Mo_instruction_57 hl (by decide) rfl (fun ls hl => ?_)
  refine lv_iload G.1 G.2.1 d_Mo_instruction_59 (lv_at hl 0 rfl) ?_
  refine W.eq (g2 := F0 m 61 ls [.int x_11]) rfl ?_
  refine lv_bipush (v := 46) G.1 G.2.1 d_Mo_instruction_61 (by decide) ?_
  have J_83 : ∀ (y_j83 : Ly) (s_j83 : St) (d_j83 e_j83 : Nat) (x1j83 : Int32) (x2j83 : Int32) (x3j83 : Int32) (x4j83 : Int32) (H : Heap) (locs : List Loc), wja_Mo_instruction_83 mc ms Post a0 y_j83 s_j83 d_j83 e_j83 x1j83 x2j83 x3j83 x4j83 → va_P D CL (ws g ad y_j83 s_j83) H → va_D A (ws g ad y_j83 s_j83) → va_S A s.heap H locs → ∀ ls, lv_has ls 8 [(0, .ref (ad a0)), (1, .int x1j83), (2, .int x2j83), (3, .int x3j83), (4, .int x4j83)] → W p l e (ra_Mo_instruction mc ms) s m args below meth c H locs d_j83 e_j83 Q (F0 m 83 ls []) := by
    intro y_j83 s_j83 d_j83 e_j83 x1j83 x2j83 x3j83 x4j83 H locs h hP hD hS ls hl
    unfold wja_Mo_instruction_83 at h
    obtain ⟨hd, h⟩ := h
    refine lv_iload G.1 G.2.1 d_Mo_instruction_83 (lv_at hl 4 rfl) ?_
    refine lv_bipush (v := 50) G.1 G.2.1 d_Mo_instruction_85 (by decide) ?_
    have J_107 : ∀ (y_j107 : Ly) (s_j107 : St) (d_j107 e_j107 : Nat) (x1j107 : Int32) (x3j107 : Int32) (x4j107 : Int32) (H : Heap) (locs : List Loc), wja_Mo_instruction_107 mc ms Post a0 y_j107 s_j107 d_j107 e_j107 x1j107 x3j107 x4j107 → va_P D CL (ws g ad y_j107 s_j107) H → va_D A (ws g ad y_j107 s_j107) → va_S A s.heap H locs → ∀ ls, lv_has ls 8 [(0, .ref (ad a0)), (1, .int x1j107), (3, .int x3j107), (4, .int x4j107)] → W p l e (ra_Mo_instruction mc ms) s m args below meth c H locs d_j107 e_j107 Q (F0 m 107 ls []) := by
      intro y_j107 s_j107 d_j107 e_j107 x1j107 x3j107 x4j107 H locs h hP hD hS ls hl
      unfold wja_Mo_instruction_107 at h
      obtain ⟨hd, h⟩ := h
      refine lv_iload G.1 G.2.1 d_Mo_instruction_107 (lv_at hl 3 rfl) ?_
      refine lv_bipush (v := 41) G.1 G.2.1 d_Mo_instruction_109 (by decide) ?_
      refine lv_icmp_ne (tgt := 121) G.1 G.2.1 d_Mo_instruction_111 (by decide) (fun c111 => ?_) (fun c111 => ?_)
      · skip
        have h := h.1 c111
        refine lv_iload G.1 G.2.1 d_Mo_instruction_121 (lv_at hl 3 rfl) ?_
        refine lv_bipush (v := 54) G.1 G.2.1 d_Mo_instruction_123 (by decide) ?_
        have J_135 : ∀ (y_j135 : Ly) (s_j135 : St) (d_j135 e_j135 : Nat) (x1j135 : Int32) (x3j135 : Int32) (x4j135 : Int32) (H : Heap) (locs : List Loc), wja_Mo_instruction_135 mc ms Post a0 y_j135 s_j135 d_j135 e_j135 x1j135 x3j135 x4j135 → va_P D CL (ws g ad y_j135 s_j135) H → va_D A (ws g ad y_j135 s_j135) → va_S A s.heap H locs → ∀ ls, lv_has ls 8 [(0, .ref (ad a0)), (1, .int x1j135), (3, .int x3j135), (4, .int x4j135)] → W p l e (ra_Mo_instruction mc ms) s m args below meth c H locs d_j135 e_j135 Q (F0 m 135 ls []) := by
          intro y_j135 s_j135 d_j135 e_j135 x1j135 x3j135 x4j135 H locs h hP hD hS ls hl
          unfold wja_Mo_instruction_135 at h
          obtain ⟨hd, h⟩ := h
          refine lv_aload_n G.1 G.2.1 d_Mo_instruction_135 rfl (lv_at hl 0 rfl) ?_
          refine lv_iload_n G.1 G.2.1 d_Mo_instruction_136 rfl (lv_at hl 1 rfl) ?_
          refine lv_iload_n G.1 G.2.1 d_Mo_instruction_137 rfl (lv_at hl 2 rfl) ?_
          refine lv_iload G.1 G.2.1 d_Mo_instruction_138 (lv_at hl 3 rfl) ?_
          obtain ⟨mc_17, ms_18, hr_19, h⟩ := h
          refine uaVi (As := [.int x1j135, .int x3j135, .int x4j135]) (rest := []) G hP hD hS (ca_Mo_classStep l D g ad mc_17 ms_18 y_j135 _ s_j135 a0 x1j135 x3j135 x4j135 H.size (us H) h_a0 h) w9_Mo_classStep q3979 ⟨Nat.le_of_ble_eq_true rfl, Nat.le_of_ble_eq_true rfl⟩ rfl rfl h_a0 (q := (RMo, TMo, 131)) rfl rfl hl.1 rfl (Nat.le_of_ble_eq_true rfl) rfl hr_19 d_Mo_instruction_140 (fun r_12 y_14 s_13 d_15 e_16 H locs h hP hD hS => ?_)
          have hl := lv_sub (l' := []) hl [] rfl
          obtain ⟨hd, h⟩ := h
          exact hret _ (y_14, s_13, d_j135 + d_15, e_j135 + e_16) _ _ _ _ _ ls h hP hD hS (Nat.le_refl _) (Nat.le_refl _) hd.1 hd.2 d_Mo_instruction_143
        refine lv_icmp_eq (tgt := 135) G.1 G.2.1 d_Mo_instruction_125 (by decide) (fun c125 => ?_) (fun c125 => ?_)
        · skip
          have h := h.1 c125
          exact J_135 y_j107 s_j107 d_j107 e_j107 x1j107 x3j107 x4j107 H locs h hP hD hS ls (lv_sub hl [0, 1, 2, 3] rfl)
        · skip
          have h := h.2 c125
          refine lv_iload G.1 G.2.1 d_Mo_instruction_128 (lv_at hl 3 rfl) ?_
          refine lv_bipush (v := 55) G.1 G.2.1 d_Mo_instruction_130 (by decide) ?_
          refine lv_icmp_ne (tgt := 144) G.1 G.2.1 d_Mo_instruction_132 (by decide) (fun c132 => ?_) (fun c132 => ?_)
          · skip
            have h := h.1 c132
            refine lv_iload G.1 G.2.1 d_Mo_instruction_144 (lv_at hl 3 rfl) ?_
            refine lv_bipush (v := 60) G.1 G.2.1 d_Mo_instruction_146 (by decide) ?_
            have J_158 : ∀ (y_j158 : Ly) (s_j158 : St) (d_j158 e_j158 : Nat) (x1j158 : Int32) (x4j158 : Int32) (H : Heap) (locs : List Loc), wja_Mo_instruction_158 mc ms Post a0 y_j158 s_j158 d_j158 e_j158 x1j158 x4j158 → va_P D CL (ws g ad y_j158 s_j158) H → va_D A (ws g ad y_j158 s_j158) → va_S A s.heap H locs → ∀ ls, lv_has ls 8 [(0, .ref (ad a0)), (1, .int x1j158), (4, .int x4j158)] → W p l e (ra_Mo_instruction mc ms) s m args below meth c H locs d_j158 e_j158 Q (F0 m 158 ls []) := by
              intro y_j158 s_j158 d_j158 e_j158 x1j158 x4j158 H locs h hP hD hS ls hl
              unfold wja_Mo_instruction_158 at h
              obtain ⟨hd, h⟩ := h
              refine lv_aload_n G.1 G.2.1 d_Mo_instruction_158 rfl (lv_at hl 0 rfl) ?_
              refine lv_iload_n G.1 G.2.1 d_Mo_instruction_159 rfl (lv_at hl 1 rfl) ?_
              refine lv_iload G.1 G.2.1 d_Mo_instruction_160 (lv_at hl 2 rfl) ?_
              obtain ⟨mc_25, ms_26, hr_27, h⟩ := h
              refine uaVi (As := [.int x1j158, .int x4j158]) (rest := []) G hP hD hS (ca_Mo_lockStep l D g ad mc_25 ms_26 y_j158 _ s_j158 a0 x1j158 x4j158 H.size (us H) h_a0 h) w9_Mo_lockStep q3983 ⟨Nat.le_of_ble_eq_true rfl, Nat.le_of_ble_eq_true rfl⟩ rfl rfl h_a0 (q := (RMo, TMo, 131)) rfl rfl hl.1 rfl (Nat.le_of_ble_eq_true rfl) rfl hr_27 d_Mo_instruction_162 (fun r_20 y_22 s_21 d_23 e_24 H locs h hP hD hS => ?_)
              have hl := lv_sub (l' := []) hl [] rfl
              obtain ⟨hd, h⟩ := h
              exact hret _ (y_22, s_21, d_j158 + d_23, e_j158 + e_24) _ _ _ _ _ ls h hP hD hS (Nat.le_refl _) (Nat.le_refl _) hd.1 hd.2 d_Mo_instruction_165
            refine W.eq (g2 := F0 m 148 ls [.int 60, .int x4j107]) rfl ?_
            refine lv_icmp_eq (tgt := 158) G.1 G.2.1 d_Mo_instruction_148 (by decide) (fun c148 => ?_) (fun c148 => ?_)
            · skip
              have h := h.1 c148
              exact J_158 y_j107 s_j107 d_j107 e_j107 x1j107 x4j107 H locs h hP hD hS ls (lv_sub hl [0, 1, 3] rfl)
            · skip
              have h := h.2 c148
              refine lv_iload G.1 G.2.1 d_Mo_instruction_151 (lv_at hl 3 rfl) ?_
              refine lv_bipush (v := 61) G.1 G.2.1 d_Mo_instruction_153 (by decide) ?_
              refine lv_icmp_ne (tgt := 166) G.1 G.2.1 d_Mo_instruction_155 (by decide) (fun c155 => ?_) (fun c155 => ?_)
              · skip
                have h := h.1 c155
                refine lv_aload_n G.1 G.2.1 d_Mo_instruction_166 rfl (lv_at hl 0 rfl) ?_
                refine lv_iload G.1 G.2.1 d_Mo_instruction_167 (lv_at hl 3 rfl) ?_
                refine ucVv (As := [.int x4j107]) (rest := []) G hP hD hS (cu_Mo_tally l D g ad y_j107 _ s_j107 a0 x4j107 H.size h_a0 h) w9_Mo_tally q3943 ⟨Nat.le_of_ble_eq_true rfl, Nat.le_of_ble_eq_true rfl⟩ rfl rfl h_a0 (q := (RMo, TMo, 131)) rfl rfl hl.1 rfl (Nat.le_of_ble_eq_true rfl) rfl hd d_Mo_instruction_169 (fun s_29 H locs h hP hD hS => ?_)
                refine lv_iload G.1 G.2.1 d_Mo_instruction_172 (lv_at hl 3 rfl) ?_
                refine lv_bipush (v := 23) G.1 G.2.1 d_Mo_instruction_174 (by decide) ?_
                have J_196 : ∀ (y_j196 : Ly) (s_j196 : St) (d_j196 e_j196 : Nat) (x1j196 : Int32) (x3j196 : Int32) (x4j196 : Int32) (H : Heap) (locs : List Loc), wja_Mo_instruction_196 mc ms Post a0 y_j196 s_j196 d_j196 e_j196 x1j196 x3j196 x4j196 → va_P D CL (ws g ad y_j196 s_j196) H → va_D A (ws g ad y_j196 s_j196) → va_S A s.heap H locs → ∀ ls, lv_has ls 8 [(0, .ref (ad a0)), (1, .int x1j196), (3, .int x3j196), (4, .int x4j196)] → W p l e (ra_Mo_instruction mc ms) s m args below meth c H locs d_j196 e_j196 Q (F0 m 196 ls []) := by
                  intro y_j196 s_j196 d_j196 e_j196 x1j196 x3j196 x4j196 H locs h hP hD hS ls hl
                  unfold wja_Mo_instruction_196 at h
                  obtain ⟨hd, h⟩ := h
                  refine lv_iload G.1 G.2.1 d_Mo_instruction_196 (lv_at hl 3 rfl) ?_
                  refine lv_bipush (v := 8) G.1 G.2.1 d_Mo_instruction_198 (by decide) ?_
                  have J_219 : ∀ (y_j219 : Ly) (s_j219 : St) (d_j219 e_j219 : Nat) (x1j219 : Int32) (x3j219 : Int32) (x4j219 : Int32) (H : Heap) (locs : List Loc), wja_Mo_instruction_219 mc ms Post a0 y_j219 s_j219 d_j219 e_j219 x1j219 x3j219 x4j219 → va_P D CL (ws g ad y_j219 s_j219) H → va_D A (ws g ad y_j219 s_j219) → va_S A s.heap H locs → ∀ ls, lv_has ls 8 [(0, .ref (ad a0)), (1, .int x1j219), (3, .int x3j219), (4, .int x4j219)] → W p l e (ra_Mo_instruction mc ms) s m args below meth c H locs d_j219 e_j219 Q (F0 m 219 ls []) := by
                    intro y_j219 s_j219 d_j219 e_j219 x1j219 x3j219 x4j219 H locs h hP hD hS ls hl
                    unfold wja_Mo_instruction_219 at h
                    obtain ⟨hd, h⟩ := h
                    refine lv_aload_n G.1 G.2.1 d_Mo_instruction_219 rfl (lv_at hl 0 rfl) ?_
                    obtain ⟨b_30, e_31, c_32, h⟩ := h
                    refine ugf (v := .ref (ad b_30)) G hP h_a0 iMo rfl 45 (by decide) rfl q3109 rfl (by show va_rf ((sO s_j219 a0 45).map ad) = _; rw [e_31]; rfl) d_Mo_instruction_220 ?_
                    refine ugfN (v := .ref (yP y_j219 b_30 31)) G hP c_32 iMw rfl 31 (by decide) rfl q2766 rfl rfl d_Mo_instruction_223 ?_
                    refine lv_iload_n G.1 G.2.1 d_Mo_instruction_226 rfl (lv_at hl 2 rfl) ?_
                    refine uiald G hP (kdp c_32 rfl) (typ c_32 rfl) h d_Mo_instruction_227 (fun x_33 h => ?_)
                    refine lv_istore (lv' := [(5, .int x_33), (0, .ref (ad a0)), (1, .int x1j219), (3, .int x3j219), (4, .int x4j219)]) G.1 G.2.1 d_Mo_instruction_228 hl (by decide) rfl (fun ls hl => ?_)
                    refine lv_bipush (v := 44) G.1 G.2.1 d_Mo_instruction_230 (by decide) ?_
                    refine lv_iload_n G.1 G.2.1 d_Mo_instruction_232 rfl (lv_at hl 2 rfl) ?_
                    refine lv_imul G.1 G.2.1 d_Mo_instruction_233 ?_
                    refine lv_iload G.1 G.2.1 d_Mo_instruction_234 (lv_at hl 0 rfl) ?_
                    refine lv_iadd G.1 G.2.1 d_Mo_instruction_236 ?_
                    refine W.eq (g2 := F0 m 237 ls [.int ((44 * x1j219) + x_33)]) rfl ?_
                    refine lv_istore (lv' := [(6, .int ((44 * x1j219) + x_33)), (5, .int x_33), (0, .ref (ad a0)), (1, .int x1j219), (3, .int x3j219), (4, .int x4j219)]) G.1 G.2.1 d_Mo_instruction_237 hl (by decide) rfl (fun ls hl => ?_)
                    refine lv_iload G.1 G.2.1 d_Mo_instruction_239 (lv_at hl 5 rfl) ?_
                    have J_726 : ∀ (y_j726 : Ly) (s_j726 : St) (d_j726 e_j726 : Nat) (x1j726 : Int32) (H : Heap) (locs : List Loc), wja_Mo_instruction_726 mc ms Post a0 y_j726 s_j726 d_j726 e_j726 x1j726 → va_P D CL (ws g ad y_j726 s_j726) H → va_D A (ws g ad y_j726 s_j726) → va_S A s.heap H locs → ∀ ls, lv_has ls 8 [(0, .ref (ad a0)), (1, .int x1j726)] → W p l e (ra_Mo_instruction mc ms) s m args below meth c H locs d_j726 e_j726 Q (F0 m 726 ls []) := by
                      intro y_j726 s_j726 d_j726 e_j726 x1j726 H locs h hP hD hS ls hl
                      unfold wja_Mo_instruction_726 at h
                      obtain ⟨hd, h⟩ := h
                      refine lv_aload_n G.1 G.2.1 d_Mo_instruction_726 rfl (lv_at hl 0 rfl) ?_
                      obtain ⟨b_34, e_35, c_36, h⟩ := h
                      refine ugf (v := .ref (ad b_34)) G hP h_a0 iMo rfl 46 (by decide) rfl q3110 rfl (by show va_rf ((sO s_j726 a0 46).map ad) = _; rw [e_35]; rfl) d_Mo_instruction_727 ?_
                      refine ugfN (v := .ref (yP y_j726 b_34 18)) G hP c_36 iMr rfl 18 (by decide) rfl q3009 rfl rfl d_Mo_instruction_730 ?_
                      refine lv_iload_n G.1 G.2.1 d_Mo_instruction_733 rfl (lv_at hl 1 rfl) ?_
                      refine lv_dup2_11 G.1 G.2.1 d_Mo_instruction_734 rfl rfl ?_
                      refine uiald G hP (kdp c_36 rfl) (typ c_36 rfl) h d_Mo_instruction_735 (fun x_37 h => ?_)
                      refine lv_iconst (v := 1) G.1 G.2.1 d_Mo_instruction_736 (by decide) ?_
                      refine lv_iadd G.1 G.2.1 d_Mo_instruction_737 ?_
                      refine uiast G hP hD hS (kdp c_36 rfl) (typ c_36 rfl) h d_Mo_instruction_738 (fun s_38 H locs h hP hD hS => ?_)
                      refine lv_iconst (v := 1) G.1 G.2.1 d_Mo_instruction_739 (by decide) ?_
                      exact hret _ (y_j726, s_38, d_j726, e_j726) _ _ _ _ _ ls h hP hD hS (Nat.le_refl _) (Nat.le_refl _) hd.1 hd.2 d_Mo_instruction_740
                    by_cases e241_1 : x4j219 = 1
                    · skip
                      have h := h.1 e241_1
                      refine lv_tableIn (off := 251) (tgt := 492) G.1 G.2.1 d_Mo_instruction_241 (by rw [e241_1]; decide) (by rw [e241_1]; decide) (by rw [e241_1]; rfl) (by decide) ?_
                      refine lv_aload_n G.1 G.2.1 d_Mo_instruction_492 rfl (lv_at hl 2 rfl) ?_
                      refine lv_iload_n G.1 G.2.1 d_Mo_instruction_493 rfl (lv_at hl 3 rfl) ?_
                      refine lv_iload G.1 G.2.1 d_Mo_instruction_494 (lv_at hl 1 rfl) ?_
                      refine lv_iconst (v := 0) G.1 G.2.1 d_Mo_instruction_496 (by decide) ?_
                      refine ucVv (As := [.int x1j219, .int x_33, .int 0]) (rest := []) G hP hD hS (cu_Mo_push l D g ad y_j219 _ s_j219 a0 x1j219 x_33 0 H.size h_a0 h) w9_Mo_push q3907 ⟨Nat.le_of_ble_eq_true rfl, Nat.le_of_ble_eq_true rfl⟩ rfl rfl h_a0 (q := (RMo, TMo, 131)) rfl rfl hl.1 rfl (Nat.le_of_ble_eq_true rfl) rfl hd d_Mo_instruction_497 (fun s_40 H locs h hP hD hS => ?_)
                      refine lv_goto (tgt := 726) G.1 G.2.1 d_Mo_instruction_500 (by decide) ?_
                      exact J_726 y_j219 s_40 d_j219 e_j219 x1j219 H locs h hP hD hS ls (lv_sub hl [2, 3] rfl)
                    replace h := h.2 e241_1
                    by_cases e241_2 : x4j219 = 2
                    · skip
                      have h := h.1 e241_2
                      refine lv_tableIn (off := 262) (tgt := 503) G.1 G.2.1 d_Mo_instruction_241 (by rw [e241_2]; decide) (by rw [e241_2]; decide) (by rw [e241_2]; rfl) (by decide) ?_
                      refine lv_aload_n G.1 G.2.1 d_Mo_instruction_503 rfl (lv_at hl 2 rfl) ?_
                      refine lv_iload_n G.1 G.2.1 d_Mo_instruction_504 rfl (lv_at hl 3 rfl) ?_
                      refine lv_iconst (v := 0) G.1 G.2.1 d_Mo_instruction_505 (by decide) ?_
                      refine lv_iconst (v := 1) G.1 G.2.1 d_Mo_instruction_506 (by decide) ?_
                      refine ucVv (As := [.int x1j219, .int 0, .int 1]) (rest := []) G hP hD hS (cu_Mo_push l D g ad y_j219 _ s_j219 a0 x1j219 0 1 H.size h_a0 h) w9_Mo_push q3907 ⟨Nat.le_of_ble_eq_true rfl, Nat.le_of_ble_eq_true rfl⟩ rfl rfl h_a0 (q := (RMo, TMo, 131)) rfl rfl hl.1 rfl (Nat.le_of_ble_eq_true rfl) rfl hd d_Mo_instruction_507 (fun s_42 H locs h hP hD hS => ?_)
                      refine lv_goto (tgt := 726) G.1 G.2.1 d_Mo_instruction_510 (by decide) ?_
                      exact J_726 y_j219 s_42 d_j219 e_j219 x1j219 H locs h hP hD hS ls (lv_sub hl [2, 3] rfl)
                    replace h := h.2 e241_2
                    by_cases e241_3 : x4j219 = 3
                    · skip
                      have h := h.1 e241_3
                      refine lv_tableIn (off := 272) (tgt := 513) G.1 G.2.1 d_Mo_instruction_241 (by rw [e241_3]; decide) (by rw [e241_3]; decide) (by rw [e241_3]; rfl) (by decide) ?_
                      refine lv_aload_n G.1 G.2.1 d_Mo_instruction_513 rfl (lv_at hl 2 rfl) ?_
                      refine lv_iload_n G.1 G.2.1 d_Mo_instruction_514 rfl (lv_at hl 3 rfl) ?_
                      refine lv_aload_n G.1 G.2.1 d_Mo_instruction_515 rfl (lv_at hl 2 rfl) ?_
                      obtain ⟨b_43, e_44, c_45, h⟩ := h
                      refine ugf (v := .ref (ad b_43)) G hP h_a0 iMo rfl 46 (by decide) rfl q3110 rfl (by show va_rf ((sO s_j219 a0 46).map ad) = _; rw [e_44]; rfl) d_Mo_instruction_516 ?_
                      refine ugfN (v := .ref (yP y_j219 b_43 20)) G hP c_45 iMr rfl 20 (by decide) rfl q3013 rfl rfl d_Mo_instruction_519 ?_
                      refine lv_iload G.1 G.2.1 d_Mo_instruction_522 (lv_at hl 0 rfl) ?_
                      refine uiald G hP (kdp c_45 rfl) (typ c_45 rfl) h d_Mo_instruction_524 (fun x_46 h => ?_)
                      refine lv_iconst (v := 0) G.1 G.2.1 d_Mo_instruction_525 (by decide) ?_
                      refine ucVv (As := [.int x1j219, .int x_46, .int 0]) (rest := []) G hP hD hS (cu_Mo_push l D g ad y_j219 _ s_j219 a0 x1j219 x_46 0 H.size h_a0 h) w9_Mo_push q3907 ⟨Nat.le_of_ble_eq_true rfl, Nat.le_of_ble_eq_true rfl⟩ rfl rfl h_a0 (q := (RMo, TMo, 131)) rfl rfl hl.1 rfl (Nat.le_of_ble_eq_true rfl) rfl hd d_Mo_instruction_526 (fun s_48 H locs h hP hD hS => ?_)
                      refine W.eq (g2 := F0 m 529 ls []) rfl ?_
                      refine lv_goto (tgt := 726) G.1 G.2.1 d_Mo_instruction_529 (by decide) ?_
                      exact J_726 y_j219 s_48 d_j219 e_j219 x1j219 H locs h hP hD hS ls (lv_sub hl [2, 3] rfl)
                    replace h := h.2 e241_3
                    by_cases e241_4 : x4j219 = 4
                    · skip
                      have h := h.1 e241_4
                      refine lv_tableIn (off := 291) (tgt := 532) G.1 G.2.1 d_Mo_instruction_241 (by rw [e241_4]; decide) (by rw [e241_4]; decide) (by rw [e241_4]; rfl) (by decide) ?_
                      refine lv_aload_n G.1 G.2.1 d_Mo_instruction_532 rfl (lv_at hl 2 rfl) ?_
                      refine lv_iload_n G.1 G.2.1 d_Mo_instruction_533 rfl (lv_at hl 3 rfl) ?_
                      refine lv_aload_n G.1 G.2.1 d_Mo_instruction_534 rfl (lv_at hl 2 rfl) ?_
                      obtain ⟨b_49, e_50, c_51, h⟩ := h
                      refine ugf (v := .ref (ad b_49)) G hP h_a0 iMo rfl 46 (by decide) rfl q3110 rfl (by show va_rf ((sO s_j219 a0 46).map ad) = _; rw [e_50]; rfl) d_Mo_instruction_535 ?_
                      refine ugfN (v := .ref (yP y_j219 b_49 20)) G hP c_51 iMr rfl 20 (by decide) rfl q3013 rfl rfl d_Mo_instruction_538 ?_
                      refine lv_iload G.1 G.2.1 d_Mo_instruction_541 (lv_at hl 0 rfl) ?_
                      refine uiald G hP (kdp c_51 rfl) (typ c_51 rfl) h d_Mo_instruction_543 (fun x_52 h => ?_)
                      refine lv_iconst (v := 1) G.1 G.2.1 d_Mo_instruction_544 (by decide) ?_
                      refine ucVv (As := [.int x1j219, .int x_52, .int 1]) (rest := []) G hP hD hS (cu_Mo_push l D g ad y_j219 _ s_j219 a0 x1j219 x_52 1 H.size h_a0 h) w9_Mo_push q3907 ⟨Nat.le_of_ble_eq_true rfl, Nat.le_of_ble_eq_true rfl⟩ rfl rfl h_a0 (q := (RMo, TMo, 131)) rfl rfl hl.1 rfl (Nat.le_of_ble_eq_true rfl) rfl hd d_Mo_instruction_545 (fun s_54 H locs h hP hD hS => ?_)
                      refine W.eq (g2 := F0 m 548 ls []) rfl ?_
                      refine lv_goto (tgt := 726) G.1 G.2.1 d_Mo_instruction_548 (by decide) ?_
                      exact J_726 y_j219 s_54 d_j219 e_j219 x1j219 H locs h hP hD hS ls (lv_sub hl [2, 3] rfl)
                    replace h := h.2 e241_4
                    by_cases e241_5 : x4j219 = 5
                    · skip
                      have h := h.1 e241_5
                      refine lv_tableIn (off := 310) (tgt := 551) G.1 G.2.1 d_Mo_instruction_241 (by rw [e241_5]; decide) (by rw [e241_5]; decide) (by rw [e241_5]; rfl) (by decide) ?_
                      refine lv_aload_n G.1 G.2.1 d_Mo_instruction_551 rfl (lv_at hl 2 rfl) ?_
                      obtain ⟨b_55, e_56, c_57, h⟩ := h
                      refine ugf (v := .ref (ad b_55)) G hP h_a0 iMo rfl 46 (by decide) rfl q3110 rfl (by show va_rf ((sO s_j219 a0 46).map ad) = _; rw [e_56]; rfl) d_Mo_instruction_552 ?_
                      refine ugfN (v := .ref (yP y_j219 b_55 20)) G hP c_57 iMr rfl 20 (by decide) rfl q3013 rfl rfl d_Mo_instruction_555 ?_
                      refine lv_iload G.1 G.2.1 d_Mo_instruction_558 (lv_at hl 0 rfl) ?_
                      refine lv_aload_n G.1 G.2.1 d_Mo_instruction_560 rfl (lv_at hl 2 rfl) ?_
                      refine lv_iload_n G.1 G.2.1 d_Mo_instruction_561 rfl (lv_at hl 3 rfl) ?_
                      refine ucVi (As := [.int x1j219]) (rest := [.int ((44 * x1j219) + x_33), .ref (yP y_j219 b_55 20)]) G hP hD hS (cu_Mo_pop l D g ad y_j219 _ s_j219 a0 x1j219 H.size h_a0 h) w9_Mo_pop q3947 ⟨Nat.le_of_ble_eq_true rfl, Nat.le_of_ble_eq_true rfl⟩ rfl rfl h_a0 (q := (RMo, TMo, 131)) rfl rfl hl.1 rfl (Nat.le_of_ble_eq_true rfl) rfl hd d_Mo_instruction_562 (fun r_58 s_59 H locs h hP hD hS => ?_)
                      refine uiast G hP hD hS (kdp c_57 rfl) (typ c_57 rfl) h d_Mo_instruction_565 (fun s_60 H locs h hP hD hS => ?_)
                      refine lv_aload_n G.1 G.2.1 d_Mo_instruction_566 rfl (lv_at hl 2 rfl) ?_
                      refine W.eq (g2 := F0 m 567 ls [.ref (ad a0)]) rfl ?_
                      obtain ⟨b_61, e_62, c_63, h⟩ := h
                      refine ugf (v := .ref (ad b_61)) G hP h_a0 iMo rfl 46 (by decide) rfl q3110 rfl (by show va_rf ((sO s_60 a0 46).map ad) = _; rw [e_62]; rfl) d_Mo_instruction_567 ?_
                      refine ugfN (v := .ref (yP y_j219 b_61 21)) G hP c_63 iMr rfl 21 (by decide) rfl q3015 rfl rfl d_Mo_instruction_570 ?_
                      refine lv_iload G.1 G.2.1 d_Mo_instruction_573 (lv_at hl 0 rfl) ?_
                      refine lv_iconst (v := 0) G.1 G.2.1 d_Mo_instruction_575 (by decide) ?_
                      refine uzast G hP hD hS (kdp c_63 rfl) (typ c_63 rfl) h d_Mo_instruction_576 (fun s_64 H locs h hP hD hS => ?_)
                      refine lv_goto (tgt := 726) G.1 G.2.1 d_Mo_instruction_577 (by decide) ?_
                      exact J_726 y_j219 s_64 d_j219 e_j219 x1j219 H locs h hP hD hS ls (lv_sub hl [2, 3] rfl)
                    replace h := h.2 e241_5
                    by_cases e241_6 : x4j219 = 6
                    · skip
                      have h := h.1 e241_6
                      refine lv_tableIn (off := 339) (tgt := 580) G.1 G.2.1 d_Mo_instruction_241 (by rw [e241_6]; decide) (by rw [e241_6]; decide) (by rw [e241_6]; rfl) (by decide) ?_
                      refine lv_aload_n G.1 G.2.1 d_Mo_instruction_580 rfl (lv_at hl 2 rfl) ?_
                      obtain ⟨b_65, e_66, c_67, h⟩ := h
                      refine ugf (v := .ref (ad b_65)) G hP h_a0 iMo rfl 46 (by decide) rfl q3110 rfl (by show va_rf ((sO s_j219 a0 46).map ad) = _; rw [e_66]; rfl) d_Mo_instruction_581 ?_
                      refine ugfN (v := .ref (yP y_j219 b_65 20)) G hP c_67 iMr rfl 20 (by decide) rfl q3013 rfl rfl d_Mo_instruction_584 ?_
                      refine lv_iload G.1 G.2.1 d_Mo_instruction_587 (lv_at hl 0 rfl) ?_
                      refine lv_aload_n G.1 G.2.1 d_Mo_instruction_589 rfl (lv_at hl 2 rfl) ?_
                      refine lv_iload_n G.1 G.2.1 d_Mo_instruction_590 rfl (lv_at hl 3 rfl) ?_
                      refine ucVi (As := [.int x1j219]) (rest := [.int ((44 * x1j219) + x_33), .ref (yP y_j219 b_65 20)]) G hP hD hS (cu_Mo_pop l D g ad y_j219 _ s_j219 a0 x1j219 H.size h_a0 h) w9_Mo_pop q3947 ⟨Nat.le_of_ble_eq_true rfl, Nat.le_of_ble_eq_true rfl⟩ rfl rfl h_a0 (q := (RMo, TMo, 131)) rfl rfl hl.1 rfl (Nat.le_of_ble_eq_true rfl) rfl hd d_Mo_instruction_591 (fun r_68 s_69 H locs h hP hD hS => ?_)
                      refine uiast G hP hD hS (kdp c_67 rfl) (typ c_67 rfl) h d_Mo_instruction_594 (fun s_70 H locs h hP hD hS => ?_)
                      refine lv_aload_n G.1 G.2.1 d_Mo_instruction_595 rfl (lv_at hl 2 rfl) ?_
                      refine W.eq (g2 := F0 m 596 ls [.ref (ad a0)]) rfl ?_
                      obtain ⟨b_71, e_72, c_73, h⟩ := h
                      refine ugf (v := .ref (ad b_71)) G hP h_a0 iMo rfl 46 (by decide) rfl q3110 rfl (by show va_rf ((sO s_70 a0 46).map ad) = _; rw [e_72]; rfl) d_Mo_instruction_596 ?_
                      refine ugfN (v := .ref (yP y_j219 b_71 21)) G hP c_73 iMr rfl 21 (by decide) rfl q3015 rfl rfl d_Mo_instruction_599 ?_
                      refine lv_iload G.1 G.2.1 d_Mo_instruction_602 (lv_at hl 0 rfl) ?_
                      refine lv_iconst (v := 1) G.1 G.2.1 d_Mo_instruction_604 (by decide) ?_
                      refine uzast G hP hD hS (kdp c_73 rfl) (typ c_73 rfl) h d_Mo_instruction_605 (fun s_74 H locs h hP hD hS => ?_)
                      refine lv_goto (tgt := 726) G.1 G.2.1 d_Mo_instruction_606 (by decide) ?_
                      exact J_726 y_j219 s_74 d_j219 e_j219 x1j219 H locs h hP hD hS ls (lv_sub hl [2, 3] rfl)
                    replace h := h.2 e241_6
                    by_cases e241_7 : x4j219 = 7
                    · skip
                      have h := h.1 e241_7
                      refine lv_tableIn (off := 368) (tgt := 609) G.1 G.2.1 d_Mo_instruction_241 (by rw [e241_7]; decide) (by rw [e241_7]; decide) (by rw [e241_7]; rfl) (by decide) ?_
                      refine lv_aload_n G.1 G.2.1 d_Mo_instruction_609 rfl (lv_at hl 2 rfl) ?_
                      obtain ⟨b_75, e_76, c_77, h⟩ := h
                      refine ugf (v := .ref (ad b_75)) G hP h_a0 iMo rfl 46 (by decide) rfl q3110 rfl (by show va_rf ((sO s_j219 a0 46).map ad) = _; rw [e_76]; rfl) d_Mo_instruction_610 ?_
                      refine ugfN (v := .ref (yP y_j219 b_75 20)) G hP c_77 iMr rfl 20 (by decide) rfl q3013 rfl rfl d_Mo_instruction_613 ?_
                      refine lv_iload G.1 G.2.1 d_Mo_instruction_616 (lv_at hl 0 rfl) ?_
                      refine lv_dup2_11 G.1 G.2.1 d_Mo_instruction_618 rfl rfl ?_
                      refine uiald G hP (kdp c_77 rfl) (typ c_77 rfl) h d_Mo_instruction_619 (fun x_78 h => ?_)
                      refine lv_aload_n G.1 G.2.1 d_Mo_instruction_620 rfl (lv_at hl 2 rfl) ?_
                      refine ugf (v := .ref (ad b_30)) G hP h_a0 iMo rfl 45 (by decide) rfl q3109 rfl (by show va_rf ((sO s_j219 a0 45).map ad) = _; rw [e_31]; rfl) d_Mo_instruction_621 ?_
                      refine ugfN (v := .ref (yP y_j219 b_30 32)) G hP c_32 iMw rfl 32 (by decide) rfl q2768 rfl rfl d_Mo_instruction_624 ?_
                      refine W.eq (g2 := F0 m 627 ls [.ref (yP y_j219 b_30 32), .int x_78, .int ((44 * x1j219) + x_33), .ref (yP y_j219 b_75 20)]) rfl ?_
                      refine lv_iload_n G.1 G.2.1 d_Mo_instruction_627 rfl (lv_at hl 4 rfl) ?_
                      refine uiald G hP (kdp c_32 rfl) (typ c_32 rfl) h d_Mo_instruction_628 (fun x_79 h => ?_)
                      refine lv_iadd G.1 G.2.1 d_Mo_instruction_629 ?_
                      refine uiast G hP hD hS (kdp c_77 rfl) (typ c_77 rfl) h d_Mo_instruction_630 (fun s_80 H locs h hP hD hS => ?_)
                      refine lv_goto (tgt := 726) G.1 G.2.1 d_Mo_instruction_631 (by decide) ?_
                      exact J_726 y_j219 s_80 d_j219 e_j219 x1j219 H locs h hP hD hS ls (lv_sub hl [2, 3] rfl)
                    replace h := h.2 e241_7
                    by_cases e241_8 : x4j219 = 8
                    · skip
                      have h := h.1 e241_8
                      refine lv_tableIn (off := 485) (tgt := 726) G.1 G.2.1 d_Mo_instruction_241 (by rw [e241_8]; decide) (by rw [e241_8]; decide) (by rw [e241_8]; rfl) (by decide) ?_
                      exact J_726 y_j219 s_j219 d_j219 e_j219 x1j219 H locs h hP hD hS ls (lv_sub hl [2, 3] rfl)
                    replace h := h.2 e241_8
                    by_cases e241_9 : x4j219 = 9
                    · skip
                      have h := h.1 e241_9
                      refine lv_tableIn (off := 485) (tgt := 726) G.1 G.2.1 d_Mo_instruction_241 (by rw [e241_9]; decide) (by rw [e241_9]; decide) (by rw [e241_9]; rfl) (by decide) ?_
                      exact J_726 y_j219 s_j219 d_j219 e_j219 x1j219 H locs h hP hD hS ls (lv_sub hl [2, 3] rfl)
                    replace h := h.2 e241_9
                    by_cases e241_10 : x4j219 = 10
                    · skip
                      have h := h.1 e241_10
                      refine lv_tableIn (off := 485) (tgt := 726) G.1 G.2.1 d_Mo_instruction_241 (by rw [e241_10]; decide) (by rw [e241_10]; decide) (by rw [e241_10]; rfl) (by decide) ?_
                      exact J_726 y_j219 s_j219 d_j219 e_j219 x1j219 H locs h hP hD hS ls (lv_sub hl [2, 3] rfl)
                    replace h := h.2 e241_10
                    by_cases e241_11 : x4j219 = 11
                    · skip
                      have h := h.1 e241_11
                      refine lv_tableIn (off := 485) (tgt := 726) G.1 G.2.1 d_Mo_instruction_241 (by rw [e241_11]; decide) (by rw [e241_11]; decide) (by rw [e241_11]; rfl) (by decide) ?_
                      exact J_726 y_j219 s_j219 d_j219 e_j219 x1j219 H locs h hP hD hS ls (lv_sub hl [2, 3] rfl)
                    replace h := h.2 e241_11
                    by_cases e241_12 : x4j219 = 12
                    · skip
                      have h := h.1 e241_12
                      refine lv_tableIn (off := 485) (tgt := 726) G.1 G.2.1 d_Mo_instruction_241 (by rw [e241_12]; decide) (by rw [e241_12]; decide) (by rw [e241_12]; rfl) (by decide) ?_
                      exact J_726 y_j219 s_j219 d_j219 e_j219 x1j219 H locs h hP hD hS ls (lv_sub hl [2, 3] rfl)
                    replace h := h.2 e241_12
                    by_cases e241_13 : x4j219 = 13
                    · skip
                      have h := h.1 e241_13
                      refine lv_tableIn (off := 485) (tgt := 726) G.1 G.2.1 d_Mo_instruction_241 (by rw [e241_13]; decide) (by rw [e241_13]; decide) (by rw [e241_13]; rfl) (by decide) ?_
                      exact J_726 y_j219 s_j219 d_j219 e_j219 x1j219 H locs h hP hD hS ls (lv_sub hl [2, 3] rfl)
                    replace h := h.2 e241_13
                    by_cases e241_14 : x4j219 = 14
                    · skip
                      have h := h.1 e241_14
                      refine lv_tableIn (off := 485) (tgt := 726) G.1 G.2.1 d_Mo_instruction_241 (by rw [e241_14]; decide) (by rw [e241_14]; decide) (by rw [e241_14]; rfl) (by decide) ?_
                      exact J_726 y_j219 s_j219 d_j219 e_j219 x1j219 H locs h hP hD hS ls (lv_sub hl [2, 3] rfl)
                    replace h := h.2 e241_14
                    by_cases e241_15 : x4j219 = 15
                    · skip
                      have h := h.1 e241_15
                      refine lv_tableIn (off := 485) (tgt := 726) G.1 G.2.1 d_Mo_instruction_241 (by rw [e241_15]; decide) (by rw [e241_15]; decide) (by rw [e241_15]; rfl) (by decide) ?_
                      exact J_726 y_j219 s_j219 d_j219 e_j219 x1j219 H locs h hP hD hS ls (lv_sub hl [2, 3] rfl)
                    replace h := h.2 e241_15
                    by_cases e241_16 : x4j219 = 16
                    · skip
                      have h := h.1 e241_16
                      refine lv_tableIn (off := 485) (tgt := 726) G.1 G.2.1 d_Mo_instruction_241 (by rw [e241_16]; decide) (by rw [e241_16]; decide) (by rw [e241_16]; rfl) (by decide) ?_
                      exact J_726 y_j219 s_j219 d_j219 e_j219 x1j219 H locs h hP hD hS ls (lv_sub hl [2, 3] rfl)
                    replace h := h.2 e241_16
                    by_cases e241_17 : x4j219 = 17
                    · skip
                      have h := h.1 e241_17
                      refine lv_tableIn (off := 485) (tgt := 726) G.1 G.2.1 d_Mo_instruction_241 (by rw [e241_17]; decide) (by rw [e241_17]; decide) (by rw [e241_17]; rfl) (by decide) ?_
                      exact J_726 y_j219 s_j219 d_j219 e_j219 x1j219 H locs h hP hD hS ls (lv_sub hl [2, 3] rfl)
                    replace h := h.2 e241_17
                    by_cases e241_18 : x4j219 = 18
                    · skip
                      have h := h.1 e241_18
                      refine lv_tableIn (off := 485) (tgt := 726) G.1 G.2.1 d_Mo_instruction_241 (by rw [e241_18]; decide) (by rw [e241_18]; decide) (by rw [e241_18]; rfl) (by decide) ?_
                      exact J_726 y_j219 s_j219 d_j219 e_j219 x1j219 H locs h hP hD hS ls (lv_sub hl [2, 3] rfl)
                    replace h := h.2 e241_18
                    by_cases e241_19 : x4j219 = 19
                    · skip
                      have h := h.1 e241_19
                      refine lv_tableIn (off := 393) (tgt := 634) G.1 G.2.1 d_Mo_instruction_241 (by rw [e241_19]; decide) (by rw [e241_19]; decide) (by rw [e241_19]; rfl) (by decide) ?_
                      refine lv_aload_n G.1 G.2.1 d_Mo_instruction_634 rfl (lv_at hl 2 rfl) ?_
                      refine lv_iload_n G.1 G.2.1 d_Mo_instruction_635 rfl (lv_at hl 3 rfl) ?_
                      refine ucVi (As := [.int x1j219]) (rest := []) G hP hD hS (cu_Mo_pop l D g ad y_j219 _ s_j219 a0 x1j219 H.size h_a0 h) w9_Mo_pop q3947 ⟨Nat.le_of_ble_eq_true rfl, Nat.le_of_ble_eq_true rfl⟩ rfl rfl h_a0 (q := (RMo, TMo, 131)) rfl rfl hl.1 rfl (Nat.le_of_ble_eq_true rfl) rfl hd d_Mo_instruction_636 (fun r_81 s_82 H locs h hP hD hS => ?_)
                      refine lv_pop G.1 G.2.1 d_Mo_instruction_639 rfl ?_
                      refine lv_goto (tgt := 726) G.1 G.2.1 d_Mo_instruction_640 (by decide) ?_
                      exact J_726 y_j219 s_82 d_j219 e_j219 x1j219 H locs h hP hD hS ls (lv_sub hl [2, 3] rfl)
                    replace h := h.2 e241_19
                    by_cases e241_20 : x4j219 = 20
                    · skip
                      have h := h.1 e241_20
                      refine lv_tableIn (off := 402) (tgt := 643) G.1 G.2.1 d_Mo_instruction_241 (by rw [e241_20]; decide) (by rw [e241_20]; decide) (by rw [e241_20]; rfl) (by decide) ?_
                      refine lv_aload_n G.1 G.2.1 d_Mo_instruction_643 rfl (lv_at hl 2 rfl) ?_
                      refine lv_iload_n G.1 G.2.1 d_Mo_instruction_644 rfl (lv_at hl 3 rfl) ?_
                      refine lv_iload G.1 G.2.1 d_Mo_instruction_645 (lv_at hl 5 rfl) ?_
                      refine ucVv (As := [.int x1j219, .int x4j219]) (rest := []) G hP hD hS (cu_Mo_turnStep l D g ad y_j219 _ s_j219 a0 x1j219 x4j219 H.size h_a0 h) w9_Mo_turnStep q3999 ⟨Nat.le_of_ble_eq_true rfl, Nat.le_of_ble_eq_true rfl⟩ rfl rfl h_a0 (q := (RMo, TMo, 131)) rfl rfl hl.1 rfl (Nat.le_of_ble_eq_true rfl) rfl hd d_Mo_instruction_647 (fun s_84 H locs h hP hD hS => ?_)
                      refine lv_goto (tgt := 726) G.1 G.2.1 d_Mo_instruction_650 (by decide) ?_
                      exact J_726 y_j219 s_84 d_j219 e_j219 x1j219 H locs h hP hD hS ls (lv_sub hl [2, 3] rfl)
                    replace h := h.2 e241_20
                    by_cases e241_21 : x4j219 = 21
                    · skip
                      have h := h.1 e241_21
                      refine lv_tableIn (off := 402) (tgt := 643) G.1 G.2.1 d_Mo_instruction_241 (by rw [e241_21]; decide) (by rw [e241_21]; decide) (by rw [e241_21]; rfl) (by decide) ?_
                      refine lv_aload_n G.1 G.2.1 d_Mo_instruction_643 rfl (lv_at hl 2 rfl) ?_
                      refine lv_iload_n G.1 G.2.1 d_Mo_instruction_644 rfl (lv_at hl 3 rfl) ?_
                      refine lv_iload G.1 G.2.1 d_Mo_instruction_645 (lv_at hl 5 rfl) ?_
                      refine ucVv (As := [.int x1j219, .int x4j219]) (rest := []) G hP hD hS (cu_Mo_turnStep l D g ad y_j219 _ s_j219 a0 x1j219 x4j219 H.size h_a0 h) w9_Mo_turnStep q3999 ⟨Nat.le_of_ble_eq_true rfl, Nat.le_of_ble_eq_true rfl⟩ rfl rfl h_a0 (q := (RMo, TMo, 131)) rfl rfl hl.1 rfl (Nat.le_of_ble_eq_true rfl) rfl hd d_Mo_instruction_647 (fun s_86 H locs h hP hD hS => ?_)
                      refine lv_goto (tgt := 726) G.1 G.2.1 d_Mo_instruction_650 (by decide) ?_
                      exact J_726 y_j219 s_86 d_j219 e_j219 x1j219 H locs h hP hD hS ls (lv_sub hl [2, 3] rfl)
                    replace h := h.2 e241_21
                    by_cases e241_22 : x4j219 = 22
                    · skip
                      have h := h.1 e241_22
                      refine lv_tableIn (off := 402) (tgt := 643) G.1 G.2.1 d_Mo_instruction_241 (by rw [e241_22]; decide) (by rw [e241_22]; decide) (by rw [e241_22]; rfl) (by decide) ?_
                      refine lv_aload_n G.1 G.2.1 d_Mo_instruction_643 rfl (lv_at hl 2 rfl) ?_
                      refine lv_iload_n G.1 G.2.1 d_Mo_instruction_644 rfl (lv_at hl 3 rfl) ?_
                      refine lv_iload G.1 G.2.1 d_Mo_instruction_645 (lv_at hl 5 rfl) ?_
                      refine ucVv (As := [.int x1j219, .int x4j219]) (rest := []) G hP hD hS (cu_Mo_turnStep l D g ad y_j219 _ s_j219 a0 x1j219 x4j219 H.size h_a0 h) w9_Mo_turnStep q3999 ⟨Nat.le_of_ble_eq_true rfl, Nat.le_of_ble_eq_true rfl⟩ rfl rfl h_a0 (q := (RMo, TMo, 131)) rfl rfl hl.1 rfl (Nat.le_of_ble_eq_true rfl) rfl hd d_Mo_instruction_647 (fun s_88 H locs h hP hD hS => ?_)
                      refine lv_goto (tgt := 726) G.1 G.2.1 d_Mo_instruction_650 (by decide) ?_
                      exact J_726 y_j219 s_88 d_j219 e_j219 x1j219 H locs h hP hD hS ls (lv_sub hl [2, 3] rfl)
                    replace h := h.2 e241_22
                    by_cases e241_23 : x4j219 = 23
                    · skip
                      have h := h.1 e241_23
                      refine lv_tableIn (off := 485) (tgt := 726) G.1 G.2.1 d_Mo_instruction_241 (by rw [e241_23]; decide) (by rw [e241_23]; decide) (by rw [e241_23]; rfl) (by decide) ?_
                      exact J_726 y_j219 s_j219 d_j219 e_j219 x1j219 H locs h hP hD hS ls (lv_sub hl [2, 3] rfl)
                    replace h := h.2 e241_23
                    by_cases e241_24 : x4j219 = 24
                    · skip
                      have h := h.1 e241_24
                      refine lv_tableIn (off := 485) (tgt := 726) G.1 G.2.1 d_Mo_instruction_241 (by rw [e241_24]; decide) (by rw [e241_24]; decide) (by rw [e241_24]; rfl) (by decide) ?_
                      exact J_726 y_j219 s_j219 d_j219 e_j219 x1j219 H locs h hP hD hS ls (lv_sub hl [2, 3] rfl)
                    replace h := h.2 e241_24
                    by_cases e241_25 : x4j219 = 25
                    · skip
                      have h := h.1 e241_25
                      refine lv_tableIn (off := 485) (tgt := 726) G.1 G.2.1 d_Mo_instruction_241 (by rw [e241_25]; decide) (by rw [e241_25]; decide) (by rw [e241_25]; rfl) (by decide) ?_
                      exact J_726 y_j219 s_j219 d_j219 e_j219 x1j219 H locs h hP hD hS ls (lv_sub hl [2, 3] rfl)
                    replace h := h.2 e241_25
                    by_cases e241_26 : x4j219 = 26
                    · skip
                      have h := h.1 e241_26
                      refine lv_tableIn (off := 485) (tgt := 726) G.1 G.2.1 d_Mo_instruction_241 (by rw [e241_26]; decide) (by rw [e241_26]; decide) (by rw [e241_26]; rfl) (by decide) ?_
                      exact J_726 y_j219 s_j219 d_j219 e_j219 x1j219 H locs h hP hD hS ls (lv_sub hl [2, 3] rfl)
                    replace h := h.2 e241_26
                    by_cases e241_27 : x4j219 = 27
                    · skip
                      have h := h.1 e241_27
                      refine lv_tableIn (off := 485) (tgt := 726) G.1 G.2.1 d_Mo_instruction_241 (by rw [e241_27]; decide) (by rw [e241_27]; decide) (by rw [e241_27]; rfl) (by decide) ?_
                      exact J_726 y_j219 s_j219 d_j219 e_j219 x1j219 H locs h hP hD hS ls (lv_sub hl [2, 3] rfl)
                    replace h := h.2 e241_27
                    by_cases e241_28 : x4j219 = 28
                    · skip
                      have h := h.1 e241_28
                      refine lv_tableIn (off := 485) (tgt := 726) G.1 G.2.1 d_Mo_instruction_241 (by rw [e241_28]; decide) (by rw [e241_28]; decide) (by rw [e241_28]; rfl) (by decide) ?_
                      exact J_726 y_j219 s_j219 d_j219 e_j219 x1j219 H locs h hP hD hS ls (lv_sub hl [2, 3] rfl)
                    replace h := h.2 e241_28
                    by_cases e241_29 : x4j219 = 29
                    · skip
                      have h := h.1 e241_29
                      refine lv_tableIn (off := 485) (tgt := 726) G.1 G.2.1 d_Mo_instruction_241 (by rw [e241_29]; decide) (by rw [e241_29]; decide) (by rw [e241_29]; rfl) (by decide) ?_
                      exact J_726 y_j219 s_j219 d_j219 e_j219 x1j219 H locs h hP hD hS ls (lv_sub hl [2, 3] rfl)
                    replace h := h.2 e241_29
                    by_cases e241_30 : x4j219 = 30
                    · skip
                      have h := h.1 e241_30
                      refine lv_tableIn (off := 485) (tgt := 726) G.1 G.2.1 d_Mo_instruction_241 (by rw [e241_30]; decide) (by rw [e241_30]; decide) (by rw [e241_30]; rfl) (by decide) ?_
                      exact J_726 y_j219 s_j219 d_j219 e_j219 x1j219 H locs h hP hD hS ls (lv_sub hl [2, 3] rfl)
                    replace h := h.2 e241_30
                    by_cases e241_31 : x4j219 = 31
                    · skip
                      have h := h.1 e241_31
                      refine lv_tableIn (off := 485) (tgt := 726) G.1 G.2.1 d_Mo_instruction_241 (by rw [e241_31]; decide) (by rw [e241_31]; decide) (by rw [e241_31]; rfl) (by decide) ?_
                      exact J_726 y_j219 s_j219 d_j219 e_j219 x1j219 H locs h hP hD hS ls (lv_sub hl [2, 3] rfl)
                    replace h := h.2 e241_31
                    by_cases e241_32 : x4j219 = 32
                    · skip
                      have h := h.1 e241_32
                      refine lv_tableIn (off := 485) (tgt := 726) G.1 G.2.1 d_Mo_instruction_241 (by rw [e241_32]; decide) (by rw [e241_32]; decide) (by rw [e241_32]; rfl) (by decide) ?_
                      exact J_726 y_j219 s_j219 d_j219 e_j219 x1j219 H locs h hP hD hS ls (lv_sub hl [2, 3] rfl)
                    replace h := h.2 e241_32
                    by_cases e241_33 : x4j219 = 33
                    · skip
                      have h := h.1 e241_33
                      refine lv_tableIn (off := 485) (tgt := 726) G.1 G.2.1 d_Mo_instruction_241 (by rw [e241_33]; decide) (by rw [e241_33]; decide) (by rw [e241_33]; rfl) (by decide) ?_
                      exact J_726 y_j219 s_j219 d_j219 e_j219 x1j219 H locs h hP hD hS ls (lv_sub hl [2, 3] rfl)
                    replace h := h.2 e241_33
                    by_cases e241_34 : x4j219 = 34
                    · skip
                      have h := h.1 e241_34
                      refine lv_tableIn (off := 485) (tgt := 726) G.1 G.2.1 d_Mo_instruction_241 (by rw [e241_34]; decide) (by rw [e241_34]; decide) (by rw [e241_34]; rfl) (by decide) ?_
                      exact J_726 y_j219 s_j219 d_j219 e_j219 x1j219 H locs h hP hD hS ls (lv_sub hl [2, 3] rfl)
                    replace h := h.2 e241_34
                    by_cases e241_35 : x4j219 = 35
                    · skip
                      have h := h.1 e241_35
                      refine lv_tableIn (off := 485) (tgt := 726) G.1 G.2.1 d_Mo_instruction_241 (by rw [e241_35]; decide) (by rw [e241_35]; decide) (by rw [e241_35]; rfl) (by decide) ?_
                      exact J_726 y_j219 s_j219 d_j219 e_j219 x1j219 H locs h hP hD hS ls (lv_sub hl [2, 3] rfl)
                    replace h := h.2 e241_35
                    by_cases e241_36 : x4j219 = 36
                    · skip
                      have h := h.1 e241_36
                      refine lv_tableIn (off := 485) (tgt := 726) G.1 G.2.1 d_Mo_instruction_241 (by rw [e241_36]; decide) (by rw [e241_36]; decide) (by rw [e241_36]; rfl) (by decide) ?_
                      exact J_726 y_j219 s_j219 d_j219 e_j219 x1j219 H locs h hP hD hS ls (lv_sub hl [2, 3] rfl)
                    replace h := h.2 e241_36
                    by_cases e241_37 : x4j219 = 37
                    · skip
                      have h := h.1 e241_37
                      refine lv_tableIn (off := 485) (tgt := 726) G.1 G.2.1 d_Mo_instruction_241 (by rw [e241_37]; decide) (by rw [e241_37]; decide) (by rw [e241_37]; rfl) (by decide) ?_
                      exact J_726 y_j219 s_j219 d_j219 e_j219 x1j219 H locs h hP hD hS ls (lv_sub hl [2, 3] rfl)
                    replace h := h.2 e241_37
                    by_cases e241_38 : x4j219 = 38
                    · skip
                      have h := h.1 e241_38
                      refine lv_tableIn (off := 485) (tgt := 726) G.1 G.2.1 d_Mo_instruction_241 (by rw [e241_38]; decide) (by rw [e241_38]; decide) (by rw [e241_38]; rfl) (by decide) ?_
                      exact J_726 y_j219 s_j219 d_j219 e_j219 x1j219 H locs h hP hD hS ls (lv_sub hl [2, 3] rfl)
                    replace h := h.2 e241_38
                    by_cases e241_39 : x4j219 = 39
                    · skip
                      have h := h.1 e241_39
                      refine lv_tableIn (off := 485) (tgt := 726) G.1 G.2.1 d_Mo_instruction_241 (by rw [e241_39]; decide) (by rw [e241_39]; decide) (by rw [e241_39]; rfl) (by decide) ?_
                      exact J_726 y_j219 s_j219 d_j219 e_j219 x1j219 H locs h hP hD hS ls (lv_sub hl [2, 3] rfl)
                    replace h := h.2 e241_39
                    by_cases e241_40 : x4j219 = 40
                    · skip
                      have h := h.1 e241_40
                      refine lv_tableIn (off := 485) (tgt := 726) G.1 G.2.1 d_Mo_instruction_241 (by rw [e241_40]; decide) (by rw [e241_40]; decide) (by rw [e241_40]; rfl) (by decide) ?_
                      exact J_726 y_j219 s_j219 d_j219 e_j219 x1j219 H locs h hP hD hS ls (lv_sub hl [2, 3] rfl)
                    replace h := h.2 e241_40
                    by_cases e241_41 : x4j219 = 41
                    · skip
                      have h := h.1 e241_41
                      refine lv_tableIn (off := 485) (tgt := 726) G.1 G.2.1 d_Mo_instruction_241 (by rw [e241_41]; decide) (by rw [e241_41]; decide) (by rw [e241_41]; rfl) (by decide) ?_
                      exact J_726 y_j219 s_j219 d_j219 e_j219 x1j219 H locs h hP hD hS ls (lv_sub hl [2, 3] rfl)
                    replace h := h.2 e241_41
                    by_cases e241_42 : x4j219 = 42
                    · skip
                      have h := h.1 e241_42
                      refine lv_tableIn (off := 412) (tgt := 653) G.1 G.2.1 d_Mo_instruction_241 (by rw [e241_42]; decide) (by rw [e241_42]; decide) (by rw [e241_42]; rfl) (by decide) ?_
                      refine lv_aload_n G.1 G.2.1 d_Mo_instruction_653 rfl (lv_at hl 2 rfl) ?_
                      refine lv_iload_n G.1 G.2.1 d_Mo_instruction_654 rfl (lv_at hl 3 rfl) ?_
                      refine lv_iload G.1 G.2.1 d_Mo_instruction_655 (lv_at hl 5 rfl) ?_
                      obtain ⟨mc_94, ms_95, hr_96, h⟩ := h
                      refine uaVv (As := [.int x1j219, .int x4j219]) (rest := []) G hP hD hS (ca_Mo_rowStep l D g ad mc_94 ms_95 y_j219 _ s_j219 a0 x1j219 x4j219 H.size (us H) h_a0 h) w9_Mo_rowStep q4007 ⟨Nat.le_of_ble_eq_true rfl, Nat.le_of_ble_eq_true rfl⟩ rfl rfl h_a0 (q := (RMo, TMo, 131)) rfl rfl hl.1 rfl (Nat.le_of_ble_eq_true rfl) rfl hr_96 d_Mo_instruction_657 (fun y_91 s_90 d_92 e_93 H locs h hP hD hS => ?_)
                      have hl := lv_sub (l' := []) hl [] rfl
                      obtain ⟨hd, h⟩ := h
                      refine lv_iconst (v := 1) G.1 G.2.1 d_Mo_instruction_660 (by decide) ?_
                      exact hret _ (y_91, s_90, d_j219 + d_92, e_j219 + e_93) _ _ _ _ _ ls h hP hD hS (Nat.le_refl _) (Nat.le_refl _) hd.1 hd.2 d_Mo_instruction_661
                    replace h := h.2 e241_42
                    by_cases e241_43 : x4j219 = 43
                    · skip
                      have h := h.1 e241_43
                      refine lv_tableIn (off := 412) (tgt := 653) G.1 G.2.1 d_Mo_instruction_241 (by rw [e241_43]; decide) (by rw [e241_43]; decide) (by rw [e241_43]; rfl) (by decide) ?_
                      refine lv_aload_n G.1 G.2.1 d_Mo_instruction_653 rfl (lv_at hl 2 rfl) ?_
                      refine lv_iload_n G.1 G.2.1 d_Mo_instruction_654 rfl (lv_at hl 3 rfl) ?_
                      refine lv_iload G.1 G.2.1 d_Mo_instruction_655 (lv_at hl 5 rfl) ?_
                      obtain ⟨mc_102, ms_103, hr_104, h⟩ := h
                      refine uaVv (As := [.int x1j219, .int x4j219]) (rest := []) G hP hD hS (ca_Mo_rowStep l D g ad mc_102 ms_103 y_j219 _ s_j219 a0 x1j219 x4j219 H.size (us H) h_a0 h) w9_Mo_rowStep q4007 ⟨Nat.le_of_ble_eq_true rfl, Nat.le_of_ble_eq_true rfl⟩ rfl rfl h_a0 (q := (RMo, TMo, 131)) rfl rfl hl.1 rfl (Nat.le_of_ble_eq_true rfl) rfl hr_104 d_Mo_instruction_657 (fun y_99 s_98 d_100 e_101 H locs h hP hD hS => ?_)
                      have hl := lv_sub (l' := []) hl [] rfl
                      obtain ⟨hd, h⟩ := h
                      refine lv_iconst (v := 1) G.1 G.2.1 d_Mo_instruction_660 (by decide) ?_
                      exact hret _ (y_99, s_98, d_j219 + d_100, e_j219 + e_101) _ _ _ _ _ ls h hP hD hS (Nat.le_refl _) (Nat.le_refl _) hd.1 hd.2 d_Mo_instruction_661
                    replace h := h.2 e241_43
                    by_cases e241_44 : x4j219 = 44
                    · skip
                      have h := h.1 e241_44
                      refine lv_tableIn (off := 412) (tgt := 653) G.1 G.2.1 d_Mo_instruction_241 (by rw [e241_44]; decide) (by rw [e241_44]; decide) (by rw [e241_44]; rfl) (by decide) ?_
                      refine lv_aload_n G.1 G.2.1 d_Mo_instruction_653 rfl (lv_at hl 2 rfl) ?_
                      refine lv_iload_n G.1 G.2.1 d_Mo_instruction_654 rfl (lv_at hl 3 rfl) ?_
                      refine lv_iload G.1 G.2.1 d_Mo_instruction_655 (lv_at hl 5 rfl) ?_
                      obtain ⟨mc_110, ms_111, hr_112, h⟩ := h
                      refine uaVv (As := [.int x1j219, .int x4j219]) (rest := []) G hP hD hS (ca_Mo_rowStep l D g ad mc_110 ms_111 y_j219 _ s_j219 a0 x1j219 x4j219 H.size (us H) h_a0 h) w9_Mo_rowStep q4007 ⟨Nat.le_of_ble_eq_true rfl, Nat.le_of_ble_eq_true rfl⟩ rfl rfl h_a0 (q := (RMo, TMo, 131)) rfl rfl hl.1 rfl (Nat.le_of_ble_eq_true rfl) rfl hr_112 d_Mo_instruction_657 (fun y_107 s_106 d_108 e_109 H locs h hP hD hS => ?_)
                      have hl := lv_sub (l' := []) hl [] rfl
                      obtain ⟨hd, h⟩ := h
                      refine lv_iconst (v := 1) G.1 G.2.1 d_Mo_instruction_660 (by decide) ?_
                      exact hret _ (y_107, s_106, d_j219 + d_108, e_j219 + e_109) _ _ _ _ _ ls h hP hD hS (Nat.le_refl _) (Nat.le_refl _) hd.1 hd.2 d_Mo_instruction_661
                    replace h := h.2 e241_44
                    by_cases e241_45 : x4j219 = 45
                    · skip
                      have h := h.1 e241_45
                      refine lv_tableIn (off := 412) (tgt := 653) G.1 G.2.1 d_Mo_instruction_241 (by rw [e241_45]; decide) (by rw [e241_45]; decide) (by rw [e241_45]; rfl) (by decide) ?_
                      refine lv_aload_n G.1 G.2.1 d_Mo_instruction_653 rfl (lv_at hl 2 rfl) ?_
                      refine lv_iload_n G.1 G.2.1 d_Mo_instruction_654 rfl (lv_at hl 3 rfl) ?_
                      refine lv_iload G.1 G.2.1 d_Mo_instruction_655 (lv_at hl 5 rfl) ?_
                      obtain ⟨mc_118, ms_119, hr_120, h⟩ := h
                      refine uaVv (As := [.int x1j219, .int x4j219]) (rest := []) G hP hD hS (ca_Mo_rowStep l D g ad mc_118 ms_119 y_j219 _ s_j219 a0 x1j219 x4j219 H.size (us H) h_a0 h) w9_Mo_rowStep q4007 ⟨Nat.le_of_ble_eq_true rfl, Nat.le_of_ble_eq_true rfl⟩ rfl rfl h_a0 (q := (RMo, TMo, 131)) rfl rfl hl.1 rfl (Nat.le_of_ble_eq_true rfl) rfl hr_120 d_Mo_instruction_657 (fun y_115 s_114 d_116 e_117 H locs h hP hD hS => ?_)
                      have hl := lv_sub (l' := []) hl [] rfl
                      obtain ⟨hd, h⟩ := h
                      refine lv_iconst (v := 1) G.1 G.2.1 d_Mo_instruction_660 (by decide) ?_
                      exact hret _ (y_115, s_114, d_j219 + d_116, e_j219 + e_117) _ _ _ _ _ ls h hP hD hS (Nat.le_refl _) (Nat.le_refl _) hd.1 hd.2 d_Mo_instruction_661
                    replace h := h.2 e241_45
                    by_cases e241_46 : x4j219 = 46
                    · skip
                      have h := h.1 e241_46
                      refine lv_tableIn (off := 485) (tgt := 726) G.1 G.2.1 d_Mo_instruction_241 (by rw [e241_46]; decide) (by rw [e241_46]; decide) (by rw [e241_46]; rfl) (by decide) ?_
                      exact J_726 y_j219 s_j219 d_j219 e_j219 x1j219 H locs h hP hD hS ls (lv_sub hl [2, 3] rfl)
                    replace h := h.2 e241_46
                    by_cases e241_47 : x4j219 = 47
                    · skip
                      have h := h.1 e241_47
                      refine lv_tableIn (off := 485) (tgt := 726) G.1 G.2.1 d_Mo_instruction_241 (by rw [e241_47]; decide) (by rw [e241_47]; decide) (by rw [e241_47]; rfl) (by decide) ?_
                      exact J_726 y_j219 s_j219 d_j219 e_j219 x1j219 H locs h hP hD hS ls (lv_sub hl [2, 3] rfl)
                    replace h := h.2 e241_47
                    by_cases e241_48 : x4j219 = 48
                    · skip
                      have h := h.1 e241_48
                      refine lv_tableIn (off := 485) (tgt := 726) G.1 G.2.1 d_Mo_instruction_241 (by rw [e241_48]; decide) (by rw [e241_48]; decide) (by rw [e241_48]; rfl) (by decide) ?_
                      exact J_726 y_j219 s_j219 d_j219 e_j219 x1j219 H locs h hP hD hS ls (lv_sub hl [2, 3] rfl)
                    replace h := h.2 e241_48
                    by_cases e241_49 : x4j219 = 49
                    · skip
                      have h := h.1 e241_49
                      refine lv_tableIn (off := 485) (tgt := 726) G.1 G.2.1 d_Mo_instruction_241 (by rw [e241_49]; decide) (by rw [e241_49]; decide) (by rw [e241_49]; rfl) (by decide) ?_
                      exact J_726 y_j219 s_j219 d_j219 e_j219 x1j219 H locs h hP hD hS ls (lv_sub hl [2, 3] rfl)
                    replace h := h.2 e241_49
                    by_cases e241_50 : x4j219 = 50
                    · skip
                      have h := h.1 e241_50
                      refine lv_tableIn (off := 485) (tgt := 726) G.1 G.2.1 d_Mo_instruction_241 (by rw [e241_50]; decide) (by rw [e241_50]; decide) (by rw [e241_50]; rfl) (by decide) ?_
                      exact J_726 y_j219 s_j219 d_j219 e_j219 x1j219 H locs h hP hD hS ls (lv_sub hl [2, 3] rfl)
                    replace h := h.2 e241_50
                    by_cases e241_51 : x4j219 = 51
                    · skip
                      have h := h.1 e241_51
                      refine lv_tableIn (off := 485) (tgt := 726) G.1 G.2.1 d_Mo_instruction_241 (by rw [e241_51]; decide) (by rw [e241_51]; decide) (by rw [e241_51]; rfl) (by decide) ?_
                      exact J_726 y_j219 s_j219 d_j219 e_j219 x1j219 H locs h hP hD hS ls (lv_sub hl [2, 3] rfl)
                    replace h := h.2 e241_51
                    by_cases e241_52 : x4j219 = 52
                    · skip
                      have h := h.1 e241_52
                      refine lv_tableIn (off := 485) (tgt := 726) G.1 G.2.1 d_Mo_instruction_241 (by rw [e241_52]; decide) (by rw [e241_52]; decide) (by rw [e241_52]; rfl) (by decide) ?_
                      exact J_726 y_j219 s_j219 d_j219 e_j219 x1j219 H locs h hP hD hS ls (lv_sub hl [2, 3] rfl)
                    replace h := h.2 e241_52
                    by_cases e241_53 : x4j219 = 53
                    · skip
                      have h := h.1 e241_53
                      refine lv_tableIn (off := 485) (tgt := 726) G.1 G.2.1 d_Mo_instruction_241 (by rw [e241_53]; decide) (by rw [e241_53]; decide) (by rw [e241_53]; rfl) (by decide) ?_
                      exact J_726 y_j219 s_j219 d_j219 e_j219 x1j219 H locs h hP hD hS ls (lv_sub hl [2, 3] rfl)
                    replace h := h.2 e241_53
                    by_cases e241_54 : x4j219 = 54
                    · skip
                      have h := h.1 e241_54
                      refine lv_tableIn (off := 485) (tgt := 726) G.1 G.2.1 d_Mo_instruction_241 (by rw [e241_54]; decide) (by rw [e241_54]; decide) (by rw [e241_54]; rfl) (by decide) ?_
                      exact J_726 y_j219 s_j219 d_j219 e_j219 x1j219 H locs h hP hD hS ls (lv_sub hl [2, 3] rfl)
                    replace h := h.2 e241_54
                    by_cases e241_55 : x4j219 = 55
                    · skip
                      have h := h.1 e241_55
                      refine lv_tableIn (off := 485) (tgt := 726) G.1 G.2.1 d_Mo_instruction_241 (by rw [e241_55]; decide) (by rw [e241_55]; decide) (by rw [e241_55]; rfl) (by decide) ?_
                      exact J_726 y_j219 s_j219 d_j219 e_j219 x1j219 H locs h hP hD hS ls (lv_sub hl [2, 3] rfl)
                    replace h := h.2 e241_55
                    by_cases e241_56 : x4j219 = 56
                    · skip
                      have h := h.1 e241_56
                      refine lv_tableIn (off := 421) (tgt := 662) G.1 G.2.1 d_Mo_instruction_241 (by rw [e241_56]; decide) (by rw [e241_56]; decide) (by rw [e241_56]; rfl) (by decide) ?_
                      refine lv_aload_n G.1 G.2.1 d_Mo_instruction_662 rfl (lv_at hl 2 rfl) ?_
                      refine lv_iload_n G.1 G.2.1 d_Mo_instruction_663 rfl (lv_at hl 3 rfl) ?_
                      refine ucVi (As := [.int x1j219]) (rest := []) G hP hD hS (cu_Mo_pop l D g ad y_j219 _ s_j219 a0 x1j219 H.size h_a0 h) w9_Mo_pop q3947 ⟨Nat.le_of_ble_eq_true rfl, Nat.le_of_ble_eq_true rfl⟩ rfl rfl h_a0 (q := (RMo, TMo, 131)) rfl rfl hl.1 rfl (Nat.le_of_ble_eq_true rfl) rfl hd d_Mo_instruction_664 (fun r_121 s_122 H locs h hP hD hS => ?_)
                      refine lv_istore (lv' := [(7, .int r_121), (6, .int ((44 * x1j219) + x_33)), (5, .int x_33), (0, .ref (ad a0)), (1, .int x1j219), (3, .int x3j219), (4, .int x4j219)]) G.1 G.2.1 d_Mo_instruction_667 hl (by decide) rfl (fun ls hl => ?_)
                      refine lv_iload G.1 G.2.1 d_Mo_instruction_669 (lv_at hl 0 rfl) ?_
                      have J_689 : ∀ (y_j689 : Ly) (s_j689 : St) (d_j689 e_j689 : Nat) (H : Heap) (locs : List Loc), wja_Mo_instruction_689 mc ms Post a0 y_j689 s_j689 d_j689 e_j689 → va_P D CL (ws g ad y_j689 s_j689) H → va_D A (ws g ad y_j689 s_j689) → va_S A s.heap H locs → ∀ ls, lv_has ls 8 [] → W p l e (ra_Mo_instruction mc ms) s m args below meth c H locs d_j689 e_j689 Q (F0 m 689 ls []) := by
                        intro y_j689 s_j689 d_j689 e_j689 H locs h hP hD hS ls hl
                        unfold wja_Mo_instruction_689 at h
                        obtain ⟨hd, h⟩ := h
                        refine lv_iconst (v := 1) G.1 G.2.1 d_Mo_instruction_689 (by decide) ?_
                        exact hret _ (y_j689, s_j689, d_j689, e_j689) _ _ _ _ _ ls h hP hD hS (Nat.le_refl _) (Nat.le_refl _) hd.1 hd.2 d_Mo_instruction_690
                      refine lv_if_ne (tgt := 683) G.1 G.2.1 d_Mo_instruction_671 (by decide) (fun c671 => ?_) (fun c671 => ?_)
                      · skip
                        have h := h.1 c671
                        refine lv_aload_n G.1 G.2.1 d_Mo_instruction_683 rfl (lv_at hl 3 rfl) ?_
                        refine lv_iload G.1 G.2.1 d_Mo_instruction_684 (lv_at hl 0 rfl) ?_
                        obtain ⟨mc_128, ms_129, hr_130, h⟩ := h
                        refine uaVv (As := [.int r_121]) (rest := []) G hP hD hS (ca_Mo_unwind l D g ad mc_128 ms_129 y_j219 _ s_122 a0 r_121 H.size (us H) h_a0 h) w9_Mo_unwind q3891 ⟨Nat.le_of_ble_eq_true rfl, Nat.le_of_ble_eq_true rfl⟩ rfl rfl h_a0 (q := (RMo, TMo, 131)) rfl rfl hl.1 rfl (Nat.le_of_ble_eq_true rfl) rfl hr_130 d_Mo_instruction_686 (fun y_125 s_124 d_126 e_127 H locs h hP hD hS => ?_)
                        have hl := lv_sub (l' := []) hl [] rfl
                        obtain ⟨hd, h⟩ := h
                        exact J_689 y_125 s_124 (d_j219 + d_126) (e_j219 + e_127) H locs h hP hD hS ls (lv_sub hl [] rfl)
                      · skip
                        have h := h.2 c671
                        refine lv_aload_n G.1 G.2.1 d_Mo_instruction_674 rfl (lv_at hl 3 rfl) ?_
                        refine lv_iconst (v := 0) G.1 G.2.1 d_Mo_instruction_675 (by decide) ?_
                        refine lv_iconst (v := 2) G.1 G.2.1 d_Mo_instruction_676 (by decide) ?_
                        refine W.eq (g2 := F0 m 677 ls [.int 2, .int 0, .ref (ad a0)]) rfl ?_
                        obtain ⟨mc_136, ms_137, hr_138, h⟩ := h
                        refine uaVv (As := [.int 0, .int 2]) (rest := []) G hP hD hS (ca_Mo_throwNew l D g ad mc_136 ms_137 y_j219 _ s_122 a0 0 2 H.size (us H) h_a0 h) w9_Mo_throwNew q3883 ⟨Nat.le_of_ble_eq_true rfl, Nat.le_of_ble_eq_true rfl⟩ rfl rfl h_a0 (q := (RMo, TMo, 131)) rfl rfl hl.1 rfl (Nat.le_of_ble_eq_true rfl) rfl hr_138 d_Mo_instruction_677 (fun y_133 s_132 d_134 e_135 H locs h hP hD hS => ?_)
                        have hl := lv_sub (l' := []) hl [] rfl
                        obtain ⟨hd, h⟩ := h
                        refine lv_goto (tgt := 689) G.1 G.2.1 d_Mo_instruction_680 (by decide) ?_
                        exact J_689 y_133 s_132 (d_j219 + d_134) (e_j219 + e_135) H locs h hP hD hS ls (lv_sub hl [] rfl)
                    replace h := h.2 e241_56
                    by_cases e241_57 : x4j219 = 57
                    · skip
                      have h := h.1 e241_57
                      refine lv_tableIn (off := 450) (tgt := 691) G.1 G.2.1 d_Mo_instruction_241 (by rw [e241_57]; decide) (by rw [e241_57]; decide) (by rw [e241_57]; rfl) (by decide) ?_
                      refine lv_aload_n G.1 G.2.1 d_Mo_instruction_691 rfl (lv_at hl 2 rfl) ?_
                      refine lv_iconst (v := 0) G.1 G.2.1 d_Mo_instruction_692 (by decide) ?_
                      refine lv_iconst (v := 0) G.1 G.2.1 d_Mo_instruction_693 (by decide) ?_
                      refine lv_iconst (v := 0) G.1 G.2.1 d_Mo_instruction_694 (by decide) ?_
                      refine ucVv (As := [.int 0, .int 0, .int 0]) (rest := []) G hP hD hS (cu_Mo_endFrame l D g ad y_j219 _ s_j219 a0 0 0 0 H.size h_a0 h) w9_Mo_endFrame q4011 ⟨Nat.le_of_ble_eq_true rfl, Nat.le_of_ble_eq_true rfl⟩ rfl rfl h_a0 (q := (RMo, TMo, 131)) rfl rfl hl.1 rfl (Nat.le_of_ble_eq_true rfl) rfl hd d_Mo_instruction_695 (fun s_140 H locs h hP hD hS => ?_)
                      refine lv_iconst (v := 1) G.1 G.2.1 d_Mo_instruction_698 (by decide) ?_
                      exact hret _ (y_j219, s_140, d_j219, e_j219) _ _ _ _ _ ls h hP hD hS (Nat.le_refl _) (Nat.le_refl _) hd.1 hd.2 d_Mo_instruction_699
                    replace h := h.2 e241_57
                    by_cases e241_58 : x4j219 = 58
                    · skip
                      have h := h.1 e241_58
                      refine lv_tableIn (off := 459) (tgt := 700) G.1 G.2.1 d_Mo_instruction_241 (by rw [e241_58]; decide) (by rw [e241_58]; decide) (by rw [e241_58]; rfl) (by decide) ?_
                      refine lv_aload_n G.1 G.2.1 d_Mo_instruction_700 rfl (lv_at hl 2 rfl) ?_
                      refine lv_iconst (v := 1) G.1 G.2.1 d_Mo_instruction_701 (by decide) ?_
                      refine lv_aload_n G.1 G.2.1 d_Mo_instruction_702 rfl (lv_at hl 2 rfl) ?_
                      refine lv_iload_n G.1 G.2.1 d_Mo_instruction_703 rfl (lv_at hl 3 rfl) ?_
                      refine ucVi (As := [.int x1j219]) (rest := [.int 1, .ref (ad a0)]) G hP hD hS (cu_Mo_pop l D g ad y_j219 _ s_j219 a0 x1j219 H.size h_a0 h) w9_Mo_pop q3947 ⟨Nat.le_of_ble_eq_true rfl, Nat.le_of_ble_eq_true rfl⟩ rfl rfl h_a0 (q := (RMo, TMo, 131)) rfl rfl hl.1 rfl (Nat.le_of_ble_eq_true rfl) rfl hd d_Mo_instruction_704 (fun r_141 s_142 H locs h hP hD hS => ?_)
                      refine lv_iconst (v := 0) G.1 G.2.1 d_Mo_instruction_707 (by decide) ?_
                      refine ucVv (As := [.int 1, .int r_141, .int 0]) (rest := []) G hP hD hS (cu_Mo_endFrame l D g ad y_j219 _ s_142 a0 1 r_141 0 H.size h_a0 h) w9_Mo_endFrame q4011 ⟨Nat.le_of_ble_eq_true rfl, Nat.le_of_ble_eq_true rfl⟩ rfl rfl h_a0 (q := (RMo, TMo, 131)) rfl rfl hl.1 rfl (Nat.le_of_ble_eq_true rfl) rfl hd d_Mo_instruction_708 (fun s_144 H locs h hP hD hS => ?_)
                      refine lv_iconst (v := 1) G.1 G.2.1 d_Mo_instruction_711 (by decide) ?_
                      exact hret _ (y_j219, s_144, d_j219, e_j219) _ _ _ _ _ ls h hP hD hS (Nat.le_refl _) (Nat.le_refl _) hd.1 hd.2 d_Mo_instruction_712
                    replace h := h.2 e241_58
                    by_cases e241_59 : x4j219 = 59
                    · skip
                      have h := h.1 e241_59
                      refine lv_tableIn (off := 472) (tgt := 713) G.1 G.2.1 d_Mo_instruction_241 (by rw [e241_59]; decide) (by rw [e241_59]; decide) (by rw [e241_59]; rfl) (by decide) ?_
                      refine lv_aload_n G.1 G.2.1 d_Mo_instruction_713 rfl (lv_at hl 2 rfl) ?_
                      refine lv_iconst (v := 1) G.1 G.2.1 d_Mo_instruction_714 (by decide) ?_
                      refine lv_aload_n G.1 G.2.1 d_Mo_instruction_715 rfl (lv_at hl 2 rfl) ?_
                      refine lv_iload_n G.1 G.2.1 d_Mo_instruction_716 rfl (lv_at hl 3 rfl) ?_
                      refine ucVi (As := [.int x1j219]) (rest := [.int 1, .ref (ad a0)]) G hP hD hS (cu_Mo_pop l D g ad y_j219 _ s_j219 a0 x1j219 H.size h_a0 h) w9_Mo_pop q3947 ⟨Nat.le_of_ble_eq_true rfl, Nat.le_of_ble_eq_true rfl⟩ rfl rfl h_a0 (q := (RMo, TMo, 131)) rfl rfl hl.1 rfl (Nat.le_of_ble_eq_true rfl) rfl hd d_Mo_instruction_717 (fun r_145 s_146 H locs h hP hD hS => ?_)
                      refine lv_iconst (v := 1) G.1 G.2.1 d_Mo_instruction_720 (by decide) ?_
                      refine ucVv (As := [.int 1, .int r_145, .int 1]) (rest := []) G hP hD hS (cu_Mo_endFrame l D g ad y_j219 _ s_146 a0 1 r_145 1 H.size h_a0 h) w9_Mo_endFrame q4011 ⟨Nat.le_of_ble_eq_true rfl, Nat.le_of_ble_eq_true rfl⟩ rfl rfl h_a0 (q := (RMo, TMo, 131)) rfl rfl hl.1 rfl (Nat.le_of_ble_eq_true rfl) rfl hd d_Mo_instruction_721 (fun s_148 H locs h hP hD hS => ?_)
                      refine lv_iconst (v := 1) G.1 G.2.1 d_Mo_instruction_724 (by decide) ?_
                      exact hret _ (y_j219, s_148, d_j219, e_j219) _ _ _ _ _ ls h hP hD hS (Nat.le_refl _) (Nat.le_refl _) hd.1 hd.2 d_Mo_instruction_725
                    replace h := h.2 e241_59
                    have te241_1 := lv_neT (a := 1) e241_1 (by decide)
                    have te241_2 := lv_neT (a := 2) e241_2 (by decide)
                    have te241_3 := lv_neT (a := 3) e241_3 (by decide)
                    have te241_4 := lv_neT (a := 4) e241_4 (by decide)
                    have te241_5 := lv_neT (a := 5) e241_5 (by decide)
                    have te241_6 := lv_neT (a := 6) e241_6 (by decide)
                    have te241_7 := lv_neT (a := 7) e241_7 (by decide)
                    have te241_8 := lv_neT (a := 8) e241_8 (by decide)
                    have te241_9 := lv_neT (a := 9) e241_9 (by decide)
                    have te241_10 := lv_neT (a := 10) e241_10 (by decide)
                    have te241_11 := lv_neT (a := 11) e241_11 (by decide)
                    have te241_12 := lv_neT (a := 12) e241_12 (by decide)
                    have te241_13 := lv_neT (a := 13) e241_13 (by decide)
                    have te241_14 := lv_neT (a := 14) e241_14 (by decide)
                    have te241_15 := lv_neT (a := 15) e241_15 (by decide)
                    have te241_16 := lv_neT (a := 16) e241_16 (by decide)
                    have te241_17 := lv_neT (a := 17) e241_17 (by decide)
                    have te241_18 := lv_neT (a := 18) e241_18 (by decide)
                    have te241_19 := lv_neT (a := 19) e241_19 (by decide)
                    have te241_20 := lv_neT (a := 20) e241_20 (by decide)
                    have te241_21 := lv_neT (a := 21) e241_21 (by decide)
                    have te241_22 := lv_neT (a := 22) e241_22 (by decide)
                    have te241_23 := lv_neT (a := 23) e241_23 (by decide)
                    have te241_24 := lv_neT (a := 24) e241_24 (by decide)
                    have te241_25 := lv_neT (a := 25) e241_25 (by decide)
                    have te241_26 := lv_neT (a := 26) e241_26 (by decide)
                    have te241_27 := lv_neT (a := 27) e241_27 (by decide)
                    have te241_28 := lv_neT (a := 28) e241_28 (by decide)
                    have te241_29 := lv_neT (a := 29) e241_29 (by decide)
                    have te241_30 := lv_neT (a := 30) e241_30 (by decide)
                    have te241_31 := lv_neT (a := 31) e241_31 (by decide)
                    have te241_32 := lv_neT (a := 32) e241_32 (by decide)
                    have te241_33 := lv_neT (a := 33) e241_33 (by decide)
                    have te241_34 := lv_neT (a := 34) e241_34 (by decide)
                    have te241_35 := lv_neT (a := 35) e241_35 (by decide)
                    have te241_36 := lv_neT (a := 36) e241_36 (by decide)
                    have te241_37 := lv_neT (a := 37) e241_37 (by decide)
                    have te241_38 := lv_neT (a := 38) e241_38 (by decide)
                    have te241_39 := lv_neT (a := 39) e241_39 (by decide)
                    have te241_40 := lv_neT (a := 40) e241_40 (by decide)
                    have te241_41 := lv_neT (a := 41) e241_41 (by decide)
                    have te241_42 := lv_neT (a := 42) e241_42 (by decide)
                    have te241_43 := lv_neT (a := 43) e241_43 (by decide)
                    have te241_44 := lv_neT (a := 44) e241_44 (by decide)
                    have te241_45 := lv_neT (a := 45) e241_45 (by decide)
                    have te241_46 := lv_neT (a := 46) e241_46 (by decide)
                    have te241_47 := lv_neT (a := 47) e241_47 (by decide)
                    have te241_48 := lv_neT (a := 48) e241_48 (by decide)
                    have te241_49 := lv_neT (a := 49) e241_49 (by decide)
                    have te241_50 := lv_neT (a := 50) e241_50 (by decide)
                    have te241_51 := lv_neT (a := 51) e241_51 (by decide)
                    have te241_52 := lv_neT (a := 52) e241_52 (by decide)
                    have te241_53 := lv_neT (a := 53) e241_53 (by decide)
                    have te241_54 := lv_neT (a := 54) e241_54 (by decide)
                    have te241_55 := lv_neT (a := 55) e241_55 (by decide)
                    have te241_56 := lv_neT (a := 56) e241_56 (by decide)
                    have te241_57 := lv_neT (a := 57) e241_57 (by decide)
                    have te241_58 := lv_neT (a := 58) e241_58 (by decide)
                    have te241_59 := lv_neT (a := 59) e241_59 (by decide)
                    refine lv_tableOut (tgt := 726) G.1 G.2.1 d_Mo_instruction_241 (by omega) (by decide) ?_
                    exact J_726 y_j219 s_j219 d_j219 e_j219 x1j219 H locs h hP hD hS ls (lv_sub hl [2, 3] rfl)
                  refine lv_icmp_lt (tgt := 219) G.1 G.2.1 d_Mo_instruction_200 (by decide) (fun c200 => ?_) (fun c200 => ?_)
                  · skip
                    have h := h.1 c200
                    exact J_219 y_j196 s_j196 d_j196 e_j196 x1j196 x3j196 x4j196 H locs h hP hD hS ls (lv_sub hl [0, 1, 2, 3] rfl)
                  · skip
                    have h := h.2 c200
                    refine lv_iload G.1 G.2.1 d_Mo_instruction_203 (lv_at hl 3 rfl) ?_
                    refine lv_bipush (v := 18) G.1 G.2.1 d_Mo_instruction_205 (by decide) ?_
                    refine lv_icmp_gt (tgt := 219) G.1 G.2.1 d_Mo_instruction_207 (by decide) (fun c207 => ?_) (fun c207 => ?_)
                    · skip
                      have h := h.1 c207
                      exact J_219 y_j196 s_j196 d_j196 e_j196 x1j196 x3j196 x4j196 H locs h hP hD hS ls (lv_sub hl [0, 1, 2, 3] rfl)
                    · skip
                      have h := h.2 c207
                      refine lv_aload_n G.1 G.2.1 d_Mo_instruction_210 rfl (lv_at hl 0 rfl) ?_
                      refine lv_iload_n G.1 G.2.1 d_Mo_instruction_211 rfl (lv_at hl 1 rfl) ?_
                      refine lv_iload G.1 G.2.1 d_Mo_instruction_212 (lv_at hl 3 rfl) ?_
                      obtain ⟨mc_154, ms_155, hr_156, h⟩ := h
                      refine uaVv (As := [.int x1j196, .int x4j196]) (rest := []) G hP hD hS (ca_Mo_reckon l D g ad mc_154 ms_155 y_j196 _ s_j196 a0 x1j196 x4j196 H.size (us H) h_a0 h) w9_Mo_reckon q3995 ⟨Nat.le_of_ble_eq_true rfl, Nat.le_of_ble_eq_true rfl⟩ rfl rfl h_a0 (q := (RMo, TMo, 131)) rfl rfl hl.1 rfl (Nat.le_of_ble_eq_true rfl) rfl hr_156 d_Mo_instruction_214 (fun y_151 s_150 d_152 e_153 H locs h hP hD hS => ?_)
                      have hl := lv_sub (l' := []) hl [] rfl
                      obtain ⟨hd, h⟩ := h
                      refine lv_iconst (v := 1) G.1 G.2.1 d_Mo_instruction_217 (by decide) ?_
                      refine W.eq (g2 := F0 m 218 ls [.int 1]) rfl ?_
                      exact hret _ (y_151, s_150, d_j196 + d_152, e_j196 + e_153) _ _ _ _ _ ls h hP hD hS (Nat.le_refl _) (Nat.le_refl _) hd.1 hd.2 d_Mo_instruction_218
                refine lv_icmp_lt (tgt := 196) G.1 G.2.1 d_Mo_instruction_176 (by decide) (fun c176 => ?_) (fun c176 => ?_)
                · skip
                  have h := h.1 c176
                  exact J_196 y_j107 s_29 d_j107 e_j107 x1j107 x3j107 x4j107 H locs h hP hD hS ls (lv_sub hl [0, 1, 2, 3] rfl)
                · skip
                  have h := h.2 c176
                  refine lv_iload G.1 G.2.1 d_Mo_instruction_179 (lv_at hl 3 rfl) ?_
                  refine lv_bipush (v := 40) G.1 G.2.1 d_Mo_instruction_181 (by decide) ?_
                  refine W.eq (g2 := F0 m 183 ls [.int 40, .int x4j107]) rfl ?_
                  refine lv_icmp_gt (tgt := 196) G.1 G.2.1 d_Mo_instruction_183 (by decide) (fun c183 => ?_) (fun c183 => ?_)
                  · skip
                    have h := h.1 c183
                    exact J_196 y_j107 s_29 d_j107 e_j107 x1j107 x3j107 x4j107 H locs h hP hD hS ls (lv_sub hl [0, 1, 2, 3] rfl)
                  · skip
                    have h := h.2 c183
                    refine lv_aload_n G.1 G.2.1 d_Mo_instruction_186 rfl (lv_at hl 0 rfl) ?_
                    refine lv_iload_n G.1 G.2.1 d_Mo_instruction_187 rfl (lv_at hl 1 rfl) ?_
                    refine lv_iload_n G.1 G.2.1 d_Mo_instruction_188 rfl (lv_at hl 2 rfl) ?_
                    refine lv_iload G.1 G.2.1 d_Mo_instruction_189 (lv_at hl 3 rfl) ?_
                    refine ucVv (As := [.int x1j107, .int x3j107, .int x4j107]) (rest := []) G hP hD hS (cu_Mo_goStep l D g ad y_j107 _ s_29 a0 x1j107 x3j107 x4j107 H.size h_a0 h) w9_Mo_goStep q3991 ⟨Nat.le_of_ble_eq_true rfl, Nat.le_of_ble_eq_true rfl⟩ rfl rfl h_a0 (q := (RMo, TMo, 131)) rfl rfl hl.1 rfl (Nat.le_of_ble_eq_true rfl) rfl hd d_Mo_instruction_191 (fun s_158 H locs h hP hD hS => ?_)
                    refine lv_iconst (v := 1) G.1 G.2.1 d_Mo_instruction_194 (by decide) ?_
                    exact hret _ (y_j107, s_158, d_j107, e_j107) _ _ _ _ _ ls h hP hD hS (Nat.le_refl _) (Nat.le_refl _) hd.1 hd.2 d_Mo_instruction_195
              · skip
                have h := h.2 c155
                exact J_158 y_j107 s_j107 d_j107 e_j107 x1j107 x4j107 H locs h hP hD hS ls (lv_sub hl [0, 1, 3] rfl)
          · skip
            have h := h.2 c132
            exact J_135 y_j107 s_j107 d_j107 e_j107 x1j107 x3j107 x4j107 H locs h hP hD hS ls (lv_sub hl [0, 1, 2, 3] rfl)
      · skip
        have h := h.2 c111
        refine lv_aload_n G.1 G.2.1 d_Mo_instruction_114 rfl (lv_at hl 0 rfl) ?_
        refine lv_iload_n G.1 G.2.1 d_Mo_instruction_115 rfl (lv_at hl 1 rfl) ?_
        refine lv_iload_n G.1 G.2.1 d_Mo_instruction_116 rfl (lv_at hl 2 rfl) ?_
        obtain ⟨mc_164, ms_165, hr_166, h⟩ := h
        refine uaVi (As := [.int x1j107, .int x3j107]) (rest := []) G hP hD hS (ca_Mo_newStep l D g ad mc_164 ms_165 y_j107 _ s_j107 a0 x1j107 x3j107 H.size (us H) h_a0 h) w9_Mo_newStep q3971 ⟨Nat.le_of_ble_eq_true rfl, Nat.le_of_ble_eq_true rfl⟩ rfl rfl h_a0 (q := (RMo, TMo, 131)) rfl rfl hl.1 rfl (Nat.le_of_ble_eq_true rfl) rfl hr_166 d_Mo_instruction_117 (fun r_159 y_161 s_160 d_162 e_163 H locs h hP hD hS => ?_)
        have hl := lv_sub (l' := []) hl [] rfl
        obtain ⟨hd, h⟩ := h
        exact hret _ (y_161, s_160, d_j107 + d_162, e_j107 + e_163) _ _ _ _ _ ls h hP hD hS (Nat.le_refl _) (Nat.le_refl _) hd.1 hd.2 d_Mo_instruction_120
    refine lv_icmp_lt (tgt := 107) G.1 G.2.1 d_Mo_instruction_87 (by decide) (fun c87 => ?_) (fun c87 => ?_)
    · skip
      have h := h.1 c87
      exact J_107 y_j83 s_j83 d_j83 e_j83 x1j83 x3j83 x4j83 H locs h hP hD hS ls (lv_sub hl [0, 1, 3, 4] rfl)
    · skip
      have h := h.2 c87
      refine lv_iload G.1 G.2.1 d_Mo_instruction_90 (lv_at hl 4 rfl) ?_
      refine lv_bipush (v := 53) G.1 G.2.1 d_Mo_instruction_92 (by decide) ?_
      refine lv_icmp_gt (tgt := 107) G.1 G.2.1 d_Mo_instruction_94 (by decide) (fun c94 => ?_) (fun c94 => ?_)
      · skip
        have h := h.1 c94
        exact J_107 y_j83 s_j83 d_j83 e_j83 x1j83 x3j83 x4j83 H locs h hP hD hS ls (lv_sub hl [0, 1, 3, 4] rfl)
      · skip
        have h := h.2 c94
        refine lv_aload_n G.1 G.2.1 d_Mo_instruction_97 rfl (lv_at hl 0 rfl) ?_
        refine lv_iload_n G.1 G.2.1 d_Mo_instruction_98 rfl (lv_at hl 1 rfl) ?_
        refine lv_iload_n G.1 G.2.1 d_Mo_instruction_99 rfl (lv_at hl 2 rfl) ?_
        refine lv_iload_n G.1 G.2.1 d_Mo_instruction_100 rfl (lv_at hl 3 rfl) ?_
        refine lv_iload G.1 G.2.1 d_Mo_instruction_101 (lv_at hl 4 rfl) ?_
        refine W.eq (g2 := F0 m 103 ls [.int x4j83, .int x3j83, .int x2j83, .int x1j83, .ref (ad a0)]) rfl ?_
        obtain ⟨mc_172, ms_173, hr_174, h⟩ := h
        refine uaVi (As := [.int x1j83, .int x2j83, .int x3j83, .int x4j83]) (rest := []) G hP hD hS (ca_Mo_callStep l D g ad mc_172 ms_173 y_j83 _ s_j83 a0 x1j83 x2j83 x3j83 x4j83 H.size (us H) h_a0 h) w9_Mo_callStep q3963 ⟨Nat.le_of_ble_eq_true rfl, Nat.le_of_ble_eq_true rfl⟩ rfl rfl h_a0 (q := (RMo, TMo, 131)) rfl rfl hl.1 rfl (Nat.le_of_ble_eq_true rfl) rfl hr_174 d_Mo_instruction_103 (fun r_167 y_169 s_168 d_170 e_171 H locs h hP hD hS => ?_)
        have hl := lv_sub (l' := []) hl [] rfl
        obtain ⟨hd, h⟩ := h
        exact hret _ (y_169, s_168, d_j83 + d_170, e_j83 + e_171) _ _ _ _ _ ls h hP hD hS (Nat.le_refl _) (Nat.le_refl _) hd.1 hd.2 d_Mo_instruction_106
  refine lv_icmp_lt (tgt := 83) G.1 G.2.1 d_Mo_instruction_63 (by decide) (fun c63 => ?_) (fun c63 => ?_)
  · skip
    have h := h.1 c63
    exact J_83 y σ 0 0 x_4 x_5 (x_9 + x_10) x_11 H locs h hP hD hS ls (lv_sub hl [4, 3, 2, 1, 0] rfl)
  · skip
    have h := h.2 c63
    refine lv_iload G.1 G.2.1 d_Mo_instruction_66 (lv_at hl 0 rfl) ?_
    refine lv_bipush (v := 49) G.1 G.2.1 d_Mo_instruction_68 (by decide) ?_
    refine lv_icmp_gt (tgt := 83) G.1 G.2.1 d_Mo_instruction_70 (by decide) (fun c70 => ?_) (fun c70 => ?_)
    · skip
      have h := h.1 c70
      exact J_83 y σ 0 0 x_4 x_5 (x_9 + x_10) x_11 H locs h hP hD hS ls (lv_sub hl [4, 3, 2, 1, 0] rfl)
    · skip
      have h := h.2 c70
      refine lv_aload_n G.1 G.2.1 d_Mo_instruction_73 rfl (lv_at hl 4 rfl) ?_
      refine lv_iload_n G.1 G.2.1 d_Mo_instruction_74 rfl (lv_at hl 3 rfl) ?_
      refine lv_iload_n G.1 G.2.1 d_Mo_instruction_75 rfl (lv_at hl 2 rfl) ?_
      refine lv_iload_n G.1 G.2.1 d_Mo_instruction_76 rfl (lv_at hl 1 rfl) ?_
      refine lv_iload G.1 G.2.1 d_Mo_instruction_77 (lv_at hl 0 rfl) ?_
      obtain ⟨mc_180, ms_181, hr_182, h⟩ := h
      refine uaVi (As := [.int x_4, .int x_5, .int (x_9 + x_10), .int x_11]) (rest := []) G hP hD hS (ca_Mo_fieldStep l D g ad mc_180 ms_181 y _ σ a0 x_4 x_5 (x_9 + x_10) x_11 H.size (us H) h_a0 h) w9_Mo_fieldStep q3927 ⟨Nat.le_of_ble_eq_true rfl, Nat.le_of_ble_eq_true rfl⟩ rfl rfl h_a0 (q := (RMo, TMo, 131)) rfl rfl hl.1 rfl (Nat.le_of_ble_eq_true rfl) rfl hr_182 d_Mo_instruction_79 (fun r_175 y_177 s_176 d_178 e_179 H locs h hP hD hS => ?_)
      have hl := lv_sub (l' := []) hl [] rfl
      obtain ⟨hd, h⟩ := h
      exact hret _ (y_177, s_176, 0 + d_178, 0 + e_179) _ _ _ _ _ ls h hP hD hS (Nat.le_refl _) (Nat.le_refl _) hd.1 hd.2 d_Mo_instruction_82
