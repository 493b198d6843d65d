abbrev ru_Ja_fill_aIIV : Room := { frames := 0, cells := 0, slots := 0, locals := 0 }
def wb_Ja_fill_aIIV_5 (y : Ly) (Post : St → Prop) (K_5 : St → Int32 → Int32 → Int32 → Prop) (a0 : Nat) (k0 : Nat) (s_h5 : St) (x1h5 : Int32) (x2h5 : Int32) (x3h5 : Int32) : Prop := ((x3h5 ≤ x2h5 → Post s_h5) ∧ (¬ (x3h5 ≤ x2h5) → xS y s_h5 a0 k0 x2h5 x1h5 (fun s_1 : St => K_5 s_1 x1h5 (x2h5 + 1) x3h5)))
def wl_Ja_fill_aIIV_5 (y : Ly) (Post : St → Prop) (a0 : Nat) (k0 : Nat) (s_h5 : St) (x1h5 : Int32) (x2h5 : Int32) (x3h5 : Int32) : Prop := ∃ (I : St → Int32 → Int32 → Int32 → Prop) (μ : St → Int32 → Int32 → Int32 → Nat), I s_h5 x1h5 x2h5 x3h5 ∧ ∀ (u : St) (t0 : Int32) (t1 : Int32) (t2 : Int32), I u t0 t1 t2 → wb_Ja_fill_aIIV_5 y Post (fun z t0q t1q t2q => I z t0q t1q t2q ∧ μ z t0q t1q t2q < μ u t0 t1 t2) a0 k0 u t0 t1 t2
def wu_Ja_fill_aIIV (y : Ly) (Post : St → Prop) (σ : St) (a0 : Nat) (k0 : Nat) (v1 : Int32) : Prop := wl_Ja_fill_aIIV_5 y Post a0 k0 σ v1 0 (nI (yN y a0 k0))
set_option maxHeartbeats 4000000 in
set_option maxRecDepth 100000 in
theorem cu_Ja_fill_aIIV (l : Launch) (D : va_G) (g : Nat → ClassId) (ad : Nat → Nat) (y : Ly) (Post : St → Prop) (σ : St) (a0 : Nat) (k0 : Nat) (v1 : Int32) (sz : Nat) (h_a0 : kd (cl a0) k0 = 2 ∧ tyx (cl a0) k0 = 0) (h : wu_Ja_fill_aIIV y Post σ a0 k0 v1) : Met l y_Ja_fill_aIIV (mw y_Ja_fill_aIIV b_Ja_fill_aIIV 4 (none)) ru_Ja_fill_aIIV (PC g D [] [.ref (yP y a0 k0), .int v1] sz (ws g ad y σ)) (va_Qv (fun u : St => Post u) (QW D (va_A (ws g ad y σ) sz) (fun u => ws g ad y u)) (va_A (ws g ad y σ) sz)) 0 0 (va_A (ws g ad y σ) sz) := by
  refine ofV (by decide +kernel) (Nat.le_of_ble_eq_true rfl) ?_
  intro p e s m args below meth c A Q ls H locs G hsz hP hD hS hl hret
  subst hsz
  have hl : lv_has ls 4 [(0, .ref (yP y a0 k0)), (1, .int v1)] := hl
  unfold wu_Ja_fill_aIIV at h
  refine lv_iconst (v := 0) G.1 G.2.1 d_Ja_fill_aIIV_0 (by decide) ?_
  refine lv_istore_n (lv' := [(2, .int 0), (0, .ref (yP y a0 k0)), (1, .int v1)]) G.1 G.2.1 d_Ja_fill_aIIV_1 rfl hl (by decide) rfl (fun ls hl => ?_)
  refine lv_aload_n G.1 G.2.1 d_Ja_fill_aIIV_2 rfl (lv_at hl 1 rfl) ?_
  refine ualen G hP h_a0.1 (by decide) (by decide) h_a0.2 rfl d_Ja_fill_aIIV_3 ?_
  refine lv_istore_n (lv' := [(3, .int (nI (yN y a0 k0))), (2, .int 0), (0, .ref (yP y a0 k0)), (1, .int v1)]) G.1 G.2.1 d_Ja_fill_aIIV_4 rfl hl (by decide) rfl (fun ls hl => ?_)
  unfold wl_Ja_fill_aIIV_5 at h
  obtain ⟨I_5, μ_5, hI_5, hB_5⟩ := h
  have L_5 : ∀ (n_5 : Nat) (s_h5 : St) (x1h5 : Int32) (x2h5 : Int32) (x3h5 : Int32), μ_5 s_h5 x1h5 x2h5 x3h5 < n_5 → I_5 s_h5 x1h5 x2h5 x3h5 → ∀ (H : Heap) (locs : List Loc), va_P D CL (ws g ad y s_h5) H → va_D A (ws g ad y s_h5) → va_S A s.heap H locs → ∀ ls, lv_has ls 4 [(0, .ref (yP y a0 k0)), (1, .int x1h5), (2, .int x2h5), (3, .int x3h5)] → W p l e ru_Ja_fill_aIIV s m args below meth c H locs 0 0 Q (F0 m 5 ls []) := by
    intro n_5
    induction n_5 with
    | zero => intro s_h5 x1h5 x2h5 x3h5 hμ; exact absurd hμ (Nat.not_lt_zero _)
    | succ n_5 ih_5 =>
      intro s_h5 x1h5 x2h5 x3h5 hμ_5 hJ H locs hP hD hS ls hl
      obtain ⟨K_5, hK_5, h⟩ : ∃ K : St → Int32 → Int32 → Int32 → Prop, (∀ z (t0 : Int32) (t1 : Int32) (t2 : Int32), K z t0 t1 t2 → I_5 z t0 t1 t2 ∧ μ_5 z t0 t1 t2 < μ_5 s_h5 x1h5 x2h5 x3h5) ∧ wb_Ja_fill_aIIV_5 y Post K a0 k0 s_h5 x1h5 x2h5 x3h5 := ⟨_, fun _ _ _ _ h => h, hB_5 s_h5 x1h5 x2h5 x3h5 hJ⟩
      unfold wb_Ja_fill_aIIV_5 at h
      refine lv_iload_n G.1 G.2.1 d_Ja_fill_aIIV_5 rfl (lv_at hl 2 rfl) ?_
      refine lv_iload_n G.1 G.2.1 d_Ja_fill_aIIV_6 rfl (lv_at hl 3 rfl) ?_
      refine lv_icmp_ge (tgt := 20) G.1 G.2.1 d_Ja_fill_aIIV_7 (by decide) (fun c7 => ?_) (fun c7 => ?_)
      · skip
        have h := h.1 c7
        exact hret _ _ _ _ _ _ ls h hP hD hS (Nat.le_refl _) (Nat.le_refl _) d_Ja_fill_aIIV_20
      · skip
        have h := h.2 c7
        refine lv_aload_n G.1 G.2.1 d_Ja_fill_aIIV_10 rfl (lv_at hl 0 rfl) ?_
        refine lv_iload_n G.1 G.2.1 d_Ja_fill_aIIV_11 rfl (lv_at hl 2 rfl) ?_
        refine lv_iload_n G.1 G.2.1 d_Ja_fill_aIIV_12 rfl (lv_at hl 1 rfl) ?_
        refine uiast G hP hD hS h_a0.1 h_a0.2 h d_Ja_fill_aIIV_13 (fun s_1 H locs h hP hD hS => ?_)
        refine lv_iinc (v := x2h5 + 1) (lv' := [(2, .int (x2h5 + 1)), (0, .ref (yP y a0 k0)), (1, .int x1h5), (3, .int x3h5)]) G.1 G.2.1 d_Ja_fill_aIIV_14 hl (k := 2) rfl rfl (by decide) rfl (fun ls hl => ?_)
        refine lv_goto (tgt := 5) G.1 G.2.1 d_Ja_fill_aIIV_17 (by decide) ?_
        have h := hK_5 s_1 x1h5 (x2h5 + 1) x3h5 h
        exact ih_5 s_1 x1h5 (x2h5 + 1) x3h5 (Nat.lt_of_lt_of_le h.2 (Nat.le_of_lt_succ hμ_5)) h.1 H locs hP hD hS ls (lv_sub hl [1, 2, 0, 3] rfl)
  exact L_5 _ σ v1 0 (nI (yN y a0 k0)) (Nat.lt_succ_self _) hI_5 H locs hP hD hS ls (lv_sub hl [2, 3, 1, 0] rfl)
def y_Ja_fill_aBBV : MethodName := ⟨"java/util/Arrays", "fill", "([BB)V"⟩
abbrev b_Ja_fill_aBBV : ByteArray := prog_27_method_109_code
theorem d_Ja_fill_aBBV_0 : decode b_Ja_fill_aBBV 0 = .ok (.iconst 0, 1) := by decide +kernel
theorem d_Ja_fill_aBBV_1 : decode b_Ja_fill_aBBV 1 = .ok (.istore_n 2, 1) := by decide +kernel
theorem d_Ja_fill_aBBV_2 : decode b_Ja_fill_aBBV 2 = .ok (.aload_n 0, 1) := by decide +kernel
theorem d_Ja_fill_aBBV_3 : decode b_Ja_fill_aBBV 3 = .ok (.arraylength, 1) := by decide +kernel
theorem d_Ja_fill_aBBV_4 : decode b_Ja_fill_aBBV 4 = .ok (.istore_n 3, 1) := by decide +kernel
theorem d_Ja_fill_aBBV_5 : decode b_Ja_fill_aBBV 5 = .ok (.iload_n 2, 1) := by decide +kernel
theorem d_Ja_fill_aBBV_6 : decode b_Ja_fill_aBBV 6 = .ok (.iload_n 3, 1) := by decide +kernel
theorem d_Ja_fill_aBBV_7 : decode b_Ja_fill_aBBV 7 = .ok (.if_icmp .ge 13, 3) := by decide +kernel
theorem d_Ja_fill_aBBV_10 : decode b_Ja_fill_aBBV 10 = .ok (.aload_n 0, 1) := by decide +kernel
theorem d_Ja_fill_aBBV_11 : decode b_Ja_fill_aBBV 11 = .ok (.iload_n 2, 1) := by decide +kernel
theorem d_Ja_fill_aBBV_12 : decode b_Ja_fill_aBBV 12 = .ok (.iload_n 1, 1) := by decide +kernel
theorem d_Ja_fill_aBBV_13 : decode b_Ja_fill_aBBV 13 = .ok (.bastore, 1) := by decide +kernel
theorem d_Ja_fill_aBBV_14 : decode b_Ja_fill_aBBV 14 = .ok (.iinc 2 1, 3) := by decide +kernel
theorem d_Ja_fill_aBBV_17 : decode b_Ja_fill_aBBV 17 = .ok (.goto (-12), 3) := by decide +kernel
theorem d_Ja_fill_aBBV_20 : decode b_Ja_fill_aBBV 20 = .ok (.return_, 1) := by decide +kernel
abbrev ru_Ja_fill_aBBV : Room := { frames := 0, cells := 0, slots := 0, locals := 0 }
def wb_Ja_fill_aBBV_5 (y : Ly) (Post : St → Prop) (K_5 : St → Int32 → Int32 → Int32 → Prop) (a0 : Nat) (k0 : Nat) (s_h5 : St) (x1h5 : Int32) (x2h5 : Int32) (x3h5 : Int32) : Prop := ((x3h5 ≤ x2h5 → Post s_h5) ∧ (¬ (x3h5 ≤ x2h5) → xS y s_h5 a0 k0 x2h5 (vp_nar .byte x1h5) (fun s_1 : St => K_5 s_1 x1h5 (x2h5 + 1) x3h5)))
def wl_Ja_fill_aBBV_5 (y : Ly) (Post : St → Prop) (a0 : Nat) (k0 : Nat) (s_h5 : St) (x1h5 : Int32) (x2h5 : Int32) (x3h5 : Int32) : Prop := ∃ (I : St → Int32 → Int32 → Int32 → Prop) (μ : St → Int32 → Int32 → Int32 → Nat), I s_h5 x1h5 x2h5 x3h5 ∧ ∀ (u : St) (t0 : Int32) (t1 : Int32) (t2 : Int32), I u t0 t1 t2 → wb_Ja_fill_aBBV_5 y Post (fun z t0q t1q t2q => I z t0q t1q t2q ∧ μ z t0q t1q t2q < μ u t0 t1 t2) a0 k0 u t0 t1 t2
def wu_Ja_fill_aBBV (y : Ly) (Post : St → Prop) (σ : St) (a0 : Nat) (k0 : Nat) (v1 : Int32) : Prop := wl_Ja_fill_aBBV_5 y Post a0 k0 σ v1 0 (nI (yN y a0 k0))
set_option maxHeartbeats 4000000 in
set_option maxRecDepth 100000 in
theorem cu_Ja_fill_aBBV (l : Launch) (D : va_G) (g : Nat → ClassId) (ad : Nat → Nat) (y : Ly) (Post : St → Prop) (σ : St) (a0 : Nat) (k0 : Nat) (v1 : Int32) (sz : Nat) (h_a0 : kd (cl a0) k0 = 2 ∧ tyx (cl a0) k0 = 1) (h : wu_Ja_fill_aBBV y Post σ a0 k0 v1) : Met l y_Ja_fill_aBBV (mw y_Ja_fill_aBBV b_Ja_fill_aBBV 4 (none)) ru_Ja_fill_aBBV (PC g D [] [.ref (yP y a0 k0), .int v1] sz (ws g ad y σ)) (va_Qv (fun u : St => Post u) (QW D (va_A (ws g ad y σ) sz) (fun u => ws g ad y u)) (va_A (ws g ad y σ) sz)) 0 0 (va_A (ws g ad y σ) sz) := by
  refine ofV (by decide +kernel) (Nat.le_of_ble_eq_true rfl) ?_
  intro p e s m args below meth c A Q ls H locs G hsz hP hD hS hl hret
  subst hsz
  have hl : lv_has ls 4 [(0, .ref (yP y a0 k0)), (1, .int v1)] := hl
  unfold wu_Ja_fill_aBBV at h
  refine lv_iconst (v := 0) G.1 G.2.1 d_Ja_fill_aBBV_0 (by decide) ?_
  refine lv_istore_n (lv' := [(2, .int 0), (0, .ref (yP y a0 k0)), (1, .int v1)]) G.1 G.2.1 d_Ja_fill_aBBV_1 rfl hl (by decide) rfl (fun ls hl => ?_)
  refine lv_aload_n G.1 G.2.1 d_Ja_fill_aBBV_2 rfl (lv_at hl 1 rfl) ?_
  refine ualen G hP h_a0.1 (by decide) (by decide) h_a0.2 rfl d_Ja_fill_aBBV_3 ?_
  refine lv_istore_n (lv' := [(3, .int (nI (yN y a0 k0))), (2, .int 0), (0, .ref (yP y a0 k0)), (1, .int v1)]) G.1 G.2.1 d_Ja_fill_aBBV_4 rfl hl (by decide) rfl (fun ls hl => ?_)
  unfold wl_Ja_fill_aBBV_5 at h
  obtain ⟨I_5, μ_5, hI_5, hB_5⟩ := h
  have L_5 : ∀ (n_5 : Nat) (s_h5 : St) (x1h5 : Int32) (x2h5 : Int32) (x3h5 : Int32), μ_5 s_h5 x1h5 x2h5 x3h5 < n_5 → I_5 s_h5 x1h5 x2h5 x3h5 → ∀ (H : Heap) (locs : List Loc), va_P D CL (ws g ad y s_h5) H → va_D A (ws g ad y s_h5) → va_S A s.heap H locs → ∀ ls, lv_has ls 4 [(0, .ref (yP y a0 k0)), (1, .int x1h5), (2, .int x2h5), (3, .int x3h5)] → W p l e ru_Ja_fill_aBBV s m args below meth c H locs 0 0 Q (F0 m 5 ls []) := by
    intro n_5
    induction n_5 with
    | zero => intro s_h5 x1h5 x2h5 x3h5 hμ; exact absurd hμ (Nat.not_lt_zero _)
    | succ n_5 ih_5 =>
      intro s_h5 x1h5 x2h5 x3h5 hμ_5 hJ H locs hP hD hS ls hl
      obtain ⟨K_5, hK_5, h⟩ : ∃ K : St → Int32 → Int32 → Int32 → Prop, (∀ z (t0 : Int32) (t1 : Int32) (t2 : Int32), K z t0 t1 t2 → I_5 z t0 t1 t2 ∧ μ_5 z t0 t1 t2 < μ_5 s_h5 x1h5 x2h5 x3h5) ∧ wb_Ja_fill_aBBV_5 y Post K a0 k0 s_h5 x1h5 x2h5 x3h5 := ⟨_, fun _ _ _ _ h => h, hB_5 s_h5 x1h5 x2h5 x3h5 hJ⟩
      unfold wb_Ja_fill_aBBV_5 at h
      refine lv_iload_n G.1 G.2.1 d_Ja_fill_aBBV_5 rfl (lv_at hl 2 rfl) ?_
      refine lv_iload_n G.1 G.2.1 d_Ja_fill_aBBV_6 rfl (lv_at hl 3 rfl) ?_
      refine lv_icmp_ge (tgt := 20) G.1 G.2.1 d_Ja_fill_aBBV_7 (by decide) (fun c7 => ?_) (fun c7 => ?_)
      · skip
        have h := h.1 c7
        exact hret _ _ _ _ _ _ ls h hP hD hS (Nat.le_refl _) (Nat.le_refl _) d_Ja_fill_aBBV_20
      · skip
        have h := h.2 c7
        refine lv_aload_n G.1 G.2.1 d_Ja_fill_aBBV_10 rfl (lv_at hl 0 rfl) ?_
        refine lv_iload_n G.1 G.2.1 d_Ja_fill_aBBV_11 rfl (lv_at hl 2 rfl) ?_
        refine lv_iload_n G.1 G.2.1 d_Ja_fill_aBBV_12 rfl (lv_at hl 1 rfl) ?_
        refine ubast G hP hD hS h_a0.1 h_a0.2 h d_Ja_fill_aBBV_13 (fun s_1 H locs h hP hD hS => ?_)
        refine lv_iinc (v := x2h5 + 1) (lv' := [(2, .int (x2h5 + 1)), (0, .ref (yP y a0 k0)), (1, .int x1h5), (3, .int x3h5)]) G.1 G.2.1 d_Ja_fill_aBBV_14 hl (k := 2) rfl rfl (by decide) rfl (fun ls hl => ?_)
        refine lv_goto (tgt := 5) G.1 G.2.1 d_Ja_fill_aBBV_17 (by decide) ?_
        have h := hK_5 s_1 x1h5 (x2h5 + 1) x3h5 h
        exact ih_5 s_1 x1h5 (x2h5 + 1) x3h5 (Nat.lt_of_lt_of_le h.2 (Nat.le_of_lt_succ hμ_5)) h.1 H locs hP hD hS ls (lv_sub hl [1, 2, 0, 3] rfl)
  exact L_5 _ σ v1 0 (nI (yN y a0 k0)) (Nat.lt_succ_self _) hI_5 H locs hP hD hS ls (lv_sub hl [2, 3, 1, 0] rfl)
abbrev ru_Na_isSame : Room := { frames := 0, cells := 0, slots := 0, locals := 0 }
def wb_Na_isSame_30 (y : Ly) (Post : St → Int32 → Prop) (K_30 : St → Int32 → Int32 → Int32 → Int32 → Prop) (a0 : Nat) (a2 : Nat) (k2 : Nat) (s_h30 : St) (x3h30 : Int32) (x4h30 : Int32) (x5h30 : Int32) (x6h30 : Int32) : Prop := ((x4h30 ≤ x6h30 → (nb 1 ∧ Post s_h30 1)) ∧ (¬ (x4h30 ≤ x6h30) → xA y s_h30 (lk a0 0) 0 (x5h30 + x6h30) (fun x_3 : Int32 => xA y s_h30 a2 k2 (x3h30 + x6h30) (fun x_4 : Int32 => ((x_3 = x_4 → K_30 s_h30 x3h30 x4h30 x5h30 (x6h30 + 1)) ∧ (¬ (x_3 = x_4) → (nb 0 ∧ Post s_h30 0)))))))
def wl_Na_isSame_30 (y : Ly) (Post : St → Int32 → Prop) (a0 : Nat) (a2 : Nat) (k2 : Nat) (s_h30 : St) (x3h30 : Int32) (x4h30 : Int32) (x5h30 : Int32) (x6h30 : Int32) : Prop := ∃ (I : St → Int32 → Int32 → Int32 → Int32 → Prop) (μ : St → Int32 → Int32 → Int32 → Int32 → Nat), I s_h30 x3h30 x4h30 x5h30 x6h30 ∧ ∀ (u : St) (t0 : Int32) (t1 : Int32) (t2 : Int32) (t3 : Int32), I u t0 t1 t2 t3 → wb_Na_isSame_30 y Post (fun z t0q t1q t2q t3q => I z t0q t1q t2q t3q ∧ μ z t0q t1q t2q t3q < μ u t0 t1 t2 t3) a0 a2 k2 u t0 t1 t2 t3
def wu_Na_isSame (y : Ly) (Post : St → Int32 → Prop) (σ : St) (a0 : Nat) (v1 : Int32) (a2 : Nat) (k2 : Nat) (v3 : Int32) (v4 : Int32) : Prop := xA y σ (lk a0 1) 0 v1 (fun x_1 : Int32 => xA y σ (lk a0 2) 0 v1 (fun x_2 : Int32 => ((x_2 = v4 → wl_Na_isSame_30 y Post a0 a2 k2 σ v3 v4 x_1 0) ∧ (¬ (x_2 = v4) → (nb 0 ∧ Post σ 0)))))
set_option maxHeartbeats 4000000 in
set_option maxRecDepth 100000 in
theorem cu_Na_isSame (l : Launch) (D : va_G) (g : Nat → ClassId) (ad : Nat → Nat) (y : Ly) (Post : St → Int32 → Prop) (σ : St) (a0 : Nat) (v1 : Int32) (a2 : Nat) (k2 : Nat) (v3 : Int32) (v4 : Int32) (sz : Nat) (h_a0 : cl a0 = 5) (h_a2 : kd (cl a2) k2 = 2 ∧ tyx (cl a2) k2 = 1) (h : wu_Na_isSame y Post σ a0 v1 a2 k2 v3 v4) : Met l y_Na_isSame (mw y_Na_isSame b_Na_isSame 7 (some (.boolean))) ru_Na_isSame (PC g D [] [.ref (ad a0), .int v1, .ref (yP y a2 k2), .int v3, .int v4] sz (ws g ad y σ)) (va_Qi (fun (r : Int32) (u : St) => Post u r) (QW D (va_A (ws g ad y σ) sz) (fun u => ws g ad y u)) (va_A (ws g ad y σ) sz)) 0 0 (va_A (ws g ad y σ) sz) := by
  refine ofZ (by decide +kernel) (Nat.le_of_ble_eq_true rfl) ?_
  intro p e s m args below meth c A Q ls H locs G hsz hP hD hS hl hret
  subst hsz
  have hl : lv_has ls 7 [(0, .ref (ad a0)), (1, .int v1), (2, .ref (yP y a2 k2)), (3, .int v3), (4, .int v4)] := hl
  unfold wu_Na_isSame at h
  refine lv_aload_n G.1 G.2.1 d_Na_isSame_0 rfl (lv_at hl 0 rfl) ?_
  refine ugf (v := .ref (ad (lk a0 1))) G hP h_a0 iNa rfl 1 (by decide) rfl q505 rfl rfl d_Na_isSame_1 ?_
  refine ugf (v := .ref (yP y (lk a0 1) 0)) G hP (lk_5_1 h_a0) iIn rfl 0 (by decide) rfl q381 rfl rfl d_Na_isSame_4 ?_
  refine lv_iload_n G.1 G.2.1 d_Na_isSame_7 rfl (lv_at hl 1 rfl) ?_
  refine uiald G hP (kdp (lk_5_1 h_a0) rfl) (typ (lk_5_1 h_a0) rfl) h d_Na_isSame_8 (fun x_1 h => ?_)
  refine lv_istore (lv' := [(5, .int x_1), (0, .ref (ad a0)), (1, .int v1), (2, .ref (yP y a2 k2)), (3, .int v3), (4, .int v4)]) G.1 G.2.1 d_Na_isSame_9 hl (by decide) rfl (fun ls hl => ?_)
  refine lv_aload_n G.1 G.2.1 d_Na_isSame_11 rfl (lv_at hl 1 rfl) ?_
  refine ugf (v := .ref (ad (lk a0 2))) G hP h_a0 iNa rfl 2 (by decide) rfl q506 rfl rfl d_Na_isSame_12 ?_
  refine ugf (v := .ref (yP y (lk a0 2) 0)) G hP (lk_5_2 h_a0) iIn rfl 0 (by decide) rfl q381 rfl rfl d_Na_isSame_15 ?_
  refine lv_iload_n G.1 G.2.1 d_Na_isSame_18 rfl (lv_at hl 2 rfl) ?_
  refine uiald G hP (kdp (lk_5_2 h_a0) rfl) (typ (lk_5_2 h_a0) rfl) h d_Na_isSame_19 (fun x_2 h => ?_)
  refine W.eq (g2 := F0 m 20 ls [.int x_2]) rfl ?_
  refine lv_iload G.1 G.2.1 d_Na_isSame_20 (lv_at hl 5 rfl) ?_
  refine lv_icmp_eq (tgt := 27) G.1 G.2.1 d_Na_isSame_22 (by decide) (fun c22 => ?_) (fun c22 => ?_)
  · skip
    have h := h.1 c22
    refine lv_iconst (v := 0) G.1 G.2.1 d_Na_isSame_27 (by decide) ?_
    refine lv_istore (lv' := [(6, .int 0), (5, .int x_1), (0, .ref (ad a0)), (1, .int v1), (2, .ref (yP y a2 k2)), (3, .int v3), (4, .int v4)]) G.1 G.2.1 d_Na_isSame_28 hl (by decide) rfl (fun ls hl => ?_)
    unfold wl_Na_isSame_30 at h
    obtain ⟨I_30, μ_30, hI_30, hB_30⟩ := h
    have L_30 : ∀ (n_30 : Nat) (s_h30 : St) (x3h30 : Int32) (x4h30 : Int32) (x5h30 : Int32) (x6h30 : Int32), μ_30 s_h30 x3h30 x4h30 x5h30 x6h30 < n_30 → I_30 s_h30 x3h30 x4h30 x5h30 x6h30 → ∀ (H : Heap) (locs : List Loc), va_P D CL (ws g ad y s_h30) H → va_D A (ws g ad y s_h30) → va_S A s.heap H locs → ∀ ls, lv_has ls 7 [(0, .ref (ad a0)), (2, .ref (yP y a2 k2)), (3, .int x3h30), (4, .int x4h30), (5, .int x5h30), (6, .int x6h30)] → W p l e ru_Na_isSame s m args below meth c H locs 0 0 Q (F0 m 30 ls []) := by
      intro n_30
      induction n_30 with
      | zero => intro s_h30 x3h30 x4h30 x5h30 x6h30 hμ; exact absurd hμ (Nat.not_lt_zero _)
      | succ n_30 ih_30 =>
        intro s_h30 x3h30 x4h30 x5h30 x6h30 hμ_30 hJ H locs hP hD hS ls hl
        obtain ⟨K_30, hK_30, h⟩ : ∃ K : St → Int32 → Int32 → Int32 → Int32 → Prop, (∀ z (t0 : Int32) (t1 : Int32) (t2 : Int32) (t3 : Int32), K z t0 t1 t2 t3 → I_30 z t0 t1 t2 t3 ∧ μ_30 z t0 t1 t2 t3 < μ_30 s_h30 x3h30 x4h30 x5h30 x6h30) ∧ wb_Na_isSame_30 y Post K a0 a2 k2 s_h30 x3h30 x4h30 x5h30 x6h30 := ⟨_, fun _ _ _ _ _ h => h, hB_30 s_h30 x3h30 x4h30 x5h30 x6h30 hJ⟩
        unfold wb_Na_isSame_30 at h
        refine lv_iload G.1 G.2.1 d_Na_isSame_30 (lv_at hl 5 rfl) ?_
        refine lv_iload G.1 G.2.1 d_Na_isSame_32 (lv_at hl 3 rfl) ?_
        refine lv_icmp_ge (tgt := 67) G.1 G.2.1 d_Na_isSame_34 (by decide) (fun c34 => ?_) (fun c34 => ?_)
        · skip
          have h := h.1 c34
          refine lv_iconst (v := 1) G.1 G.2.1 d_Na_isSame_67 (by decide) ?_
          exact hret _ _ _ _ _ _ _ ls (nb_n h.1) h.2 hP hD hS (Nat.le_refl _) (Nat.le_refl _) d_Na_isSame_68
        · skip
          have h := h.2 c34
          refine lv_aload_n G.1 G.2.1 d_Na_isSame_37 rfl (lv_at hl 0 rfl) ?_
          refine ugf (v := .ref (ad (lk a0 0))) G hP h_a0 iNa rfl 0 (by decide) rfl q504 rfl rfl d_Na_isSame_38 ?_
          refine ugf (v := .ref (yP y (lk a0 0) 0)) G hP (lk_5_0 h_a0) iIn rfl 0 (by decide) rfl q381 rfl rfl d_Na_isSame_41 ?_
          refine lv_iload G.1 G.2.1 d_Na_isSame_44 (lv_at hl 4 rfl) ?_
          refine lv_iload G.1 G.2.1 d_Na_isSame_46 (lv_at hl 5 rfl) ?_
          refine lv_iadd G.1 G.2.1 d_Na_isSame_48 ?_
          refine uiald G hP (kdp (lk_5_0 h_a0) rfl) (typ (lk_5_0 h_a0) rfl) h d_Na_isSame_49 (fun x_3 h => ?_)
          refine lv_aload_n G.1 G.2.1 d_Na_isSame_50 rfl (lv_at hl 1 rfl) ?_
          refine W.eq (g2 := F0 m 51 ls [.ref (yP y a2 k2), .int x_3]) rfl ?_
          refine lv_iload_n G.1 G.2.1 d_Na_isSame_51 rfl (lv_at hl 2 rfl) ?_
          refine lv_iload G.1 G.2.1 d_Na_isSame_52 (lv_at hl 5 rfl) ?_
          refine lv_iadd G.1 G.2.1 d_Na_isSame_54 ?_
          refine ubald G hP h_a2.1 h_a2.2 h d_Na_isSame_55 (fun x_4 h => ?_)
          refine lv_icmp_eq (tgt := 61) G.1 G.2.1 d_Na_isSame_56 (by decide) (fun c56 => ?_) (fun c56 => ?_)
          · skip
            have h := h.1 c56
            refine lv_iinc (v := x6h30 + 1) (lv' := [(6, .int (x6h30 + 1)), (0, .ref (ad a0)), (2, .ref (yP y a2 k2)), (3, .int x3h30), (4, .int x4h30), (5, .int x5h30)]) G.1 G.2.1 d_Na_isSame_61 hl (k := 5) rfl rfl (by decide) rfl (fun ls hl => ?_)
            refine lv_goto (tgt := 30) G.1 G.2.1 d_Na_isSame_64 (by decide) ?_
            have h := hK_30 s_h30 x3h30 x4h30 x5h30 (x6h30 + 1) h
            exact ih_30 s_h30 x3h30 x4h30 x5h30 (x6h30 + 1) (Nat.lt_of_lt_of_le h.2 (Nat.le_of_lt_succ hμ_30)) h.1 H locs hP hD hS ls (lv_sub hl [1, 2, 3, 4, 5, 0] rfl)
          · skip
            have h := h.2 c56
            refine lv_iconst (v := 0) G.1 G.2.1 d_Na_isSame_59 (by decide) ?_
            exact hret _ _ _ _ _ _ _ ls (nb_n h.1) h.2 hP hD hS (Nat.le_refl _) (Nat.le_refl _) d_Na_isSame_60
    exact L_30 _ σ v3 v4 x_1 0 (Nat.lt_succ_self _) hI_30 H locs hP hD hS ls (lv_sub hl [2, 4, 5, 6, 1, 0] rfl)
  · skip
    have h := h.2 c22
    refine lv_iconst (v := 0) G.1 G.2.1 d_Na_isSame_25 (by decide) ?_
    exact hret _ _ _ _ _ _ _ ls (nb_n h.1) h.2 hP hD hS (Nat.le_refl _) (Nat.le_refl _) d_Na_isSame_26
def y_Na_isSameSign : MethodName := ⟨"ClassWorks$Names", "isSameSign", "(III[II)Z"⟩
abbrev b_Na_isSameSign : ByteArray := prog_7_method_9_code
theorem q509 : Cond.fieldLink "ClassWorks$Names" 33 "ClassWorks$Names" "signs" "LClassWorks$Ints;" ∈ lw_ok := lw_okmem (List.mem_of_getElem? (i := 509) (by decide +kernel)) rfl
theorem d_Na_isSameSign_0 : decode b_Na_isSameSign 0 = .ok (.aload_n 0, 1) := by decide +kernel
theorem d_Na_isSameSign_1 : decode b_Na_isSameSign 1 = .ok (.getfield 33, 3) := by decide +kernel
theorem d_Na_isSameSign_4 : decode b_Na_isSameSign 4 = .ok (.getfield 101, 3) := by decide +kernel
theorem d_Na_isSameSign_7 : decode b_Na_isSameSign 7 = .ok (.iload_n 1, 1) := by decide +kernel
theorem d_Na_isSameSign_8 : decode b_Na_isSameSign 8 = .ok (.iconst 1, 1) := by decide +kernel
theorem d_Na_isSameSign_9 : decode b_Na_isSameSign 9 = .ok (.iadd, 1) := by decide +kernel
theorem d_Na_isSameSign_10 : decode b_Na_isSameSign 10 = .ok (.iaload, 1) := by decide +kernel
theorem d_Na_isSameSign_11 : decode b_Na_isSameSign 11 = .ok (.iload_n 2, 1) := by decide +kernel
theorem d_Na_isSameSign_12 : decode b_Na_isSameSign 12 = .ok (.if_icmp .ne 34, 3) := by decide +kernel
theorem d_Na_isSameSign_15 : decode b_Na_isSameSign 15 = .ok (.aload_n 0, 1) := by decide +kernel
theorem d_Na_isSameSign_16 : decode b_Na_isSameSign 16 = .ok (.getfield 33, 3) := by decide +kernel
theorem d_Na_isSameSign_19 : decode b_Na_isSameSign 19 = .ok (.getfield 101, 3) := by decide +kernel
theorem d_Na_isSameSign_22 : decode b_Na_isSameSign 22 = .ok (.iload_n 1, 1) := by decide +kernel
theorem d_Na_isSameSign_23 : decode b_Na_isSameSign 23 = .ok (.iconst 2, 1) := by decide +kernel
theorem d_Na_isSameSign_24 : decode b_Na_isSameSign 24 = .ok (.iadd, 1) := by decide +kernel
theorem d_Na_isSameSign_25 : decode b_Na_isSameSign 25 = .ok (.iaload, 1) := by decide +kernel
theorem d_Na_isSameSign_26 : decode b_Na_isSameSign 26 = .ok (.iload 5, 2) := by decide +kernel
theorem d_Na_isSameSign_28 : decode b_Na_isSameSign 28 = .ok (.if_icmp .ne 18, 3) := by decide +kernel
theorem d_Na_isSameSign_31 : decode b_Na_isSameSign 31 = .ok (.aload_n 0, 1) := by decide +kernel
theorem d_Na_isSameSign_32 : decode b_Na_isSameSign 32 = .ok (.getfield 33, 3) := by decide +kernel
theorem d_Na_isSameSign_35 : decode b_Na_isSameSign 35 = .ok (.getfield 101, 3) := by decide +kernel
theorem d_Na_isSameSign_38 : decode b_Na_isSameSign 38 = .ok (.iload_n 1, 1) := by decide +kernel
theorem d_Na_isSameSign_39 : decode b_Na_isSameSign 39 = .ok (.iconst 3, 1) := by decide +kernel
theorem d_Na_isSameSign_40 : decode b_Na_isSameSign 40 = .ok (.iadd, 1) := by decide +kernel
theorem d_Na_isSameSign_41 : decode b_Na_isSameSign 41 = .ok (.iaload, 1) := by decide +kernel
theorem d_Na_isSameSign_42 : decode b_Na_isSameSign 42 = .ok (.iload_n 3, 1) := by decide +kernel
theorem d_Na_isSameSign_43 : decode b_Na_isSameSign 43 = .ok (.if_icmp .eq 5, 3) := by decide +kernel
theorem d_Na_isSameSign_46 : decode b_Na_isSameSign 46 = .ok (.iconst 0, 1) := by decide +kernel
theorem d_Na_isSameSign_47 : decode b_Na_isSameSign 47 = .ok (.ireturn, 1) := by decide +kernel
theorem d_Na_isSameSign_48 : decode b_Na_isSameSign 48 = .ok (.iconst 0, 1) := by decide +kernel
theorem d_Na_isSameSign_49 : decode b_Na_isSameSign 49 = .ok (.istore 6, 2) := by decide +kernel
theorem d_Na_isSameSign_51 : decode b_Na_isSameSign 51 = .ok (.iload 6, 2) := by decide +kernel
theorem d_Na_isSameSign_53 : decode b_Na_isSameSign 53 = .ok (.iload_n 3, 1) := by decide +kernel
theorem d_Na_isSameSign_54 : decode b_Na_isSameSign 54 = .ok (.if_icmp .ge 33, 3) := by decide +kernel
theorem d_Na_isSameSign_57 : decode b_Na_isSameSign 57 = .ok (.aload_n 0, 1) := by decide +kernel
theorem d_Na_isSameSign_58 : decode b_Na_isSameSign 58 = .ok (.getfield 33, 3) := by decide +kernel
theorem d_Na_isSameSign_61 : decode b_Na_isSameSign 61 = .ok (.getfield 101, 3) := by decide +kernel
theorem d_Na_isSameSign_64 : decode b_Na_isSameSign 64 = .ok (.iload_n 1, 1) := by decide +kernel
theorem d_Na_isSameSign_65 : decode b_Na_isSameSign 65 = .ok (.iconst 4, 1) := by decide +kernel
theorem d_Na_isSameSign_66 : decode b_Na_isSameSign 66 = .ok (.iadd, 1) := by decide +kernel
theorem d_Na_isSameSign_67 : decode b_Na_isSameSign 67 = .ok (.iload 6, 2) := by decide +kernel
theorem d_Na_isSameSign_69 : decode b_Na_isSameSign 69 = .ok (.iadd, 1) := by decide +kernel
theorem d_Na_isSameSign_70 : decode b_Na_isSameSign 70 = .ok (.iaload, 1) := by decide +kernel
theorem d_Na_isSameSign_71 : decode b_Na_isSameSign 71 = .ok (.aload 4, 2) := by decide +kernel
theorem d_Na_isSameSign_73 : decode b_Na_isSameSign 73 = .ok (.iload 6, 2) := by decide +kernel
theorem d_Na_isSameSign_75 : decode b_Na_isSameSign 75 = .ok (.iaload, 1) := by decide +kernel
theorem d_Na_isSameSign_76 : decode b_Na_isSameSign 76 = .ok (.if_icmp .eq 5, 3) := by decide +kernel
theorem d_Na_isSameSign_79 : decode b_Na_isSameSign 79 = .ok (.iconst 0, 1) := by decide +kernel
theorem d_Na_isSameSign_80 : decode b_Na_isSameSign 80 = .ok (.ireturn, 1) := by decide +kernel
theorem d_Na_isSameSign_81 : decode b_Na_isSameSign 81 = .ok (.iinc 6 1, 3) := by decide +kernel
theorem d_Na_isSameSign_84 : decode b_Na_isSameSign 84 = .ok (.goto (-33), 3) := by decide +kernel
theorem d_Na_isSameSign_87 : decode b_Na_isSameSign 87 = .ok (.iconst 1, 1) := by decide +kernel
theorem d_Na_isSameSign_88 : decode b_Na_isSameSign 88 = .ok (.ireturn, 1) := by decide +kernel
abbrev ru_Na_isSameSign : Room := { frames := 0, cells := 0, slots := 0, locals := 0 }
def wj_Na_isSameSign_46 (y : Ly) (Post : St → Int32 → Prop) (a0 : Nat) (a4 : Nat) (k4 : Nat) (s_j46 : St) : Prop := (nb 0 ∧ Post s_j46 0)
def wb_Na_isSameSign_51 (y : Ly) (Post : St → Int32 → Prop) (K_51 : St → Int32 → Int32 → Int32 → Prop) (a0 : Nat) (a4 : Nat) (k4 : Nat) (s_h51 : St) (x1h51 : Int32) (x3h51 : Int32) (x6h51 : Int32) : Prop := ((x3h51 ≤ x6h51 → (nb 1 ∧ Post s_h51 1)) ∧ (¬ (x3h51 ≤ x6h51) → xA y s_h51 (lk a0 5) 0 ((x1h51 + 4) + x6h51) (fun x_4 : Int32 => xA y s_h51 a4 k4 x6h51 (fun x_5 : Int32 => ((x_4 = x_5 → K_51 s_h51 x1h51 x3h51 (x6h51 + 1)) ∧ (¬ (x_4 = x_5) → (nb 0 ∧ Post s_h51 0)))))))
def wl_Na_isSameSign_51 (y : Ly) (Post : St → Int32 → Prop) (a0 : Nat) (a4 : Nat) (k4 : Nat) (s_h51 : St) (x1h51 : Int32) (x3h51 : Int32) (x6h51 : Int32) : Prop := ∃ (I : St → Int32 → Int32 → Int32 → Prop) (μ : St → Int32 → Int32 → Int32 → Nat), I s_h51 x1h51 x3h51 x6h51 ∧ ∀ (u : St) (t0 : Int32) (t1 : Int32) (t2 : Int32), I u t0 t1 t2 → wb_Na_isSameSign_51 y Post (fun z t0q t1q t2q => I z t0q t1q t2q ∧ μ z t0q t1q t2q < μ u t0 t1 t2) a0 a4 k4 u t0 t1 t2
def wu_Na_isSameSign (y : Ly) (Post : St → Int32 → Prop) (σ : St) (a0 : Nat) (v1 : Int32) (v2 : Int32) (v3 : Int32) (a4 : Nat) (k4 : Nat) (v5 : Int32) : Prop := xA y σ (lk a0 5) 0 (v1 + 1) (fun x_1 : Int32 => ((¬ x_1 = v2 → wj_Na_isSameSign_46 y Post a0 a4 k4 σ) ∧ (x_1 = v2 → xA y σ (lk a0 5) 0 (v1 + 2) (fun x_2 : Int32 => ((¬ x_2 = v5 → wj_Na_isSameSign_46 y Post a0 a4 k4 σ) ∧ (x_2 = v5 → xA y σ (lk a0 5) 0 (v1 + 3) (fun x_3 : Int32 => ((x_3 = v3 → wl_Na_isSameSign_51 y Post a0 a4 k4 σ v1 v3 0) ∧ (¬ (x_3 = v3) → wj_Na_isSameSign_46 y Post a0 a4 k4 σ)))))))))
set_option maxHeartbeats 4000000 in
set_option maxRecDepth 100000 in
theorem cu_Na_isSameSign (l : Launch) (D : va_G) (g : Nat → ClassId) (ad : Nat → Nat) (y : Ly) (Post : St → Int32 → Prop) (σ : St) (a0 : Nat) (v1 : Int32) (v2 : Int32) (v3 : Int32) (a4 : Nat) (k4 : Nat) (v5 : Int32) (sz : Nat) (h_a0 : cl a0 = 5) (h_a4 : kd (cl a4) k4 = 2 ∧ tyx (cl a4) k4 = 0) (h : wu_Na_isSameSign y Post σ a0 v1 v2 v3 a4 k4 v5) : Met l y_Na_isSameSign (mw y_Na_isSameSign b_Na_isSameSign 7 (some (.boolean))) ru_Na_isSameSign (PC g D [] [.ref (ad a0), .int v1, .int v2, .int v3, .ref (yP y a4 k4), .int v5] sz (ws g ad y σ)) (va_Qi (fun (r : Int32) (u : St) => Post u r) (QW D (va_A (ws g ad y σ) sz) (fun u => ws g ad y u)) (va_A (ws g ad y σ) sz)) 0 0 (va_A (ws g ad y σ) sz) := by
  refine ofZ (by decide +kernel) (Nat.le_of_ble_eq_true rfl) ?_
  intro p e s m args below meth c A Q ls H locs G hsz hP hD hS hl hret
  subst hsz
  have hl : lv_has ls 7 [(0, .ref (ad a0)), (1, .int v1), (2, .int v2), (3, .int v3), (4, .ref (yP y a4 k4)), (5, .int v5)] := hl
  unfold wu_Na_isSameSign at h
  refine lv_aload_n G.1 G.2.1 d_Na_isSameSign_0 rfl (lv_at hl 0 rfl) ?_
  refine ugf (v := .ref (ad (lk a0 5))) G hP h_a0 iNa rfl 5 (by decide) rfl q509 rfl rfl d_Na_isSameSign_1 ?_
  refine ugf (v := .ref (yP y (lk a0 5) 0)) G hP (lk_5_5 h_a0) iIn rfl 0 (by decide) rfl q381 rfl rfl d_Na_isSameSign_4 ?_
  refine lv_iload_n G.1 G.2.1 d_Na_isSameSign_7 rfl (lv_at hl 1 rfl) ?_
  refine lv_iconst (v := 1) G.1 G.2.1 d_Na_isSameSign_8 (by decide) ?_
  refine lv_iadd G.1 G.2.1 d_Na_isSameSign_9 ?_
  refine uiald G hP (kdp (lk_5_5 h_a0) rfl) (typ (lk_5_5 h_a0) rfl) h d_Na_isSameSign_10 (fun x_1 h => ?_)
  refine lv_iload_n G.1 G.2.1 d_Na_isSameSign_11 rfl (lv_at hl 2 rfl) ?_
  have J_46 : ∀ (s_j46 : St) (H : Heap) (locs : List Loc), wj_Na_isSameSign_46 y Post a0 a4 k4 s_j46 → va_P D CL (ws g ad y s_j46) H → va_D A (ws g ad y s_j46) → va_S A s.heap H locs → ∀ ls, lv_has ls 7 [] → W p l e ru_Na_isSameSign s m args below meth c H locs 0 0 Q (F0 m 46 ls []) := by
    intro s_j46 H locs h hP hD hS ls hl
    unfold wj_Na_isSameSign_46 at h
    refine lv_iconst (v := 0) G.1 G.2.1 d_Na_isSameSign_46 (by decide) ?_
    exact hret _ _ _ _ _ _ _ ls (nb_n h.1) h.2 hP hD hS (Nat.le_refl _) (Nat.le_refl _) d_Na_isSameSign_47
  refine lv_icmp_ne (tgt := 46) G.1 G.2.1 d_Na_isSameSign_12 (by decide) (fun c12 => ?_) (fun c12 => ?_)
  · skip
    have h := h.1 c12
    exact J_46 σ H locs h hP hD hS ls (lv_sub hl [] rfl)
  · skip
    have h := h.2 c12
    refine lv_aload_n G.1 G.2.1 d_Na_isSameSign_15 rfl (lv_at hl 0 rfl) ?_
    refine ugf (v := .ref (ad (lk a0 5))) G hP h_a0 iNa rfl 5 (by decide) rfl q509 rfl rfl d_Na_isSameSign_16 ?_
    refine W.eq (g2 := F0 m 19 ls [.ref (ad (lk a0 5))]) rfl ?_
    refine ugf (v := .ref (yP y (lk a0 5) 0)) G hP (lk_5_5 h_a0) iIn rfl 0 (by decide) rfl q381 rfl rfl d_Na_isSameSign_19 ?_
    refine lv_iload_n G.1 G.2.1 d_Na_isSameSign_22 rfl (lv_at hl 1 rfl) ?_
    refine lv_iconst (v := 2) G.1 G.2.1 d_Na_isSameSign_23 (by decide) ?_
    refine lv_iadd G.1 G.2.1 d_Na_isSameSign_24 ?_
    refine uiald G hP (kdp (lk_5_5 h_a0) rfl) (typ (lk_5_5 h_a0) rfl) h d_Na_isSameSign_25 (fun x_2 h => ?_)
    refine lv_iload G.1 G.2.1 d_Na_isSameSign_26 (lv_at hl 5 rfl) ?_
    refine lv_icmp_ne (tgt := 46) G.1 G.2.1 d_Na_isSameSign_28 (by decide) (fun c28 => ?_) (fun c28 => ?_)
    · skip
      have h := h.1 c28
      exact J_46 σ H locs h hP hD hS ls (lv_sub hl [] rfl)
    · skip
      have h := h.2 c28
      refine lv_aload_n G.1 G.2.1 d_Na_isSameSign_31 rfl (lv_at hl 0 rfl) ?_
      refine ugf (v := .ref (ad (lk a0 5))) G hP h_a0 iNa rfl 5 (by decide) rfl q509 rfl rfl d_Na_isSameSign_32 ?_
      refine ugf (v := .ref (yP y (lk a0 5) 0)) G hP (lk_5_5 h_a0) iIn rfl 0 (by decide) rfl q381 rfl rfl d_Na_isSameSign_35 ?_
      refine lv_iload_n G.1 G.2.1 d_Na_isSameSign_38 rfl (lv_at hl 1 rfl) ?_
      refine lv_iconst (v := 3) G.1 G.2.1 d_Na_isSameSign_39 (by decide) ?_
      refine W.eq (g2 := F0 m 40 ls [.int 3, .int v1, .ref (yP y (lk a0 5) 0)]) rfl ?_
      refine lv_iadd G.1 G.2.1 d_Na_isSameSign_40 ?_
      refine uiald G hP (kdp (lk_5_5 h_a0) rfl) (typ (lk_5_5 h_a0) rfl) h d_Na_isSameSign_41 (fun x_3 h => ?_)
      refine lv_iload_n G.1 G.2.1 d_Na_isSameSign_42 rfl (lv_at hl 3 rfl) ?_
      refine lv_icmp_eq (tgt := 48) G.1 G.2.1 d_Na_isSameSign_43 (by decide) (fun c43 => ?_) (fun c43 => ?_)
      · skip
        have h := h.1 c43
        refine lv_iconst (v := 0) G.1 G.2.1 d_Na_isSameSign_48 (by decide) ?_
        refine lv_istore (lv' := [(6, .int 0), (0, .ref (ad a0)), (1, .int v1), (2, .int v2), (3, .int v3), (4, .ref (yP y a4 k4)), (5, .int v5)]) G.1 G.2.1 d_Na_isSameSign_49 hl (by decide) rfl (fun ls hl => ?_)
        unfold wl_Na_isSameSign_51 at h
        obtain ⟨I_51, μ_51, hI_51, hB_51⟩ := h
        have L_51 : ∀ (n_51 : Nat) (s_h51 : St) (x1h51 : Int32) (x3h51 : Int32) (x6h51 : Int32), μ_51 s_h51 x1h51 x3h51 x6h51 < n_51 → I_51 s_h51 x1h51 x3h51 x6h51 → ∀ (H : Heap) (locs : List Loc), va_P D CL (ws g ad y s_h51) H → va_D A (ws g ad y s_h51) → va_S A s.heap H locs → ∀ ls, lv_has ls 7 [(0, .ref (ad a0)), (1, .int x1h51), (3, .int x3h51), (4, .ref (yP y a4 k4)), (6, .int x6h51)] → W p l e ru_Na_isSameSign s m args below meth c H locs 0 0 Q (F0 m 51 ls []) := by
          intro n_51
          induction n_51 with
          | zero => intro s_h51 x1h51 x3h51 x6h51 hμ; exact absurd hμ (Nat.not_lt_zero _)
          | succ n_51 ih_51 =>
            intro s_h51 x1h51 x3h51 x6h51 hμ_51 hJ H locs hP hD hS ls hl
            obtain ⟨K_51, hK_51, h⟩ : ∃ K : St → Int32 → Int32 → Int32 → Prop, (∀ z (t0 : Int32) (t1 : Int32) (t2 : Int32), K z t0 t1 t2 → I_51 z t0 t1 t2 ∧ μ_51 z t0 t1 t2 < μ_51 s_h51 x1h51 x3h51 x6h51) ∧ wb_Na_isSameSign_51 y Post K a0 a4 k4 s_h51 x1h51 x3h51 x6h51 := ⟨_, fun _ _ _ _ h => h, hB_51 s_h51 x1h51 x3h51 x6h51 hJ⟩
            unfold wb_Na_isSameSign_51 at h
            refine lv_iload G.1 G.2.1 d_Na_isSameSign_51 (lv_at hl 4 rfl) ?_
            refine lv_iload_n G.1 G.2.1 d_Na_isSameSign_53 rfl (lv_at hl 2 rfl) ?_
            refine lv_icmp_ge (tgt := 87) G.1 G.2.1 d_Na_isSameSign_54 (by decide) (fun c54 => ?_) (fun c54 => ?_)
            · skip
              have h := h.1 c54
              refine lv_iconst (v := 1) G.1 G.2.1 d_Na_isSameSign_87 (by decide) ?_
              exact hret _ _ _ _ _ _ _ ls (nb_n h.1) h.2 hP hD hS (Nat.le_refl _) (Nat.le_refl _) d_Na_isSameSign_88
            · skip
              have h := h.2 c54
              refine lv_aload_n G.1 G.2.1 d_Na_isSameSign_57 rfl (lv_at hl 0 rfl) ?_
              refine ugf (v := .ref (ad (lk a0 5))) G hP h_a0 iNa rfl 5 (by decide) rfl q509 rfl rfl d_Na_isSameSign_58 ?_
              refine ugf (v := .ref (yP y (lk a0 5) 0)) G hP (lk_5_5 h_a0) iIn rfl 0 (by decide) rfl q381 rfl rfl d_Na_isSameSign_61 ?_
              refine lv_iload_n G.1 G.2.1 d_Na_isSameSign_64 rfl (lv_at hl 1 rfl) ?_
              refine lv_iconst (v := 4) G.1 G.2.1 d_Na_isSameSign_65 (by decide) ?_
              refine lv_iadd G.1 G.2.1 d_Na_isSameSign_66 ?_
              refine lv_iload G.1 G.2.1 d_Na_isSameSign_67 (lv_at hl 4 rfl) ?_
              refine lv_iadd G.1 G.2.1 d_Na_isSameSign_69 ?_
              refine W.eq (g2 := F0 m 70 ls [.int ((x1h51 + 4) + x6h51), .ref (yP y (lk a0 5) 0)]) rfl ?_
              refine uiald G hP (kdp (lk_5_5 h_a0) rfl) (typ (lk_5_5 h_a0) rfl) h d_Na_isSameSign_70 (fun x_4 h => ?_)
              refine lv_aload G.1 G.2.1 d_Na_isSameSign_71 (lv_at hl 3 rfl) ?_
              refine lv_iload G.1 G.2.1 d_Na_isSameSign_73 (lv_at hl 4 rfl) ?_
              refine uiald G hP h_a4.1 h_a4.2 h d_Na_isSameSign_75 (fun x_5 h => ?_)
              refine lv_icmp_eq (tgt := 81) G.1 G.2.1 d_Na_isSameSign_76 (by decide) (fun c76 => ?_) (fun c76 => ?_)
              · skip
                have h := h.1 c76
                refine lv_iinc (v := x6h51 + 1) (lv' := [(6, .int (x6h51 + 1)), (0, .ref (ad a0)), (1, .int x1h51), (3, .int x3h51), (4, .ref (yP y a4 k4))]) G.1 G.2.1 d_Na_isSameSign_81 hl (k := 4) rfl rfl (by decide) rfl (fun ls hl => ?_)
                refine lv_goto (tgt := 51) G.1 G.2.1 d_Na_isSameSign_84 (by decide) ?_
                have h := hK_51 s_h51 x1h51 x3h51 (x6h51 + 1) h
                exact ih_51 s_h51 x1h51 x3h51 (x6h51 + 1) (Nat.lt_of_lt_of_le h.2 (Nat.le_of_lt_succ hμ_51)) h.1 H locs hP hD hS ls (lv_sub hl [1, 2, 3, 4, 0] rfl)
              · skip
                have h := h.2 c76
                refine lv_iconst (v := 0) G.1 G.2.1 d_Na_isSameSign_79 (by decide) ?_
                exact hret _ _ _ _ _ _ _ ls (nb_n h.1) h.2 hP hD hS (Nat.le_refl _) (Nat.le_refl _) d_Na_isSameSign_80
        exact L_51 _ σ v1 v3 0 (Nat.lt_succ_self _) hI_51 H locs hP hD hS ls (lv_sub hl [1, 2, 4, 5, 0] rfl)
      · skip
        have h := h.2 c43
        exact J_46 σ H locs h hP hD hS ls (lv_sub hl [] rfl)
abbrev ru_In_put : Room := { frames := 0, cells := 0, slots := 0, locals := 0 }
def wj_In_put_19 (y : Ly) (Post : St → Prop) (a0 : Nat) (s_j19 : St) : Prop := Post s_j19
def wu_In_put (y : Ly) (Post : St → Prop) (σ : St) (a0 : Nat) (v1 : Int32) (v2 : Int32) : Prop := ((v1 < 0 → wj_In_put_19 y Post a0 σ) ∧ (¬ (v1 < 0) → (((sV σ a0 1) ≤ v1 → wj_In_put_19 y Post a0 σ) ∧ (¬ ((sV σ a0 1) ≤ v1) → xS y σ a0 0 v1 v2 (fun s_1 : St => wj_In_put_19 y Post a0 s_1)))))
set_option maxHeartbeats 4000000 in
set_option maxRecDepth 100000 in
theorem cu_In_put (l : Launch) (D : va_G) (g : Nat → ClassId) (ad : Nat → Nat) (y : Ly) (Post : St → Prop) (σ : St) (a0 : Nat) (v1 : Int32) (v2 : Int32) (sz : Nat) (h_a0 : cl a0 = 3) (h : wu_In_put y Post σ a0 v1 v2) : Met l y_In_put (mw y_In_put b_In_put 3 (none)) ru_In_put (PC g D [] [.ref (ad a0), .int v1, .int v2] sz (ws g ad y σ)) (va_Qv (fun u : St => Post u) (QW D (va_A (ws g ad y σ) sz) (fun u => ws g ad y u)) (va_A (ws g ad y σ) sz)) 0 0 (va_A (ws g ad y σ) sz) := by
  refine ofV (by decide +kernel) (Nat.le_of_ble_eq_true rfl) ?_
  intro p e s m args below meth c A Q ls H locs G hsz hP hD hS hl hret
  subst hsz
  have hl : lv_has ls 3 [(0, .ref (ad a0)), (1, .int v1), (2, .int v2)] := hl
  unfold wu_In_put at h
  refine lv_iload_n G.1 G.2.1 d_In_put_0 rfl (lv_at hl 1 rfl) ?_
  have J_19 : ∀ (s_j19 : St) (H : Heap) (locs : List Loc), wj_In_put_19 y Post a0 s_j19 → va_P D CL (ws g ad y s_j19) H → va_D A (ws g ad y s_j19) → va_S A s.heap H locs → ∀ ls, lv_has ls 3 [] → W p l e ru_In_put s m args below meth c H locs 0 0 Q (F0 m 19 ls []) := by
    intro s_j19 H locs h hP hD hS ls hl
    unfold wj_In_put_19 at h
    exact hret _ _ _ _ _ _ ls h hP hD hS (Nat.le_refl _) (Nat.le_refl _) d_In_put_19
  refine lv_if_lt (tgt := 19) G.1 G.2.1 d_In_put_1 (by decide) (fun c1 => ?_) (fun c1 => ?_)
  · skip
    have h := h.1 c1
    exact J_19 σ H locs h hP hD hS ls (lv_sub hl [] rfl)
  · skip
    have h := h.2 c1
    refine lv_iload_n G.1 G.2.1 d_In_put_4 rfl (lv_at hl 1 rfl) ?_
    refine lv_aload_n G.1 G.2.1 d_In_put_5 rfl (lv_at hl 0 rfl) ?_
    refine ugf (v := .int (sV σ a0 1)) G hP h_a0 iIn rfl 1 (by decide) rfl q389 rfl rfl d_In_put_6 ?_
    refine lv_icmp_ge (tgt := 19) G.1 G.2.1 d_In_put_9 (by decide) (fun c9 => ?_) (fun c9 => ?_)
    · skip
      have h := h.1 c9
      exact J_19 σ H locs h hP hD hS ls (lv_sub hl [] rfl)
    · skip
      have h := h.2 c9
      refine lv_aload_n G.1 G.2.1 d_In_put_12 rfl (lv_at hl 0 rfl) ?_
      refine ugf (v := .ref (yP y a0 0)) G hP h_a0 iIn rfl 0 (by decide) rfl q379 rfl rfl d_In_put_13 ?_
      refine lv_iload_n G.1 G.2.1 d_In_put_16 rfl (lv_at hl 1 rfl) ?_
      refine lv_iload_n G.1 G.2.1 d_In_put_17 rfl (lv_at hl 2 rfl) ?_
      refine uiast G hP hD hS (kdp h_a0 rfl) (typ h_a0 rfl) h d_In_put_18 (fun s_1 H locs h hP hD hS => ?_)
      exact J_19 s_1 H locs h hP hD hS ls (lv_sub hl [] rfl)
def y_Cw_feedOne : MethodName := ⟨"ClassWorks", "feedOne", "(I)V"⟩
abbrev b_Cw_feedOne : ByteArray := prog_1_method_3_code
theorem q1141 : Cond.fieldLink "ClassWorks" 21 "ClassWorks" "tapeSize" "I" ∈ lw_ok := lw_okmem (List.mem_of_getElem? (i := 1141) (by decide +kernel)) rfl
theorem q1140 : Cond.fieldLink "ClassWorks" 17 "ClassWorks" "tape" "[B" ∈ lw_ok := lw_okmem (List.mem_of_getElem? (i := 1140) (by decide +kernel)) rfl
theorem d_Cw_feedOne_0 : decode b_Cw_feedOne 0 = .ok (.bipush 24, 2) := by decide +kernel
theorem d_Cw_feedOne_2 : decode b_Cw_feedOne 2 = .ok (.istore_n 2, 1) := by decide +kernel
theorem d_Cw_feedOne_3 : decode b_Cw_feedOne 3 = .ok (.iload_n 2, 1) := by decide +kernel
theorem d_Cw_feedOne_4 : decode b_Cw_feedOne 4 = .ok (.ifCond .lt 42, 3) := by decide +kernel
theorem d_Cw_feedOne_7 : decode b_Cw_feedOne 7 = .ok (.aload_n 0, 1) := by decide +kernel
theorem d_Cw_feedOne_8 : decode b_Cw_feedOne 8 = .ok (.getfield 21, 3) := by decide +kernel
theorem d_Cw_feedOne_11 : decode b_Cw_feedOne 11 = .ok (.sipush 6000, 3) := by decide +kernel
theorem d_Cw_feedOne_14 : decode b_Cw_feedOne 14 = .ok (.if_icmp .ge 32, 3) := by decide +kernel
theorem d_Cw_feedOne_17 : decode b_Cw_feedOne 17 = .ok (.aload_n 0, 1) := by decide +kernel
theorem d_Cw_feedOne_18 : decode b_Cw_feedOne 18 = .ok (.getfield 17, 3) := by decide +kernel
theorem d_Cw_feedOne_21 : decode b_Cw_feedOne 21 = .ok (.aload_n 0, 1) := by decide +kernel
theorem d_Cw_feedOne_22 : decode b_Cw_feedOne 22 = .ok (.getfield 21, 3) := by decide +kernel
theorem d_Cw_feedOne_25 : decode b_Cw_feedOne 25 = .ok (.iload_n 1, 1) := by decide +kernel
theorem d_Cw_feedOne_26 : decode b_Cw_feedOne 26 = .ok (.iload_n 2, 1) := by decide +kernel
theorem d_Cw_feedOne_27 : decode b_Cw_feedOne 27 = .ok (.ishr, 1) := by decide +kernel
theorem d_Cw_feedOne_28 : decode b_Cw_feedOne 28 = .ok (.i2b, 1) := by decide +kernel
theorem d_Cw_feedOne_29 : decode b_Cw_feedOne 29 = .ok (.bastore, 1) := by decide +kernel
theorem d_Cw_feedOne_30 : decode b_Cw_feedOne 30 = .ok (.aload_n 0, 1) := by decide +kernel
theorem d_Cw_feedOne_31 : decode b_Cw_feedOne 31 = .ok (.dup, 1) := by decide +kernel
theorem d_Cw_feedOne_32 : decode b_Cw_feedOne 32 = .ok (.getfield 21, 3) := by decide +kernel
theorem d_Cw_feedOne_35 : decode b_Cw_feedOne 35 = .ok (.iconst 1, 1) := by decide +kernel
theorem d_Cw_feedOne_36 : decode b_Cw_feedOne 36 = .ok (.iadd, 1) := by decide +kernel
theorem d_Cw_feedOne_37 : decode b_Cw_feedOne 37 = .ok (.putfield 21, 3) := by decide +kernel
theorem d_Cw_feedOne_40 : decode b_Cw_feedOne 40 = .ok (.iinc 2 (-8), 3) := by decide +kernel
theorem d_Cw_feedOne_43 : decode b_Cw_feedOne 43 = .ok (.goto (-40), 3) := by decide +kernel
theorem d_Cw_feedOne_46 : decode b_Cw_feedOne 46 = .ok (.return_, 1) := by decide +kernel
abbrev ru_Cw_feedOne : Room := { frames := 0, cells := 0, slots := 0, locals := 0 }
def wj_Cw_feedOne_46 (y : Ly) (Post : St → Prop) (a0 : Nat) (s_j46 : St) : Prop := Post s_j46
def wb_Cw_feedOne_3 (y : Ly) (Post : St → Prop) (K_3 : St → Int32 → Int32 → Prop) (a0 : Nat) (s_h3 : St) (x1h3 : Int32) (x2h3 : Int32) : Prop := ((x2h3 < 0 → wj_Cw_feedOne_46 y Post a0 s_h3) ∧ (¬ (x2h3 < 0) → ((6000 ≤ (sV s_h3 a0 7) → wj_Cw_feedOne_46 y Post a0 s_h3) ∧ (¬ (6000 ≤ (sV s_h3 a0 7)) → xS y s_h3 a0 6 (sV s_h3 a0 7) (vp_nar .byte ((x1h3 >>> (x2h3 &&& 31)).toInt8.toInt32)) (fun s_1 : St => xP (uV s_1 a0 7 ((sV s_1 a0 7) + 1)) (fun s_2 : St => K_3 s_2 x1h3 (x2h3 + (-8))))))))
def wl_Cw_feedOne_3 (y : Ly) (Post : St → Prop) (a0 : Nat) (s_h3 : St) (x1h3 : Int32) (x2h3 : Int32) : Prop := ∃ (I : St → Int32 → Int32 → Prop) (μ : St → Int32 → Int32 → Nat), I s_h3 x1h3 x2h3 ∧ ∀ (u : St) (t0 : Int32) (t1 : Int32), I u t0 t1 → wb_Cw_feedOne_3 y Post (fun z t0q t1q => I z t0q t1q ∧ μ z t0q t1q < μ u t0 t1) a0 u t0 t1
def wu_Cw_feedOne (y : Ly) (Post : St → Prop) (σ : St) (a0 : Nat) (v1 : Int32) : Prop := wl_Cw_feedOne_3 y Post a0 σ v1 24
set_option maxHeartbeats 4000000 in
set_option maxRecDepth 100000 in
theorem cu_Cw_feedOne (l : Launch) (D : va_G) (g : Nat → ClassId) (ad : Nat → Nat) (y : Ly) (Post : St → Prop) (σ : St) (a0 : Nat) (v1 : Int32) (sz : Nat) (h_a0 : cl a0 = 11) (h : wu_Cw_feedOne y Post σ a0 v1) : Met l y_Cw_feedOne (mw y_Cw_feedOne b_Cw_feedOne 3 (none)) ru_Cw_feedOne (PC g D [] [.ref (ad a0), .int v1] sz (ws g ad y σ)) (va_Qv (fun u : St => Post u) (QW D (va_A (ws g ad y σ) sz) (fun u => ws g ad y u)) (va_A (ws g ad y σ) sz)) 0 0 (va_A (ws g ad y σ) sz) := by
  refine ofV (by decide +kernel) (Nat.le_of_ble_eq_true rfl) ?_
  intro p e s m args below meth c A Q ls H locs G hsz hP hD hS hl hret
  subst hsz
  have hl : lv_has ls 3 [(0, .ref (ad a0)), (1, .int v1)] := hl
  unfold wu_Cw_feedOne at h
  refine lv_bipush (v := 24) G.1 G.2.1 d_Cw_feedOne_0 (by decide) ?_
  refine lv_istore_n (lv' := [(2, .int 24), (0, .ref (ad a0)), (1, .int v1)]) G.1 G.2.1 d_Cw_feedOne_2 rfl hl (by decide) rfl (fun ls hl => ?_)
  unfold wl_Cw_feedOne_3 at h
  obtain ⟨I_3, μ_3, hI_3, hB_3⟩ := h
  have L_3 : ∀ (n_3 : Nat) (s_h3 : St) (x1h3 : Int32) (x2h3 : Int32), μ_3 s_h3 x1h3 x2h3 < n_3 → I_3 s_h3 x1h3 x2h3 → ∀ (H : Heap) (locs : List Loc), va_P D CL (ws g ad y s_h3) H → va_D A (ws g ad y s_h3) → va_S A s.heap H locs → ∀ ls, lv_has ls 3 [(0, .ref (ad a0)), (1, .int x1h3), (2, .int x2h3)] → W p l e ru_Cw_feedOne s m args below meth c H locs 0 0 Q (F0 m 3 ls []) := by
    intro n_3
    induction n_3 with
    | zero => intro s_h3 x1h3 x2h3 hμ; exact absurd hμ (Nat.not_lt_zero _)
    | succ n_3 ih_3 =>
      intro s_h3 x1h3 x2h3 hμ_3 hJ H locs hP hD hS ls hl
      obtain ⟨K_3, hK_3, h⟩ : ∃ K : St → Int32 → Int32 → Prop, (∀ z (t0 : Int32) (t1 : Int32), K z t0 t1 → I_3 z t0 t1 ∧ μ_3 z t0 t1 < μ_3 s_h3 x1h3 x2h3) ∧ wb_Cw_feedOne_3 y Post K a0 s_h3 x1h3 x2h3 := ⟨_, fun _ _ _ h => h, hB_3 s_h3 x1h3 x2h3 hJ⟩
      unfold wb_Cw_feedOne_3 at h
      refine lv_iload_n G.1 G.2.1 d_Cw_feedOne_3 rfl (lv_at hl 2 rfl) ?_
      have J_46 : ∀ (s_j46 : St) (H : Heap) (locs : List Loc), wj_Cw_feedOne_46 y Post a0 s_j46 → va_P D CL (ws g ad y s_j46) H → va_D A (ws g ad y s_j46) → va_S A s.heap H locs → ∀ ls, lv_has ls 3 [] → W p l e ru_Cw_feedOne s m args below meth c H locs 0 0 Q (F0 m 46 ls []) := by
        intro s_j46 H locs h hP hD hS ls hl
        unfold wj_Cw_feedOne_46 at h
        exact hret _ _ _ _ _ _ ls h hP hD hS (Nat.le_refl _) (Nat.le_refl _) d_Cw_feedOne_46
      refine lv_if_lt (tgt := 46) G.1 G.2.1 d_Cw_feedOne_4 (by decide) (fun c4 => ?_) (fun c4 => ?_)
      · skip
        have h := h.1 c4
        exact J_46 s_h3 H locs h hP hD hS ls (lv_sub hl [] rfl)
      · skip
        have h := h.2 c4
        refine lv_aload_n G.1 G.2.1 d_Cw_feedOne_7 rfl (lv_at hl 0 rfl) ?_
        refine ugf (v := .int (sV s_h3 a0 7)) G hP h_a0 iCw rfl 7 (by decide) rfl q1141 rfl rfl d_Cw_feedOne_8 ?_
        refine lv_sipush (v := 6000) G.1 G.2.1 d_Cw_feedOne_11 (by decide) ?_
        refine lv_icmp_ge (tgt := 46) G.1 G.2.1 d_Cw_feedOne_14 (by decide) (fun c14 => ?_) (fun c14 => ?_)
        · skip
          have h := h.1 c14
          exact J_46 s_h3 H locs h hP hD hS ls (lv_sub hl [] rfl)
        · skip
          have h := h.2 c14
          refine lv_aload_n G.1 G.2.1 d_Cw_feedOne_17 rfl (lv_at hl 0 rfl) ?_
          refine ugf (v := .ref (yP y a0 6)) G hP h_a0 iCw rfl 6 (by decide) rfl q1140 rfl rfl d_Cw_feedOne_18 ?_
          refine lv_aload_n G.1 G.2.1 d_Cw_feedOne_21 rfl (lv_at hl 0 rfl) ?_
          refine ugf (v := .int (sV s_h3 a0 7)) G hP h_a0 iCw rfl 7 (by decide) rfl q1141 rfl rfl d_Cw_feedOne_22 ?_
          refine lv_iload_n G.1 G.2.1 d_Cw_feedOne_25 rfl (lv_at hl 1 rfl) ?_
          refine W.eq (g2 := F0 m 26 ls [.int x1h3, .int (sV s_h3 a0 7), .ref (yP y a0 6)]) rfl ?_
          refine lv_iload_n G.1 G.2.1 d_Cw_feedOne_26 rfl (lv_at hl 2 rfl) ?_
          refine lv_ishr G.1 G.2.1 d_Cw_feedOne_27 ?_
          refine lv_i2b G.1 G.2.1 d_Cw_feedOne_28 rfl ?_
          refine ubast G hP hD hS (kdp h_a0 rfl) (typ h_a0 rfl) h d_Cw_feedOne_29 (fun s_1 H locs h hP hD hS => ?_)
          refine lv_aload_n G.1 G.2.1 d_Cw_feedOne_30 rfl (lv_at hl 0 rfl) ?_
          refine lv_dup G.1 G.2.1 d_Cw_feedOne_31 rfl ?_
          refine ugf (v := .int (sV s_1 a0 7)) G hP h_a0 iCw rfl 7 (by decide) rfl q1141 rfl rfl d_Cw_feedOne_32 ?_
          refine lv_iconst (v := 1) G.1 G.2.1 d_Cw_feedOne_35 (by decide) ?_
          refine lv_iadd G.1 G.2.1 d_Cw_feedOne_36 ?_
          refine upf G hP hD hS h 7 putV h_a0 iCw tCw tCw_ok nCw rfl (by decide) rfl q1141 rfl rfl fV rfl rfl d_Cw_feedOne_37 (fun s_2 H locs h hP hD hS => ?_)
          refine lv_iinc (v := x2h3 + (-8)) (lv' := [(2, .int (x2h3 + (-8))), (0, .ref (ad a0)), (1, .int x1h3)]) G.1 G.2.1 d_Cw_feedOne_40 hl (k := 2) rfl rfl (by decide) rfl (fun ls hl => ?_)
          refine lv_goto (tgt := 3) G.1 G.2.1 d_Cw_feedOne_43 (by decide) ?_
          have h := hK_3 s_2 x1h3 (x2h3 + (-8)) h
          exact ih_3 s_2 x1h3 (x2h3 + (-8)) (Nat.lt_of_lt_of_le h.2 (Nat.le_of_lt_succ hμ_3)) h.1 H locs hP hD hS ls (lv_sub hl [1, 2, 0] rfl)
  exact L_3 _ σ v1 24 (Nat.lt_succ_self _) hI_3 H locs hP hD hS ls (lv_sub hl [1, 2, 0] rfl)
theorem q1199 : Cond.methodLink "ClassWorks" 114 y_Cw_feedOne ∈ lw_ok := lw_okmem (List.mem_of_getElem? (i := 1199) (by decide +kernel)) rfl
theorem q1202 : Cond.code y_Cw_feedOne b_Cw_feedOne 3 (none) ∈ lw_ok := lw_okmem (List.mem_of_getElem? (i := 1202) (by decide +kernel)) rfl
theorem q329 : Cond.initialized "ClassWorks" ∈ lw_ok := lw_okmem (List.mem_of_getElem? (i := 329) (by decide +kernel)) rfl
theorem q1201 : Cond.instanceMethod y_Cw_feedOne ∈ lw_ok := lw_okmem (List.mem_of_getElem? (i := 1201) (by decide +kernel)) rfl
theorem q3 : Cond.selects y_Cw_feedOne.cls y_Cw_feedOne y_Cw_feedOne ∈ lw_ok := lw_okmem (List.mem_of_getElem? (i := 3) (by decide +kernel)) rfl
theorem w9_Cw_feedOne : CWv y_Cw_feedOne b_Cw_feedOne 3 (none) 1 ∧ Cond.instanceMethod y_Cw_feedOne ∈ lw_ok ∧ Cond.selects y_Cw_feedOne.cls y_Cw_feedOne y_Cw_feedOne ∈ lw_ok := ⟨⟨q1202, q329, by decide +kernel, by decide +kernel, by decide +kernel⟩, q1201, q3⟩
def y_Cw_feed : MethodName := ⟨"ClassWorks", "feed", "(IIIII)I"⟩
abbrev b_Cw_feed : ByteArray := prog_1_method_2_code
theorem d_Cw_feed_0 : decode b_Cw_feed 0 = .ok (.aload_n 0, 1) := by decide +kernel
theorem d_Cw_feed_1 : decode b_Cw_feed 1 = .ok (.getfield 21, 3) := by decide +kernel
theorem d_Cw_feed_4 : decode b_Cw_feed 4 = .ok (.bipush 20, 2) := by decide +kernel
theorem d_Cw_feed_6 : decode b_Cw_feed 6 = .ok (.iadd, 1) := by decide +kernel
theorem d_Cw_feed_7 : decode b_Cw_feed 7 = .ok (.sipush 6000, 3) := by decide +kernel
theorem d_Cw_feed_10 : decode b_Cw_feed 10 = .ok (.if_icmp .le 6, 3) := by decide +kernel
theorem d_Cw_feed_13 : decode b_Cw_feed 13 = .ok (.bipush (-3), 2) := by decide +kernel
theorem d_Cw_feed_15 : decode b_Cw_feed 15 = .ok (.ireturn, 1) := by decide +kernel
theorem d_Cw_feed_16 : decode b_Cw_feed 16 = .ok (.aload_n 0, 1) := by decide +kernel
theorem d_Cw_feed_17 : decode b_Cw_feed 17 = .ok (.iload_n 1, 1) := by decide +kernel
theorem d_Cw_feed_18 : decode b_Cw_feed 18 = .ok (.invokevirtual 114, 3) := by decide +kernel
theorem d_Cw_feed_21 : decode b_Cw_feed 21 = .ok (.aload_n 0, 1) := by decide +kernel
theorem d_Cw_feed_22 : decode b_Cw_feed 22 = .ok (.iload_n 2, 1) := by decide +kernel
theorem d_Cw_feed_23 : decode b_Cw_feed 23 = .ok (.invokevirtual 114, 3) := by decide +kernel
theorem d_Cw_feed_26 : decode b_Cw_feed 26 = .ok (.aload_n 0, 1) := by decide +kernel
theorem d_Cw_feed_27 : decode b_Cw_feed 27 = .ok (.iload_n 3, 1) := by decide +kernel
theorem d_Cw_feed_28 : decode b_Cw_feed 28 = .ok (.invokevirtual 114, 3) := by decide +kernel
theorem d_Cw_feed_31 : decode b_Cw_feed 31 = .ok (.aload_n 0, 1) := by decide +kernel
theorem d_Cw_feed_32 : decode b_Cw_feed 32 = .ok (.iload 4, 2) := by decide +kernel
theorem d_Cw_feed_34 : decode b_Cw_feed 34 = .ok (.invokevirtual 114, 3) := by decide +kernel
theorem d_Cw_feed_37 : decode b_Cw_feed 37 = .ok (.aload_n 0, 1) := by decide +kernel
theorem d_Cw_feed_38 : decode b_Cw_feed 38 = .ok (.iload 5, 2) := by decide +kernel
theorem d_Cw_feed_40 : decode b_Cw_feed 40 = .ok (.invokevirtual 114, 3) := by decide +kernel
theorem d_Cw_feed_43 : decode b_Cw_feed 43 = .ok (.aload_n 0, 1) := by decide +kernel
theorem d_Cw_feed_44 : decode b_Cw_feed 44 = .ok (.getfield 21, 3) := by decide +kernel
theorem d_Cw_feed_47 : decode b_Cw_feed 47 = .ok (.ireturn, 1) := by decide +kernel
abbrev ru_Cw_feed : Room := { frames := 1, cells := 0, slots := 0, locals := 22 }
def wu_Cw_feed (y : Ly) (Post : St → Int32 → Prop) (σ : St) (a0 : Nat) (v1 : Int32) (v2 : Int32) (v3 : Int32) (v4 : Int32) (v5 : Int32) : Prop := ((((sV σ a0 7) + 20) ≤ 6000 → wu_Cw_feedOne y (fun (s_2 : St) => wu_Cw_feedOne y (fun (s_4 : St) => wu_Cw_feedOne y (fun (s_6 : St) => wu_Cw_feedOne y (fun (s_8 : St) => wu_Cw_feedOne y (fun (s_10 : St) => Post s_10 (sV s_10 a0 7)) s_8 a0 v5) s_6 a0 v4) s_4 a0 v3) s_2 a0 v2) σ a0 v1) ∧ (¬ (((sV σ a0 7) + 20) ≤ 6000) → Post σ (-3)))
set_option maxHeartbeats 4000000 in
set_option maxRecDepth 100000 in
theorem cu_Cw_feed (l : Launch) (D : va_G) (g : Nat → ClassId) (ad : Nat → Nat) (y : Ly) (Post : St → Int32 → Prop) (σ : St) (a0 : Nat) (v1 : Int32) (v2 : Int32) (v3 : Int32) (v4 : Int32) (v5 : Int32) (sz : Nat) (h_a0 : cl a0 = 11) (h : wu_Cw_feed y Post σ a0 v1 v2 v3 v4 v5) : Met l y_Cw_feed (mw y_Cw_feed b_Cw_feed 6 (some .int)) ru_Cw_feed (PC g D [] [.ref (ad a0), .int v1, .int v2, .int v3, .int v4, .int v5] sz (ws g ad y σ)) (va_Qi (fun (r : Int32) (u : St) => Post u r) (QW D (va_A (ws g ad y σ) sz) (fun u => ws g ad y u)) (va_A (ws g ad y σ) sz)) 0 0 (va_A (ws g ad y σ) sz) := by
  refine ofI (by decide +kernel) (Nat.le_of_ble_eq_true rfl) ?_
  intro p e s m args below meth c A Q ls H locs G hsz hP hD hS hl hret
  subst hsz
  have hl : lv_has ls 6 [(0, .ref (ad a0)), (1, .int v1), (2, .int v2), (3, .int v3), (4, .int v4), (5, .int v5)] := hl
  unfold wu_Cw_feed at h
  refine lv_aload_n G.1 G.2.1 d_Cw_feed_0 rfl (lv_at hl 0 rfl) ?_
  refine ugf (v := .int (sV σ a0 7)) G hP h_a0 iCw rfl 7 (by decide) rfl q1141 rfl rfl d_Cw_feed_1 ?_
  refine lv_bipush (v := 20) G.1 G.2.1 d_Cw_feed_4 (by decide) ?_
  refine lv_iadd G.1 G.2.1 d_Cw_feed_6 ?_
  refine lv_sipush (v := 6000) G.1 G.2.1 d_Cw_feed_7 (by decide) ?_
  refine lv_icmp_le (tgt := 16) G.1 G.2.1 d_Cw_feed_10 (by decide) (fun c10 => ?_) (fun c10 => ?_)
  · skip
    have h := h.1 c10
    refine lv_aload_n G.1 G.2.1 d_Cw_feed_16 rfl (lv_at hl 0 rfl) ?_
    refine lv_iload_n G.1 G.2.1 d_Cw_feed_17 rfl (lv_at hl 1 rfl) ?_
    refine ucVv (As := [.int v1]) (rest := []) G hP hD hS (cu_Cw_feedOne l D g ad y _ σ a0 v1 H.size h_a0 h) w9_Cw_feedOne q1199 ⟨Nat.le_of_ble_eq_true rfl, Nat.le_of_ble_eq_true rfl⟩ rfl rfl h_a0 (q := (RCw, TCw, 20)) rfl rfl hl.1 rfl (Nat.le_of_ble_eq_true rfl) rfl ⟨Nat.le_refl _, Nat.le_refl _⟩ d_Cw_feed_18 (fun s_2 H locs h hP hD hS => ?_)
    refine lv_aload_n G.1 G.2.1 d_Cw_feed_21 rfl (lv_at hl 0 rfl) ?_
    refine lv_iload_n G.1 G.2.1 d_Cw_feed_22 rfl (lv_at hl 2 rfl) ?_
    refine W.eq (g2 := F0 m 23 ls [.int v2, .ref (ad a0)]) rfl ?_
    refine ucVv (As := [.int v2]) (rest := []) G hP hD hS (cu_Cw_feedOne l D g ad y _ s_2 a0 v2 H.size h_a0 h) w9_Cw_feedOne q1199 ⟨Nat.le_of_ble_eq_true rfl, Nat.le_of_ble_eq_true rfl⟩ rfl rfl h_a0 (q := (RCw, TCw, 20)) rfl rfl hl.1 rfl (Nat.le_of_ble_eq_true rfl) rfl ⟨Nat.le_refl _, Nat.le_refl _⟩ d_Cw_feed_23 (fun s_4 H locs h hP hD hS => ?_)
    refine lv_aload_n G.1 G.2.1 d_Cw_feed_26 rfl (lv_at hl 0 rfl) ?_
    refine lv_iload_n G.1 G.2.1 d_Cw_feed_27 rfl (lv_at hl 3 rfl) ?_
    refine ucVv (As := [.int v3]) (rest := []) G hP hD hS (cu_Cw_feedOne l D g ad y _ s_4 a0 v3 H.size h_a0 h) w9_Cw_feedOne q1199 ⟨Nat.le_of_ble_eq_true rfl, Nat.le_of_ble_eq_true rfl⟩ rfl rfl h_a0 (q := (RCw, TCw, 20)) rfl rfl hl.1 rfl (Nat.le_of_ble_eq_true rfl) rfl ⟨Nat.le_refl _, Nat.le_refl _⟩ d_Cw_feed_28 (fun s_6 H locs h hP hD hS => ?_)
    refine lv_aload_n G.1 G.2.1 d_Cw_feed_31 rfl (lv_at hl 0 rfl) ?_
    refine lv_iload G.1 G.2.1 d_Cw_feed_32 (lv_at hl 4 rfl) ?_
    refine ucVv (As := [.int v4]) (rest := []) G hP hD hS (cu_Cw_feedOne l D g ad y _ s_6 a0 v4 H.size h_a0 h) w9_Cw_feedOne q1199 ⟨Nat.le_of_ble_eq_true rfl, Nat.le_of_ble_eq_true rfl⟩ rfl rfl h_a0 (q := (RCw, TCw, 20)) rfl rfl hl.1 rfl (Nat.le_of_ble_eq_true rfl) rfl ⟨Nat.le_refl _, Nat.le_refl _⟩ d_Cw_feed_34 (fun s_8 H locs h hP hD hS => ?_)
    refine lv_aload_n G.1 G.2.1 d_Cw_feed_37 rfl (lv_at hl 0 rfl) ?_
    refine lv_iload G.1 G.2.1 d_Cw_feed_38 (lv_at hl 5 rfl) ?_
    refine ucVv (As := [.int v5]) (rest := []) G hP hD hS (cu_Cw_feedOne l D g ad y _ s_8 a0 v5 H.size h_a0 h) w9_Cw_feedOne q1199 ⟨Nat.le_of_ble_eq_true rfl, Nat.le_of_ble_eq_true rfl⟩ rfl rfl h_a0 (q := (RCw, TCw, 20)) rfl rfl hl.1 rfl (Nat.le_of_ble_eq_true rfl) rfl ⟨Nat.le_refl _, Nat.le_refl _⟩ d_Cw_feed_40 (fun s_10 H locs h hP hD hS => ?_)
    refine lv_aload_n G.1 G.2.1 d_Cw_feed_43 rfl (lv_at hl 0 rfl) ?_
    refine ugf (v := .int (sV s_10 a0 7)) G hP h_a0 iCw rfl 7 (by decide) rfl q1141 rfl rfl d_Cw_feed_44 ?_
    refine W.eq (g2 := F0 m 47 ls [.int (sV s_10 a0 7)]) rfl ?_
    exact hret _ _ _ _ _ _ _ ls h hP hD hS (Nat.le_refl _) (Nat.le_refl _) d_Cw_feed_47
  · skip
    have h := h.2 c10
    refine lv_bipush (v := (-3)) G.1 G.2.1 d_Cw_feed_13 (by decide) ?_
    exact hret _ _ _ _ _ _ _ ls h hP hD hS (Nat.le_refl _) (Nat.le_refl _) d_Cw_feed_15
def y_Cw_cut : MethodName := ⟨"ClassWorks", "cut", "(I)I"⟩
abbrev b_Cw_cut : ByteArray := prog_1_method_4_code
theorem d_Cw_cut_0 : decode b_Cw_cut 0 = .ok (.iload_n 1, 1) := by decide +kernel
theorem d_Cw_cut_1 : decode b_Cw_cut 1 = .ok (.ifCond .lt 11, 3) := by decide +kernel
theorem d_Cw_cut_4 : decode b_Cw_cut 4 = .ok (.iload_n 1, 1) := by decide +kernel
theorem d_Cw_cut_5 : decode b_Cw_cut 5 = .ok (.aload_n 0, 1) := by decide +kernel
theorem d_Cw_cut_6 : decode b_Cw_cut 6 = .ok (.getfield 21, 3) := by decide +kernel
theorem d_Cw_cut_9 : decode b_Cw_cut 9 = .ok (.if_icmp .le 5, 3) := by decide +kernel
theorem d_Cw_cut_12 : decode b_Cw_cut 12 = .ok (.iconst (-1), 1) := by decide +kernel
theorem d_Cw_cut_13 : decode b_Cw_cut 13 = .ok (.ireturn, 1) := by decide +kernel
theorem d_Cw_cut_14 : decode b_Cw_cut 14 = .ok (.aload_n 0, 1) := by decide +kernel
theorem d_Cw_cut_15 : decode b_Cw_cut 15 = .ok (.dup, 1) := by decide +kernel
theorem d_Cw_cut_16 : decode b_Cw_cut 16 = .ok (.getfield 21, 3) := by decide +kernel
theorem d_Cw_cut_19 : decode b_Cw_cut 19 = .ok (.iload_n 1, 1) := by decide +kernel
theorem d_Cw_cut_20 : decode b_Cw_cut 20 = .ok (.isub, 1) := by decide +kernel
theorem d_Cw_cut_21 : decode b_Cw_cut 21 = .ok (.putfield 21, 3) := by decide +kernel
theorem d_Cw_cut_24 : decode b_Cw_cut 24 = .ok (.aload_n 0, 1) := by decide +kernel
theorem d_Cw_cut_25 : decode b_Cw_cut 25 = .ok (.getfield 21, 3) := by decide +kernel
theorem d_Cw_cut_28 : decode b_Cw_cut 28 = .ok (.ireturn, 1) := by decide +kernel
abbrev ru_Cw_cut : Room := { frames := 0, cells := 0, slots := 0, locals := 0 }
def wj_Cw_cut_12 (y : Ly) (Post : St → Int32 → Prop) (a0 : Nat) (s_j12 : St) : Prop := Post s_j12 (-1)
def wu_Cw_cut (y : Ly) (Post : St → Int32 → Prop) (σ : St) (a0 : Nat) (v1 : Int32) : Prop := ((v1 < 0 → wj_Cw_cut_12 y Post a0 σ) ∧ (¬ (v1 < 0) → ((v1 ≤ (sV σ a0 7) → xP (uV σ a0 7 ((sV σ a0 7) - v1)) (fun s_1 : St => Post s_1 (sV s_1 a0 7))) ∧ (¬ (v1 ≤ (sV σ a0 7)) → wj_Cw_cut_12 y Post a0 σ))))
set_option maxHeartbeats 4000000 in
set_option maxRecDepth 100000 in
theorem cu_Cw_cut (l : Launch) (D : va_G) (g : Nat → ClassId) (ad : Nat → Nat) (y : Ly) (Post : St → Int32 → Prop) (σ : St) (a0 : Nat) (v1 : Int32) (sz : Nat) (h_a0 : cl a0 = 11) (h : wu_Cw_cut y Post σ a0 v1) : Met l y_Cw_cut (mw y_Cw_cut b_Cw_cut 2 (some .int)) ru_Cw_cut (PC g D [] [.ref (ad a0), .int v1] sz (ws g ad y σ)) (va_Qi (fun (r : Int32) (u : St) => Post u r) (QW D (va_A (ws g ad y σ) sz) (fun u => ws g ad y u)) (va_A (ws g ad y σ) sz)) 0 0 (va_A (ws g ad y σ) sz) := by
  refine ofI (by decide +kernel) (Nat.le_of_ble_eq_true rfl) ?_
  intro p e s m args below meth c A Q ls H locs G hsz hP hD hS hl hret
  subst hsz
  have hl : lv_has ls 2 [(0, .ref (ad a0)), (1, .int v1)] := hl
  unfold wu_Cw_cut at h
  refine lv_iload_n G.1 G.2.1 d_Cw_cut_0 rfl (lv_at hl 1 rfl) ?_
  have J_12 : ∀ (s_j12 : St) (H : Heap) (locs : List Loc), wj_Cw_cut_12 y Post a0 s_j12 → va_P D CL (ws g ad y s_j12) H → va_D A (ws g ad y s_j12) → va_S A s.heap H locs → ∀ ls, lv_has ls 2 [] → W p l e ru_Cw_cut s m args below meth c H locs 0 0 Q (F0 m 12 ls []) := by
    intro s_j12 H locs h hP hD hS ls hl
    unfold wj_Cw_cut_12 at h
    refine lv_iconst (v := (-1)) G.1 G.2.1 d_Cw_cut_12 (by decide) ?_
    exact hret _ _ _ _ _ _ _ ls h hP hD hS (Nat.le_refl _) (Nat.le_refl _) d_Cw_cut_13
  refine lv_if_lt (tgt := 12) G.1 G.2.1 d_Cw_cut_1 (by decide) (fun c1 => ?_) (fun c1 => ?_)
  · skip
    have h := h.1 c1
    exact J_12 σ H locs h hP hD hS ls (lv_sub hl [] rfl)
  · skip
    have h := h.2 c1
    refine lv_iload_n G.1 G.2.1 d_Cw_cut_4 rfl (lv_at hl 1 rfl) ?_
    refine lv_aload_n G.1 G.2.1 d_Cw_cut_5 rfl (lv_at hl 0 rfl) ?_
    refine ugf (v := .int (sV σ a0 7)) G hP h_a0 iCw rfl 7 (by decide) rfl q1141 rfl rfl d_Cw_cut_6 ?_
    refine lv_icmp_le (tgt := 14) G.1 G.2.1 d_Cw_cut_9 (by decide) (fun c9 => ?_) (fun c9 => ?_)
    · skip
      have h := h.1 c9
      refine lv_aload_n G.1 G.2.1 d_Cw_cut_14 rfl (lv_at hl 0 rfl) ?_
      refine lv_dup G.1 G.2.1 d_Cw_cut_15 rfl ?_
      refine ugf (v := .int (sV σ a0 7)) G hP h_a0 iCw rfl 7 (by decide) rfl q1141 rfl rfl d_Cw_cut_16 ?_
      refine lv_iload_n G.1 G.2.1 d_Cw_cut_19 rfl (lv_at hl 1 rfl) ?_
      refine lv_isub G.1 G.2.1 d_Cw_cut_20 ?_
      refine W.eq (g2 := F0 m 21 ls [.int ((sV σ a0 7) - v1), .ref (ad a0)]) rfl ?_
      refine upf G hP hD hS h 7 putV h_a0 iCw tCw tCw_ok nCw rfl (by decide) rfl q1141 rfl rfl fV rfl rfl d_Cw_cut_21 (fun s_1 H locs h hP hD hS => ?_)
      refine lv_aload_n G.1 G.2.1 d_Cw_cut_24 rfl (lv_at hl 0 rfl) ?_
      refine ugf (v := .int (sV s_1 a0 7)) G hP h_a0 iCw rfl 7 (by decide) rfl q1141 rfl rfl d_Cw_cut_25 ?_
      exact hret _ _ _ _ _ _ _ ls h hP hD hS (Nat.le_refl _) (Nat.le_refl _) d_Cw_cut_28
    · skip
      have h := h.2 c9
      exact J_12 σ H locs h hP hD hS ls (lv_sub hl [] rfl)
theorem q817 : Cond.fieldLink "ClassWorks$World" 15 "ClassWorks$World" "count" "I" ∈ lw_ok := lw_okmem (List.mem_of_getElem? (i := 817) (by decide +kernel)) rfl
theorem q860 : Cond.fieldLink "ClassWorks$World" 60 "ClassWorks$World" "classNamed" "LClassWorks$Ints;" ∈ lw_ok := lw_okmem (List.mem_of_getElem? (i := 860) (by decide +kernel)) rfl
theorem q831 : Cond.fieldLink "ClassWorks$World" 28 "ClassWorks$World" "rows" "[I" ∈ lw_ok := lw_okmem (List.mem_of_getElem? (i := 831) (by decide +kernel)) rfl
theorem q808 : Cond.methodLink "ClassWorks$World" 94 y_In_put ∈ lw_ok := lw_okmem (List.mem_of_getElem? (i := 808) (by decide +kernel)) rfl
theorem q811 : Cond.code y_In_put b_In_put 3 (none) ∈ lw_ok := lw_okmem (List.mem_of_getElem? (i := 811) (by decide +kernel)) rfl
theorem q809 : Cond.instanceMethod y_In_put ∈ lw_ok := lw_okmem (List.mem_of_getElem? (i := 809) (by decide +kernel)) rfl
theorem q810 : Cond.selects y_In_put.cls y_In_put y_In_put ∈ lw_ok := lw_okmem (List.mem_of_getElem? (i := 810) (by decide +kernel)) rfl
theorem w9_In_put : CWv y_In_put b_In_put 3 (none) 2 ∧ Cond.instanceMethod y_In_put ∈ lw_ok ∧ Cond.selects y_In_put.cls y_In_put y_In_put ∈ lw_ok := ⟨⟨q811, q331, by decide +kernel, by decide +kernel, by decide +kernel⟩, q809, q810⟩
def y_Wd_takeBack : MethodName := ⟨"ClassWorks$World", "takeBack", "(I)V"⟩
abbrev b_Wd_takeBack : ByteArray := prog_11_method_3_code
theorem d_Wd_takeBack_0 : decode b_Wd_takeBack 0 = .ok (.aload_n 0, 1) := by decide +kernel
theorem d_Wd_takeBack_1 : decode b_Wd_takeBack 1 = .ok (.getfield 15, 3) := by decide +kernel
theorem d_Wd_takeBack_4 : decode b_Wd_takeBack 4 = .ok (.iconst 1, 1) := by decide +kernel
theorem d_Wd_takeBack_5 : decode b_Wd_takeBack 5 = .ok (.isub, 1) := by decide +kernel
theorem d_Wd_takeBack_6 : decode b_Wd_takeBack 6 = .ok (.istore_n 2, 1) := by decide +kernel
theorem d_Wd_takeBack_7 : decode b_Wd_takeBack 7 = .ok (.iload_n 2, 1) := by decide +kernel
theorem d_Wd_takeBack_8 : decode b_Wd_takeBack 8 = .ok (.iload_n 1, 1) := by decide +kernel
theorem d_Wd_takeBack_9 : decode b_Wd_takeBack 9 = .ok (.if_icmp .lt 28, 3) := by decide +kernel
theorem d_Wd_takeBack_12 : decode b_Wd_takeBack 12 = .ok (.aload_n 0, 1) := by decide +kernel
theorem d_Wd_takeBack_13 : decode b_Wd_takeBack 13 = .ok (.getfield 60, 3) := by decide +kernel
theorem d_Wd_takeBack_16 : decode b_Wd_takeBack 16 = .ok (.aload_n 0, 1) := by decide +kernel
theorem d_Wd_takeBack_17 : decode b_Wd_takeBack 17 = .ok (.getfield 28, 3) := by decide +kernel
theorem d_Wd_takeBack_20 : decode b_Wd_takeBack 20 = .ok (.iload_n 2, 1) := by decide +kernel
theorem d_Wd_takeBack_21 : decode b_Wd_takeBack 21 = .ok (.bipush 19, 2) := by decide +kernel
theorem d_Wd_takeBack_23 : decode b_Wd_takeBack 23 = .ok (.imul, 1) := by decide +kernel
theorem d_Wd_takeBack_24 : decode b_Wd_takeBack 24 = .ok (.iconst 0, 1) := by decide +kernel
theorem d_Wd_takeBack_25 : decode b_Wd_takeBack 25 = .ok (.iadd, 1) := by decide +kernel
theorem d_Wd_takeBack_26 : decode b_Wd_takeBack 26 = .ok (.iaload, 1) := by decide +kernel
theorem d_Wd_takeBack_27 : decode b_Wd_takeBack 27 = .ok (.iconst 0, 1) := by decide +kernel
theorem d_Wd_takeBack_28 : decode b_Wd_takeBack 28 = .ok (.invokevirtual 94, 3) := by decide +kernel
theorem d_Wd_takeBack_31 : decode b_Wd_takeBack 31 = .ok (.iinc 2 (-1), 3) := by decide +kernel
theorem d_Wd_takeBack_34 : decode b_Wd_takeBack 34 = .ok (.goto (-27), 3) := by decide +kernel
theorem d_Wd_takeBack_37 : decode b_Wd_takeBack 37 = .ok (.aload_n 0, 1) := by decide +kernel
theorem d_Wd_takeBack_38 : decode b_Wd_takeBack 38 = .ok (.iload_n 1, 1) := by decide +kernel
theorem d_Wd_takeBack_39 : decode b_Wd_takeBack 39 = .ok (.putfield 15, 3) := by decide +kernel
theorem d_Wd_takeBack_42 : decode b_Wd_takeBack 42 = .ok (.return_, 1) := by decide +kernel
abbrev ru_Wd_takeBack : Room := { frames := 1, cells := 0, slots := 0, locals := 22 }
def wb_Wd_takeBack_7 (y : Ly) (Post : St → Prop) (K_7 : St → Int32 → Int32 → Prop) (a0 : Nat) (s_h7 : St) (x1h7 : Int32) (x2h7 : Int32) : Prop := ((x2h7 < x1h7 → xP (uV s_h7 a0 2 x1h7) (fun s_1 : St => Post s_1)) ∧ (¬ (x2h7 < x1h7) → xA y s_h7 a0 6 ((x2h7 * 19) + 0) (fun x_2 : Int32 => wu_In_put y (fun (s_4 : St) => K_7 s_4 x1h7 (x2h7 + (-1))) s_h7 (lk a0 14) x_2 0)))
def wl_Wd_takeBack_7 (y : Ly) (Post : St → Prop) (a0 : Nat) (s_h7 : St) (x1h7 : Int32) (x2h7 : Int32) : Prop := ∃ (I : St → Int32 → Int32 → Prop) (μ : St → Int32 → Int32 → Nat), I s_h7 x1h7 x2h7 ∧ ∀ (u : St) (t0 : Int32) (t1 : Int32), I u t0 t1 → wb_Wd_takeBack_7 y Post (fun z t0q t1q => I z t0q t1q ∧ μ z t0q t1q < μ u t0 t1) a0 u t0 t1
def wu_Wd_takeBack (y : Ly) (Post : St → Prop) (σ : St) (a0 : Nat) (v1 : Int32) : Prop := wl_Wd_takeBack_7 y Post a0 σ v1 ((sV σ a0 2) - 1)
set_option maxHeartbeats 4000000 in
set_option maxRecDepth 100000 in
theorem cu_Wd_takeBack (l : Launch) (D : va_G) (g : Nat → ClassId) (ad : Nat → Nat) (y : Ly) (Post : St → Prop) (σ : St) (a0 : Nat) (v1 : Int32) (sz : Nat) (h_a0 : cl a0 = 9) (h : wu_Wd_takeBack y Post σ a0 v1) : Met l y_Wd_takeBack (mw y_Wd_takeBack b_Wd_takeBack 3 (none)) ru_Wd_takeBack (PC g D [] [.ref (ad a0), .int v1] sz (ws g ad y σ)) (va_Qv (fun u : St => Post u) (QW D (va_A (ws g ad y σ) sz) (fun u => ws g ad y u)) (va_A (ws g ad y σ) sz)) 0 0 (va_A (ws g ad y σ) sz) := by
  refine ofV (by decide +kernel) (Nat.le_of_ble_eq_true rfl) ?_
  intro p e s m args below meth c A Q ls H locs G hsz hP hD hS hl hret
  subst hsz
  have hl : lv_has ls 3 [(0, .ref (ad a0)), (1, .int v1)] := hl
  unfold wu_Wd_takeBack at h
  refine lv_aload_n G.1 G.2.1 d_Wd_takeBack_0 rfl (lv_at hl 0 rfl) ?_
  refine ugf (v := .int (sV σ a0 2)) G hP h_a0 iWd rfl 2 (by decide) rfl q817 rfl rfl d_Wd_takeBack_1 ?_
  refine lv_iconst (v := 1) G.1 G.2.1 d_Wd_takeBack_4 (by decide) ?_
  refine lv_isub G.1 G.2.1 d_Wd_takeBack_5 ?_
  refine lv_istore_n (lv' := [(2, .int ((sV σ a0 2) - 1)), (0, .ref (ad a0)), (1, .int v1)]) G.1 G.2.1 d_Wd_takeBack_6 rfl hl (by decide) rfl (fun ls hl => ?_)
  unfold wl_Wd_takeBack_7 at h
  obtain ⟨I_7, μ_7, hI_7, hB_7⟩ := h
  have L_7 : ∀ (n_7 : Nat) (s_h7 : St) (x1h7 : Int32) (x2h7 : Int32), μ_7 s_h7 x1h7 x2h7 < n_7 → I_7 s_h7 x1h7 x2h7 → ∀ (H : Heap) (locs : List Loc), va_P D CL (ws g ad y s_h7) H → va_D A (ws g ad y s_h7) → va_S A s.heap H locs → ∀ ls, lv_has ls 3 [(0, .ref (ad a0)), (1, .int x1h7), (2, .int x2h7)] → W p l e ru_Wd_takeBack s m args below meth c H locs 0 0 Q (F0 m 7 ls []) := by
    intro n_7
    induction n_7 with
    | zero => intro s_h7 x1h7 x2h7 hμ; exact absurd hμ (Nat.not_lt_zero _)
    | succ n_7 ih_7 =>
      intro s_h7 x1h7 x2h7 hμ_7 hJ H locs hP hD hS ls hl
      obtain ⟨K_7, hK_7, h⟩ : ∃ K : St → Int32 → Int32 → Prop, (∀ z (t0 : Int32) (t1 : Int32), K z t0 t1 → I_7 z t0 t1 ∧ μ_7 z t0 t1 < μ_7 s_h7 x1h7 x2h7) ∧ wb_Wd_takeBack_7 y Post K a0 s_h7 x1h7 x2h7 := ⟨_, fun _ _ _ h => h, hB_7 s_h7 x1h7 x2h7 hJ⟩
      unfold wb_Wd_takeBack_7 at h
      refine lv_iload_n G.1 G.2.1 d_Wd_takeBack_7 rfl (lv_at hl 2 rfl) ?_
      refine lv_iload_n G.1 G.2.1 d_Wd_takeBack_8 rfl (lv_at hl 1 rfl) ?_
      refine lv_icmp_lt (tgt := 37) G.1 G.2.1 d_Wd_takeBack_9 (by decide) (fun c9 => ?_) (fun c9 => ?_)
      · skip
        have h := h.1 c9
        refine lv_aload_n G.1 G.2.1 d_Wd_takeBack_37 rfl (lv_at hl 0 rfl) ?_
        refine lv_iload_n G.1 G.2.1 d_Wd_takeBack_38 rfl (lv_at hl 1 rfl) ?_
        refine upf G hP hD hS h 2 putV h_a0 iWd tWd tWd_ok nWd rfl (by decide) rfl q817 rfl rfl fV rfl rfl d_Wd_takeBack_39 (fun s_1 H locs h hP hD hS => ?_)
        exact hret _ _ _ _ _ _ ls h hP hD hS (Nat.le_refl _) (Nat.le_refl _) d_Wd_takeBack_42
      · skip
        have h := h.2 c9
        refine lv_aload_n G.1 G.2.1 d_Wd_takeBack_12 rfl (lv_at hl 0 rfl) ?_
        refine ugf (v := .ref (ad (lk a0 14))) G hP h_a0 iWd rfl 14 (by decide) rfl q860 rfl rfl d_Wd_takeBack_13 ?_
        refine lv_aload_n G.1 G.2.1 d_Wd_takeBack_16 rfl (lv_at hl 0 rfl) ?_
        refine ugf (v := .ref (yP y a0 6)) G hP h_a0 iWd rfl 6 (by decide) rfl q831 rfl rfl d_Wd_takeBack_17 ?_
        refine lv_iload_n G.1 G.2.1 d_Wd_takeBack_20 rfl (lv_at hl 2 rfl) ?_
        refine lv_bipush (v := 19) G.1 G.2.1 d_Wd_takeBack_21 (by decide) ?_
        refine lv_imul G.1 G.2.1 d_Wd_takeBack_23 ?_
        refine lv_iconst (v := 0) G.1 G.2.1 d_Wd_takeBack_24 (by decide) ?_
        refine W.eq (g2 := F0 m 25 ls [.int 0, .int (x2h7 * 19), .ref (yP y a0 6), .ref (ad (lk a0 14))]) rfl ?_
        refine lv_iadd G.1 G.2.1 d_Wd_takeBack_25 ?_
        refine uiald G hP (kdp h_a0 rfl) (typ h_a0 rfl) h d_Wd_takeBack_26 (fun x_2 h => ?_)
        refine lv_iconst (v := 0) G.1 G.2.1 d_Wd_takeBack_27 (by decide) ?_
        refine ucVv (As := [.int x_2, .int 0]) (rest := []) G hP hD hS (cu_In_put l D g ad y _ s_h7 (lk a0 14) x_2 0 H.size (lk_9_14 h_a0) h) w9_In_put q808 ⟨Nat.le_of_ble_eq_true rfl, Nat.le_of_ble_eq_true rfl⟩ rfl rfl (lk_9_14 h_a0) (q := (RIn, TIn, 2)) rfl rfl hl.1 rfl (Nat.le_of_ble_eq_true rfl) rfl ⟨Nat.le_refl _, Nat.le_refl _⟩ d_Wd_takeBack_28 (fun s_4 H locs h hP hD hS => ?_)
        refine lv_iinc (v := x2h7 + (-1)) (lv' := [(2, .int (x2h7 + (-1))), (0, .ref (ad a0)), (1, .int x1h7)]) G.1 G.2.1 d_Wd_takeBack_31 hl (k := 2) rfl rfl (by decide) rfl (fun ls hl => ?_)
        refine lv_goto (tgt := 7) G.1 G.2.1 d_Wd_takeBack_34 (by decide) ?_
        have h := hK_7 s_4 x1h7 (x2h7 + (-1)) h
        exact ih_7 s_4 x1h7 (x2h7 + (-1)) (Nat.lt_of_lt_of_le h.2 (Nat.le_of_lt_succ hμ_7)) h.1 H locs hP hD hS ls (lv_sub hl [1, 2, 0] rfl)
  exact L_7 _ σ v1 ((sV σ a0 2) - 1) (Nat.lt_succ_self _) hI_7 H locs hP hD hS ls (lv_sub hl [1, 2, 0] rfl)
theorem q862 : Cond.fieldLink "ClassWorks$World" 63 "ClassWorks$World" "breaks" "I" ∈ lw_ok := lw_okmem (List.mem_of_getElem? (i := 862) (by decide +kernel)) rfl
theorem q1219 : Cond.methodLink "ClassWorks$World" 88 y_Wd_takeBack ∈ lw_ok := lw_okmem (List.mem_of_getElem? (i := 1219) (by decide +kernel)) rfl
theorem q1222 : Cond.code y_Wd_takeBack b_Wd_takeBack 3 (none) ∈ lw_ok := lw_okmem (List.mem_of_getElem? (i := 1222) (by decide +kernel)) rfl
theorem q345 : Cond.initialized "ClassWorks$World" ∈ lw_ok := lw_okmem (List.mem_of_getElem? (i := 345) (by decide +kernel)) rfl
theorem q1221 : Cond.instanceMethod y_Wd_takeBack ∈ lw_ok := lw_okmem (List.mem_of_getElem? (i := 1221) (by decide +kernel)) rfl
theorem q4 : Cond.selects y_Wd_takeBack.cls y_Wd_takeBack y_Wd_takeBack ∈ lw_ok := lw_okmem (List.mem_of_getElem? (i := 4) (by decide +kernel)) rfl
theorem w9_Wd_takeBack : CWv y_Wd_takeBack b_Wd_takeBack 3 (none) 1 ∧ Cond.instanceMethod y_Wd_takeBack ∈ lw_ok ∧ Cond.selects y_Wd_takeBack.cls y_Wd_takeBack y_Wd_takeBack ∈ lw_ok := ⟨⟨q1222, q345, by decide +kernel, by decide +kernel, by decide +kernel⟩, q1221, q4⟩
def y_Wd_restart : MethodName := ⟨"ClassWorks$World", "restart", "(I)V"⟩
abbrev b_Wd_restart : ByteArray := prog_11_method_2_code
theorem q835 : Cond.fieldLink "ClassWorks$World" 41 "ClassWorks$World" "fields" "LClassWorks$Ints;" ∈ lw_ok := lw_okmem (List.mem_of_getElem? (i := 835) (by decide +kernel)) rfl
theorem q391 : Cond.fieldLink "ClassWorks$World" 91 "ClassWorks$Ints" "size" "I" ∈ lw_ok := lw_okmem (List.mem_of_getElem? (i := 391) (by decide +kernel)) rfl
theorem q839 : Cond.fieldLink "ClassWorks$World" 45 "ClassWorks$World" "methods" "LClassWorks$Ints;" ∈ lw_ok := lw_okmem (List.mem_of_getElem? (i := 839) (by decide +kernel)) rfl
theorem q842 : Cond.fieldLink "ClassWorks$World" 48 "ClassWorks$World" "codes" "LClassWorks$Ints;" ∈ lw_ok := lw_okmem (List.mem_of_getElem? (i := 842) (by decide +kernel)) rfl
theorem q848 : Cond.fieldLink "ClassWorks$World" 51 "ClassWorks$World" "handlers" "LClassWorks$Ints;" ∈ lw_ok := lw_okmem (List.mem_of_getElem? (i := 848) (by decide +kernel)) rfl
theorem q853 : Cond.fieldLink "ClassWorks$World" 54 "ClassWorks$World" "extra" "LClassWorks$Ints;" ∈ lw_ok := lw_okmem (List.mem_of_getElem? (i := 853) (by decide +kernel)) rfl
theorem q858 : Cond.fieldLink "ClassWorks$World" 57 "ClassWorks$World" "orders" "LClassWorks$Ints;" ∈ lw_ok := lw_okmem (List.mem_of_getElem? (i := 858) (by decide +kernel)) rfl
theorem q822 : Cond.fieldLink "ClassWorks$World" 19 "ClassWorks$World" "wrongClass" "I" ∈ lw_ok := lw_okmem (List.mem_of_getElem? (i := 822) (by decide +kernel)) rfl
theorem q825 : Cond.fieldLink "ClassWorks$World" 22 "ClassWorks$World" "wrongMethod" "I" ∈ lw_ok := lw_okmem (List.mem_of_getElem? (i := 825) (by decide +kernel)) rfl
theorem q828 : Cond.fieldLink "ClassWorks$World" 25 "ClassWorks$World" "wrongAt" "I" ∈ lw_ok := lw_okmem (List.mem_of_getElem? (i := 828) (by decide +kernel)) rfl
theorem d_Wd_restart_0 : decode b_Wd_restart 0 = .ok (.aload_n 0, 1) := by decide +kernel
theorem d_Wd_restart_1 : decode b_Wd_restart 1 = .ok (.iload_n 1, 1) := by decide +kernel
theorem d_Wd_restart_2 : decode b_Wd_restart 2 = .ok (.putfield 63, 3) := by decide +kernel
theorem d_Wd_restart_5 : decode b_Wd_restart 5 = .ok (.aload_n 0, 1) := by decide +kernel
theorem d_Wd_restart_6 : decode b_Wd_restart 6 = .ok (.bipush 21, 2) := by decide +kernel
theorem d_Wd_restart_8 : decode b_Wd_restart 8 = .ok (.invokevirtual 88, 3) := by decide +kernel
theorem d_Wd_restart_11 : decode b_Wd_restart 11 = .ok (.aload_n 0, 1) := by decide +kernel
theorem d_Wd_restart_12 : decode b_Wd_restart 12 = .ok (.getfield 41, 3) := by decide +kernel
theorem d_Wd_restart_15 : decode b_Wd_restart 15 = .ok (.iconst 0, 1) := by decide +kernel
theorem d_Wd_restart_16 : decode b_Wd_restart 16 = .ok (.putfield 91, 3) := by decide +kernel
theorem d_Wd_restart_19 : decode b_Wd_restart 19 = .ok (.aload_n 0, 1) := by decide +kernel
theorem d_Wd_restart_20 : decode b_Wd_restart 20 = .ok (.getfield 45, 3) := by decide +kernel
theorem d_Wd_restart_23 : decode b_Wd_restart 23 = .ok (.sipush 168, 3) := by decide +kernel
theorem d_Wd_restart_26 : decode b_Wd_restart 26 = .ok (.putfield 91, 3) := by decide +kernel
theorem d_Wd_restart_29 : decode b_Wd_restart 29 = .ok (.aload_n 0, 1) := by decide +kernel
theorem d_Wd_restart_30 : decode b_Wd_restart 30 = .ok (.getfield 48, 3) := by decide +kernel
theorem d_Wd_restart_33 : decode b_Wd_restart 33 = .ok (.iconst 0, 1) := by decide +kernel
theorem d_Wd_restart_34 : decode b_Wd_restart 34 = .ok (.putfield 91, 3) := by decide +kernel
theorem d_Wd_restart_37 : decode b_Wd_restart 37 = .ok (.aload_n 0, 1) := by decide +kernel
theorem d_Wd_restart_38 : decode b_Wd_restart 38 = .ok (.getfield 51, 3) := by decide +kernel
theorem d_Wd_restart_41 : decode b_Wd_restart 41 = .ok (.iconst 0, 1) := by decide +kernel
theorem d_Wd_restart_42 : decode b_Wd_restart 42 = .ok (.putfield 91, 3) := by decide +kernel
theorem d_Wd_restart_45 : decode b_Wd_restart 45 = .ok (.aload_n 0, 1) := by decide +kernel
theorem d_Wd_restart_46 : decode b_Wd_restart 46 = .ok (.getfield 54, 3) := by decide +kernel
theorem d_Wd_restart_49 : decode b_Wd_restart 49 = .ok (.iconst 0, 1) := by decide +kernel
theorem d_Wd_restart_50 : decode b_Wd_restart 50 = .ok (.putfield 91, 3) := by decide +kernel
theorem d_Wd_restart_53 : decode b_Wd_restart 53 = .ok (.aload_n 0, 1) := by decide +kernel
theorem d_Wd_restart_54 : decode b_Wd_restart 54 = .ok (.getfield 57, 3) := by decide +kernel
theorem d_Wd_restart_57 : decode b_Wd_restart 57 = .ok (.iconst 0, 1) := by decide +kernel
theorem d_Wd_restart_58 : decode b_Wd_restart 58 = .ok (.putfield 91, 3) := by decide +kernel
theorem d_Wd_restart_61 : decode b_Wd_restart 61 = .ok (.aload_n 0, 1) := by decide +kernel
theorem d_Wd_restart_62 : decode b_Wd_restart 62 = .ok (.bipush (-2), 2) := by decide +kernel
theorem d_Wd_restart_64 : decode b_Wd_restart 64 = .ok (.putfield 19, 3) := by decide +kernel
theorem d_Wd_restart_67 : decode b_Wd_restart 67 = .ok (.aload_n 0, 1) := by decide +kernel
theorem d_Wd_restart_68 : decode b_Wd_restart 68 = .ok (.bipush (-2), 2) := by decide +kernel
theorem d_Wd_restart_70 : decode b_Wd_restart 70 = .ok (.putfield 22, 3) := by decide +kernel
theorem d_Wd_restart_73 : decode b_Wd_restart 73 = .ok (.aload_n 0, 1) := by decide +kernel
theorem d_Wd_restart_74 : decode b_Wd_restart 74 = .ok (.bipush (-2), 2) := by decide +kernel
theorem d_Wd_restart_76 : decode b_Wd_restart 76 = .ok (.putfield 25, 3) := by decide +kernel
theorem d_Wd_restart_79 : decode b_Wd_restart 79 = .ok (.return_, 1) := by decide +kernel
abbrev ru_Wd_restart : Room := { frames := 2, cells := 0, slots := 0, locals := 44 }
def wu_Wd_restart (y : Ly) (Post : St → Prop) (σ : St) (a0 : Nat) (v1 : Int32) : Prop := xP (uV σ a0 15 v1) (fun s_1 : St => wu_Wd_takeBack y (fun (s_3 : St) => xP (uV s_3 (lk a0 8) 1 0) (fun s_4 : St => xP (uV s_4 (lk a0 9) 1 168) (fun s_5 : St => xP (uV s_5 (lk a0 10) 1 0) (fun s_6 : St => xP (uV s_6 (lk a0 11) 1 0) (fun s_7 : St => xP (uV s_7 (lk a0 12) 1 0) (fun s_8 : St => xP (uV s_8 (lk a0 13) 1 0) (fun s_9 : St => xP (uV s_9 a0 3 (-2)) (fun s_10 : St => xP (uV s_10 a0 4 (-2)) (fun s_11 : St => xP (uV s_11 a0 5 (-2)) (fun s_12 : St => Post s_12)))))))))) s_1 a0 21)
set_option maxHeartbeats 4000000 in
set_option maxRecDepth 100000 in
theorem cu_Wd_restart (l : Launch) (D : va_G) (g : Nat → ClassId) (ad : Nat → Nat) (y : Ly) (Post : St → Prop) (σ : St) (a0 : Nat) (v1 : Int32) (sz : Nat) (h_a0 : cl a0 = 9) (h : wu_Wd_restart y Post σ a0 v1) : Met l y_Wd_restart (mw y_Wd_restart b_Wd_restart 2 (none)) ru_Wd_restart (PC g D [] [.ref (ad a0), .int v1] sz (ws g ad y σ)) (va_Qv (fun u : St => Post u) (QW D (va_A (ws g ad y σ) sz) (fun u => ws g ad y u)) (va_A (ws g ad y σ) sz)) 0 0 (va_A (ws g ad y σ) sz) := by
  refine ofV (by decide +kernel) (Nat.le_of_ble_eq_true rfl) ?_
  intro p e s m args below meth c A Q ls H locs G hsz hP hD hS hl hret
  subst hsz
  have hl : lv_has ls 2 [(0, .ref (ad a0)), (1, .int v1)] := hl
  unfold wu_Wd_restart at h
  refine lv_aload_n G.1 G.2.1 d_Wd_restart_0 rfl (lv_at hl 0 rfl) ?_
  refine lv_iload_n G.1 G.2.1 d_Wd_restart_1 rfl (lv_at hl 1 rfl) ?_
  refine upf G hP hD hS h 15 putV h_a0 iWd tWd tWd_ok nWd rfl (by decide) rfl q862 rfl rfl fV rfl rfl d_Wd_restart_2 (fun s_1 H locs h hP hD hS => ?_)
  refine lv_aload_n G.1 G.2.1 d_Wd_restart_5 rfl (lv_at hl 0 rfl) ?_
  refine lv_bipush (v := 21) G.1 G.2.1 d_Wd_restart_6 (by decide) ?_
  refine ucVv (As := [.int 21]) (rest := []) G hP hD hS (cu_Wd_takeBack l D g ad y _ s_1 a0 21 H.size h_a0 h) w9_Wd_takeBack q1219 ⟨Nat.le_of_ble_eq_true rfl, Nat.le_of_ble_eq_true rfl⟩ rfl rfl h_a0 (q := (RWd, TWd, 17)) rfl rfl hl.1 rfl (Nat.le_of_ble_eq_true rfl) rfl ⟨Nat.le_refl _, Nat.le_refl _⟩ d_Wd_restart_8 (fun s_3 H locs h hP hD hS => ?_)
  refine lv_aload_n G.1 G.2.1 d_Wd_restart_11 rfl (lv_at hl 0 rfl) ?_
  refine ugf (v := .ref (ad (lk a0 8))) G hP h_a0 iWd rfl 8 (by decide) rfl q835 rfl rfl d_Wd_restart_12 ?_
  refine lv_iconst (v := 0) G.1 G.2.1 d_Wd_restart_15 (by decide) ?_
  refine upf G hP hD hS h 1 putV (lk_9_8 h_a0) iIn tIn tIn_ok nIn rfl (by decide) rfl q391 rfl rfl fV rfl rfl d_Wd_restart_16 (fun s_4 H locs h hP hD hS => ?_)
  refine lv_aload_n G.1 G.2.1 d_Wd_restart_19 rfl (lv_at hl 0 rfl) ?_
  refine W.eq (g2 := F0 m 20 ls [.ref (ad a0)]) rfl ?_
  refine ugf (v := .ref (ad (lk a0 9))) G hP h_a0 iWd rfl 9 (by decide) rfl q839 rfl rfl d_Wd_restart_20 ?_
  refine lv_sipush (v := 168) G.1 G.2.1 d_Wd_restart_23 (by decide) ?_
  refine upf G hP hD hS h 1 putV (lk_9_9 h_a0) iIn tIn tIn_ok nIn rfl (by decide) rfl q391 rfl rfl fV rfl rfl d_Wd_restart_26 (fun s_5 H locs h hP hD hS => ?_)
  refine lv_aload_n G.1 G.2.1 d_Wd_restart_29 rfl (lv_at hl 0 rfl) ?_
  refine ugf (v := .ref (ad (lk a0 10))) G hP h_a0 iWd rfl 10 (by decide) rfl q842 rfl rfl d_Wd_restart_30 ?_
  refine lv_iconst (v := 0) G.1 G.2.1 d_Wd_restart_33 (by decide) ?_
  refine upf G hP hD hS h 1 putV (lk_9_10 h_a0) iIn tIn tIn_ok nIn rfl (by decide) rfl q391 rfl rfl fV rfl rfl d_Wd_restart_34 (fun s_6 H locs h hP hD hS => ?_)
  refine lv_aload_n G.1 G.2.1 d_Wd_restart_37 rfl (lv_at hl 0 rfl) ?_
  refine ugf (v := .ref (ad (lk a0 11))) G hP h_a0 iWd rfl 11 (by decide) rfl q848 rfl rfl d_Wd_restart_38 ?_
  refine lv_iconst (v := 0) G.1 G.2.1 d_Wd_restart_41 (by decide) ?_
  refine upf G hP hD hS h 1 putV (lk_9_11 h_a0) iIn tIn tIn_ok nIn rfl (by decide) rfl q391 rfl rfl fV rfl rfl d_Wd_restart_42 (fun s_7 H locs h hP hD hS => ?_)
  refine lv_aload_n G.1 G.2.1 d_Wd_restart_45 rfl (lv_at hl 0 rfl) ?_
  refine W.eq (g2 := F0 m 46 ls [.ref (ad a0)]) rfl ?_
  refine ugf (v := .ref (ad (lk a0 12))) G hP h_a0 iWd rfl 12 (by decide) rfl q853 rfl rfl d_Wd_restart_46 ?_
  refine lv_iconst (v := 0) G.1 G.2.1 d_Wd_restart_49 (by decide) ?_
  refine upf G hP hD hS h 1 putV (lk_9_12 h_a0) iIn tIn tIn_ok nIn rfl (by decide) rfl q391 rfl rfl fV rfl rfl d_Wd_restart_50 (fun s_8 H locs h hP hD hS => ?_)
  refine lv_aload_n G.1 G.2.1 d_Wd_restart_53 rfl (lv_at hl 0 rfl) ?_
  refine ugf (v := .ref (ad (lk a0 13))) G hP h_a0 iWd rfl 13 (by decide) rfl q858 rfl rfl d_Wd_restart_54 ?_
  refine lv_iconst (v := 0) G.1 G.2.1 d_Wd_restart_57 (by decide) ?_
  refine upf G hP hD hS h 1 putV (lk_9_13 h_a0) iIn tIn tIn_ok nIn rfl (by decide) rfl q391 rfl rfl fV rfl rfl d_Wd_restart_58 (fun s_9 H locs h hP hD hS => ?_)
  refine lv_aload_n G.1 G.2.1 d_Wd_restart_61 rfl (lv_at hl 0 rfl) ?_
  refine lv_bipush (v := (-2)) G.1 G.2.1 d_Wd_restart_62 (by decide) ?_
  refine upf G hP hD hS h 3 putV h_a0 iWd tWd tWd_ok nWd rfl (by decide) rfl q822 rfl rfl fV rfl rfl d_Wd_restart_64 (fun s_10 H locs h hP hD hS => ?_)
  refine lv_aload_n G.1 G.2.1 d_Wd_restart_67 rfl (lv_at hl 0 rfl) ?_
  refine lv_bipush (v := (-2)) G.1 G.2.1 d_Wd_restart_68 (by decide) ?_
  refine W.eq (g2 := F0 m 70 ls [.int (-2), .ref (ad a0)]) rfl ?_
  refine upf G hP hD hS h 4 putV h_a0 iWd tWd tWd_ok nWd rfl (by decide) rfl q825 rfl rfl fV rfl rfl d_Wd_restart_70 (fun s_11 H locs h hP hD hS => ?_)
  refine lv_aload_n G.1 G.2.1 d_Wd_restart_73 rfl (lv_at hl 0 rfl) ?_
  refine lv_bipush (v := (-2)) G.1 G.2.1 d_Wd_restart_74 (by decide) ?_
  refine upf G hP hD hS h 5 putV h_a0 iWd tWd tWd_ok nWd rfl (by decide) rfl q828 rfl rfl fV rfl rfl d_Wd_restart_76 (fun s_12 H locs h hP hD hS => ?_)
  exact hret _ _ _ _ _ _ ls h hP hD hS (Nat.le_refl _) (Nat.le_refl _) d_Wd_restart_79
def y_Hp_restart : MethodName := ⟨"ClassWorks$Heap", "restart", "()V"⟩
abbrev b_Hp_restart : ByteArray := prog_4_method_2_code
theorem q930 : Cond.fieldLink "ClassWorks$Heap" 40 "ClassWorks$Heap" "highest" "I" ∈ lw_ok := lw_okmem (List.mem_of_getElem? (i := 930) (by decide +kernel)) rfl
theorem q923 : Cond.fieldLink "ClassWorks$Heap" 24 "ClassWorks$Heap" "objects" "I" ∈ lw_ok := lw_okmem (List.mem_of_getElem? (i := 923) (by decide +kernel)) rfl
theorem q925 : Cond.fieldLink "ClassWorks$Heap" 28 "ClassWorks$Heap" "top" "I" ∈ lw_ok := lw_okmem (List.mem_of_getElem? (i := 925) (by decide +kernel)) rfl
theorem q929 : Cond.fieldLink "ClassWorks$Heap" 37 "ClassWorks$Heap" "leastFree" "I" ∈ lw_ok := lw_okmem (List.mem_of_getElem? (i := 929) (by decide +kernel)) rfl
theorem q931 : Cond.fieldLink "ClassWorks$Heap" 48 "ClassWorks$Heap" "faults" "LClassWorks$Ints;" ∈ lw_ok := lw_okmem (List.mem_of_getElem? (i := 931) (by decide +kernel)) rfl
theorem q392 : Cond.fieldLink "ClassWorks$Heap" 71 "ClassWorks$Ints" "size" "I" ∈ lw_ok := lw_okmem (List.mem_of_getElem? (i := 392) (by decide +kernel)) rfl
theorem q932 : Cond.fieldLink "ClassWorks$Heap" 52 "ClassWorks$Heap" "faultLocks" "LClassWorks$Ints;" ∈ lw_ok := lw_okmem (List.mem_of_getElem? (i := 932) (by decide +kernel)) rfl
theorem q913 : Cond.fieldLink "ClassWorks$Heap" 9 "ClassWorks$Heap" "kind" "[I" ∈ lw_ok := lw_okmem (List.mem_of_getElem? (i := 913) (by decide +kernel)) rfl
theorem d_Hp_restart_0 : decode b_Hp_restart 0 = .ok (.iconst 0, 1) := by decide +kernel
theorem d_Hp_restart_1 : decode b_Hp_restart 1 = .ok (.istore_n 1, 1) := by decide +kernel
theorem d_Hp_restart_2 : decode b_Hp_restart 2 = .ok (.iload_n 1, 1) := by decide +kernel
theorem d_Hp_restart_3 : decode b_Hp_restart 3 = .ok (.aload_n 0, 1) := by decide +kernel
theorem d_Hp_restart_4 : decode b_Hp_restart 4 = .ok (.getfield 40, 3) := by decide +kernel
theorem d_Hp_restart_7 : decode b_Hp_restart 7 = .ok (.if_icmp .gt 17, 3) := by decide +kernel
theorem d_Hp_restart_10 : decode b_Hp_restart 10 = .ok (.aload_n 0, 1) := by decide +kernel
theorem d_Hp_restart_11 : decode b_Hp_restart 11 = .ok (.getfield 9, 3) := by decide +kernel
theorem d_Hp_restart_14 : decode b_Hp_restart 14 = .ok (.iload_n 1, 1) := by decide +kernel
theorem d_Hp_restart_15 : decode b_Hp_restart 15 = .ok (.bipush (-2), 2) := by decide +kernel
theorem d_Hp_restart_17 : decode b_Hp_restart 17 = .ok (.iastore, 1) := by decide +kernel
theorem d_Hp_restart_18 : decode b_Hp_restart 18 = .ok (.iinc 1 1, 3) := by decide +kernel
theorem d_Hp_restart_21 : decode b_Hp_restart 21 = .ok (.goto (-19), 3) := by decide +kernel
theorem d_Hp_restart_24 : decode b_Hp_restart 24 = .ok (.aload_n 0, 1) := by decide +kernel
theorem d_Hp_restart_25 : decode b_Hp_restart 25 = .ok (.iconst 0, 1) := by decide +kernel
theorem d_Hp_restart_26 : decode b_Hp_restart 26 = .ok (.putfield 24, 3) := by decide +kernel
theorem d_Hp_restart_29 : decode b_Hp_restart 29 = .ok (.aload_n 0, 1) := by decide +kernel
theorem d_Hp_restart_30 : decode b_Hp_restart 30 = .ok (.iconst 0, 1) := by decide +kernel
theorem d_Hp_restart_31 : decode b_Hp_restart 31 = .ok (.putfield 28, 3) := by decide +kernel
theorem d_Hp_restart_34 : decode b_Hp_restart 34 = .ok (.aload_n 0, 1) := by decide +kernel
theorem d_Hp_restart_35 : decode b_Hp_restart 35 = .ok (.iconst 1, 1) := by decide +kernel
theorem d_Hp_restart_36 : decode b_Hp_restart 36 = .ok (.putfield 37, 3) := by decide +kernel
theorem d_Hp_restart_39 : decode b_Hp_restart 39 = .ok (.aload_n 0, 1) := by decide +kernel
theorem d_Hp_restart_40 : decode b_Hp_restart 40 = .ok (.iconst 0, 1) := by decide +kernel
theorem d_Hp_restart_41 : decode b_Hp_restart 41 = .ok (.putfield 40, 3) := by decide +kernel
theorem d_Hp_restart_44 : decode b_Hp_restart 44 = .ok (.aload_n 0, 1) := by decide +kernel
theorem d_Hp_restart_45 : decode b_Hp_restart 45 = .ok (.getfield 48, 3) := by decide +kernel
theorem d_Hp_restart_48 : decode b_Hp_restart 48 = .ok (.iconst 0, 1) := by decide +kernel
theorem d_Hp_restart_49 : decode b_Hp_restart 49 = .ok (.putfield 71, 3) := by decide +kernel
theorem d_Hp_restart_52 : decode b_Hp_restart 52 = .ok (.aload_n 0, 1) := by decide +kernel
theorem d_Hp_restart_53 : decode b_Hp_restart 53 = .ok (.getfield 52, 3) := by decide +kernel
theorem d_Hp_restart_56 : decode b_Hp_restart 56 = .ok (.iconst 0, 1) := by decide +kernel
theorem d_Hp_restart_57 : decode b_Hp_restart 57 = .ok (.putfield 71, 3) := by decide +kernel
theorem d_Hp_restart_60 : decode b_Hp_restart 60 = .ok (.return_, 1) := by decide +kernel
abbrev ru_Hp_restart : Room := { frames := 0, cells := 0, slots := 0, locals := 0 }
def wb_Hp_restart_2 (y : Ly) (Post : St → Prop) (K_2 : St → Int32 → Prop) (a0 : Nat) (s_h2 : St) (x1h2 : Int32) : Prop := (((sV s_h2 a0 9) < x1h2 → xP (uV s_h2 a0 4 0) (fun s_1 : St => xP (uV s_1 a0 5 0) (fun s_2 : St => xP (uV s_2 a0 8 1) (fun s_3 : St => xP (uV s_3 a0 9 0) (fun s_4 : St => xP (uV s_4 (lk a0 10) 1 0) (fun s_5 : St => xP (uV s_5 (lk a0 11) 1 0) (fun s_6 : St => Post s_6))))))) ∧ (¬ ((sV s_h2 a0 9) < x1h2) → xS y s_h2 a0 0 x1h2 (-2) (fun s_7 : St => K_2 s_7 (x1h2 + 1))))
def wl_Hp_restart_2 (y : Ly) (Post : St → Prop) (a0 : Nat) (s_h2 : St) (x1h2 : Int32) : Prop := ∃ (I : St → Int32 → Prop) (μ : St → Int32 → Nat), I s_h2 x1h2 ∧ ∀ (u : St) (t0 : Int32), I u t0 → wb_Hp_restart_2 y Post (fun z t0q => I z t0q ∧ μ z t0q < μ u t0) a0 u t0
def wu_Hp_restart (y : Ly) (Post : St → Prop) (σ : St) (a0 : Nat) : Prop := wl_Hp_restart_2 y Post a0 σ 0
set_option maxHeartbeats 4000000 in
set_option maxRecDepth 100000 in
theorem cu_Hp_restart (l : Launch) (D : va_G) (g : Nat → ClassId) (ad : Nat → Nat) (y : Ly) (Post : St → Prop) (σ : St) (a0 : Nat) (sz : Nat) (h_a0 : cl a0 = 2) (h : wu_Hp_restart y Post σ a0) : Met l y_Hp_restart (mw y_Hp_restart b_Hp_restart 2 (none)) ru_Hp_restart (PC g D [] [.ref (ad a0)] sz (ws g ad y σ)) (va_Qv (fun u : St => Post u) (QW D (va_A (ws g ad y σ) sz) (fun u => ws g ad y u)) (va_A (ws g ad y σ) sz)) 0 0 (va_A (ws g ad y σ) sz) := by
  refine ofV (by decide +kernel) (Nat.le_of_ble_eq_true rfl) ?_
  intro p e s m args below meth c A Q ls H locs G hsz hP hD hS hl hret
  subst hsz
  have hl : lv_has ls 2 [(0, .ref (ad a0))] := hl
  unfold wu_Hp_restart at h
  refine lv_iconst (v := 0) G.1 G.2.1 d_Hp_restart_0 (by decide) ?_
  refine lv_istore_n (lv' := [(1, .int 0), (0, .ref (ad a0))]) G.1 G.2.1 d_Hp_restart_1 rfl hl (by decide) rfl (fun ls hl => ?_)
  unfold wl_Hp_restart_2 at h
  obtain ⟨I_2, μ_2, hI_2, hB_2⟩ := h
  have L_2 : ∀ (n_2 : Nat) (s_h2 : St) (x1h2 : Int32), μ_2 s_h2 x1h2 < n_2 → I_2 s_h2 x1h2 → ∀ (H : Heap) (locs : List Loc), va_P D CL (ws g ad y s_h2) H → va_D A (ws g ad y s_h2) → va_S A s.heap H locs → ∀ ls, lv_has ls 2 [(0, .ref (ad a0)), (1, .int x1h2)] → W p l e ru_Hp_restart s m args below meth c H locs 0 0 Q (F0 m 2 ls []) := by
    intro n_2
    induction n_2 with
    | zero => intro s_h2 x1h2 hμ; exact absurd hμ (Nat.not_lt_zero _)
    | succ n_2 ih_2 =>
      intro s_h2 x1h2 hμ_2 hJ H locs hP hD hS ls hl
      obtain ⟨K_2, hK_2, h⟩ : ∃ K : St → Int32 → Prop, (∀ z (t0 : Int32), K z t0 → I_2 z t0 ∧ μ_2 z t0 < μ_2 s_h2 x1h2) ∧ wb_Hp_restart_2 y Post K a0 s_h2 x1h2 := ⟨_, fun _ _ h => h, hB_2 s_h2 x1h2 hJ⟩
      unfold wb_Hp_restart_2 at h
      refine lv_iload_n G.1 G.2.1 d_Hp_restart_2 rfl (lv_at hl 1 rfl) ?_
      refine lv_aload_n G.1 G.2.1 d_Hp_restart_3 rfl (lv_at hl 0 rfl) ?_
      refine ugf (v := .int (sV s_h2 a0 9)) G hP h_a0 iHp rfl 9 (by decide) rfl q930 rfl rfl d_Hp_restart_4 ?_
      refine lv_icmp_gt (tgt := 24) G.1 G.2.1 d_Hp_restart_7 (by decide) (fun c7 => ?_) (fun c7 => ?_)
      · skip
        have h := h.1 c7
        refine lv_aload_n G.1 G.2.1 d_Hp_restart_24 rfl (lv_at hl 0 rfl) ?_
        refine lv_iconst (v := 0) G.1 G.2.1 d_Hp_restart_25 (by decide) ?_
        refine upf G hP hD hS h 4 putV h_a0 iHp tHp tHp_ok nHp rfl (by decide) rfl q923 rfl rfl fV rfl rfl d_Hp_restart_26 (fun s_1 H locs h hP hD hS => ?_)
        refine lv_aload_n G.1 G.2.1 d_Hp_restart_29 rfl (lv_at hl 0 rfl) ?_
        refine lv_iconst (v := 0) G.1 G.2.1 d_Hp_restart_30 (by decide) ?_
        refine upf G hP hD hS h 5 putV h_a0 iHp tHp tHp_ok nHp rfl (by decide) rfl q925 rfl rfl fV rfl rfl d_Hp_restart_31 (fun s_2 H locs h hP hD hS => ?_)
        refine lv_aload_n G.1 G.2.1 d_Hp_restart_34 rfl (lv_at hl 0 rfl) ?_
        refine W.eq (g2 := F0 m 35 ls [.ref (ad a0)]) rfl ?_
        refine lv_iconst (v := 1) G.1 G.2.1 d_Hp_restart_35 (by decide) ?_
        refine upf G hP hD hS h 8 putV h_a0 iHp tHp tHp_ok nHp rfl (by decide) rfl q929 rfl rfl fV rfl rfl d_Hp_restart_36 (fun s_3 H locs h hP hD hS => ?_)
        refine lv_aload_n G.1 G.2.1 d_Hp_restart_39 rfl (lv_at hl 0 rfl) ?_
        refine lv_iconst (v := 0) G.1 G.2.1 d_Hp_restart_40 (by decide) ?_
        refine upf G hP hD hS h 9 putV h_a0 iHp tHp tHp_ok nHp rfl (by decide) rfl q930 rfl rfl fV rfl rfl d_Hp_restart_41 (fun s_4 H locs h hP hD hS => ?_)
        refine lv_aload_n G.1 G.2.1 d_Hp_restart_44 rfl (lv_at hl 0 rfl) ?_
        refine ugf (v := .ref (ad (lk a0 10))) G hP h_a0 iHp rfl 10 (by decide) rfl q931 rfl rfl d_Hp_restart_45 ?_
        refine lv_iconst (v := 0) G.1 G.2.1 d_Hp_restart_48 (by decide) ?_
        refine upf G hP hD hS h 1 putV (lk_2_10 h_a0) iIn tIn tIn_ok nIn rfl (by decide) rfl q392 rfl rfl fV rfl rfl d_Hp_restart_49 (fun s_5 H locs h hP hD hS => ?_)
        refine lv_aload_n G.1 G.2.1 d_Hp_restart_52 rfl (lv_at hl 0 rfl) ?_
        refine ugf (v := .ref (ad (lk a0 11))) G hP h_a0 iHp rfl 11 (by decide) rfl q932 rfl rfl d_Hp_restart_53 ?_
        refine lv_iconst (v := 0) G.1 G.2.1 d_Hp_restart_56 (by decide) ?_
        refine W.eq (g2 := F0 m 57 ls [.int 0, .ref (ad (lk a0 11))]) rfl ?_
        refine upf G hP hD hS h 1 putV (lk_2_11 h_a0) iIn tIn tIn_ok nIn rfl (by decide) rfl q392 rfl rfl fV rfl rfl d_Hp_restart_57 (fun s_6 H locs h hP hD hS => ?_)
        exact hret _ _ _ _ _ _ ls h hP hD hS (Nat.le_refl _) (Nat.le_refl _) d_Hp_restart_60
      · skip
        have h := h.2 c7
        refine lv_aload_n G.1 G.2.1 d_Hp_restart_10 rfl (lv_at hl 0 rfl) ?_
        refine ugf (v := .ref (yP y a0 0)) G hP h_a0 iHp rfl 0 (by decide) rfl q913 rfl rfl d_Hp_restart_11 ?_
        refine lv_iload_n G.1 G.2.1 d_Hp_restart_14 rfl (lv_at hl 1 rfl) ?_
        refine lv_bipush (v := (-2)) G.1 G.2.1 d_Hp_restart_15 (by decide) ?_
        refine uiast G hP hD hS (kdp h_a0 rfl) (typ h_a0 rfl) h d_Hp_restart_17 (fun s_7 H locs h hP hD hS => ?_)
        refine lv_iinc (v := x1h2 + 1) (lv' := [(1, .int (x1h2 + 1)), (0, .ref (ad a0))]) G.1 G.2.1 d_Hp_restart_18 hl (k := 1) rfl rfl (by decide) rfl (fun ls hl => ?_)
        refine lv_goto (tgt := 2) G.1 G.2.1 d_Hp_restart_21 (by decide) ?_
        have h := hK_2 s_7 (x1h2 + 1) h
        exact ih_2 s_7 (x1h2 + 1) (Nat.lt_of_lt_of_le h.2 (Nat.le_of_lt_succ hμ_2)) h.1 H locs hP hD hS ls (lv_sub hl [1, 0] rfl)
  exact L_2 _ σ 0 (Nat.lt_succ_self _) hI_2 H locs hP hD hS ls (lv_sub hl [1, 0] rfl)
def y_Ru_clear : MethodName := ⟨"ClassWorks$Runner", "clear", "()V"⟩
abbrev b_Ru_clear : ByteArray := prog_9_method_2_code
theorem q985 : Cond.fieldLink "ClassWorks$Runner" 22 "ClassWorks$Runner" "mode" "I" ∈ lw_ok := lw_okmem (List.mem_of_getElem? (i := 985) (by decide +kernel)) rfl
theorem q988 : Cond.fieldLink "ClassWorks$Runner" 25 "ClassWorks$Runner" "steps" "I" ∈ lw_ok := lw_okmem (List.mem_of_getElem? (i := 988) (by decide +kernel)) rfl
theorem q991 : Cond.fieldLink "ClassWorks$Runner" 28 "ClassWorks$Runner" "waits" "Z" ∈ lw_ok := lw_okmem (List.mem_of_getElem? (i := 991) (by decide +kernel)) rfl
theorem q993 : Cond.fieldLink "ClassWorks$Runner" 32 "ClassWorks$Runner" "endKind" "I" ∈ lw_ok := lw_okmem (List.mem_of_getElem? (i := 993) (by decide +kernel)) rfl
theorem q996 : Cond.fieldLink "ClassWorks$Runner" 35 "ClassWorks$Runner" "endNumber" "I" ∈ lw_ok := lw_okmem (List.mem_of_getElem? (i := 996) (by decide +kernel)) rfl
theorem q999 : Cond.fieldLink "ClassWorks$Runner" 38 "ClassWorks$Runner" "endClass" "I" ∈ lw_ok := lw_okmem (List.mem_of_getElem? (i := 999) (by decide +kernel)) rfl
theorem q1002 : Cond.fieldLink "ClassWorks$Runner" 41 "ClassWorks$Runner" "endRule" "I" ∈ lw_ok := lw_okmem (List.mem_of_getElem? (i := 1002) (by decide +kernel)) rfl
theorem q1005 : Cond.fieldLink "ClassWorks$Runner" 44 "ClassWorks$Runner" "frames" "I" ∈ lw_ok := lw_okmem (List.mem_of_getElem? (i := 1005) (by decide +kernel)) rfl
theorem q1021 : Cond.fieldLink "ClassWorks$Runner" 63 "ClassWorks$Runner" "starts" "I" ∈ lw_ok := lw_okmem (List.mem_of_getElem? (i := 1021) (by decide +kernel)) rfl
theorem d_Ru_clear_0 : decode b_Ru_clear 0 = .ok (.aload_n 0, 1) := by decide +kernel
theorem d_Ru_clear_1 : decode b_Ru_clear 1 = .ok (.iconst 0, 1) := by decide +kernel
theorem d_Ru_clear_2 : decode b_Ru_clear 2 = .ok (.putfield 22, 3) := by decide +kernel
theorem d_Ru_clear_5 : decode b_Ru_clear 5 = .ok (.aload_n 0, 1) := by decide +kernel
theorem d_Ru_clear_6 : decode b_Ru_clear 6 = .ok (.iconst 0, 1) := by decide +kernel
theorem d_Ru_clear_7 : decode b_Ru_clear 7 = .ok (.putfield 25, 3) := by decide +kernel
theorem d_Ru_clear_10 : decode b_Ru_clear 10 = .ok (.aload_n 0, 1) := by decide +kernel
theorem d_Ru_clear_11 : decode b_Ru_clear 11 = .ok (.iconst 0, 1) := by decide +kernel
theorem d_Ru_clear_12 : decode b_Ru_clear 12 = .ok (.putfield 28, 3) := by decide +kernel
theorem d_Ru_clear_15 : decode b_Ru_clear 15 = .ok (.aload_n 0, 1) := by decide +kernel
theorem d_Ru_clear_16 : decode b_Ru_clear 16 = .ok (.iconst 0, 1) := by decide +kernel
theorem d_Ru_clear_17 : decode b_Ru_clear 17 = .ok (.putfield 32, 3) := by decide +kernel
theorem d_Ru_clear_20 : decode b_Ru_clear 20 = .ok (.aload_n 0, 1) := by decide +kernel
theorem d_Ru_clear_21 : decode b_Ru_clear 21 = .ok (.iconst 0, 1) := by decide +kernel
theorem d_Ru_clear_22 : decode b_Ru_clear 22 = .ok (.putfield 35, 3) := by decide +kernel
theorem d_Ru_clear_25 : decode b_Ru_clear 25 = .ok (.aload_n 0, 1) := by decide +kernel
theorem d_Ru_clear_26 : decode b_Ru_clear 26 = .ok (.bipush (-2), 2) := by decide +kernel
theorem d_Ru_clear_28 : decode b_Ru_clear 28 = .ok (.putfield 38, 3) := by decide +kernel
theorem d_Ru_clear_31 : decode b_Ru_clear 31 = .ok (.aload_n 0, 1) := by decide +kernel
theorem d_Ru_clear_32 : decode b_Ru_clear 32 = .ok (.iconst 0, 1) := by decide +kernel
theorem d_Ru_clear_33 : decode b_Ru_clear 33 = .ok (.putfield 41, 3) := by decide +kernel
theorem d_Ru_clear_36 : decode b_Ru_clear 36 = .ok (.aload_n 0, 1) := by decide +kernel
theorem d_Ru_clear_37 : decode b_Ru_clear 37 = .ok (.iconst 0, 1) := by decide +kernel
theorem d_Ru_clear_38 : decode b_Ru_clear 38 = .ok (.putfield 44, 3) := by decide +kernel
theorem d_Ru_clear_41 : decode b_Ru_clear 41 = .ok (.aload_n 0, 1) := by decide +kernel
theorem d_Ru_clear_42 : decode b_Ru_clear 42 = .ok (.iconst 0, 1) := by decide +kernel
theorem d_Ru_clear_43 : decode b_Ru_clear 43 = .ok (.putfield 63, 3) := by decide +kernel
theorem d_Ru_clear_46 : decode b_Ru_clear 46 = .ok (.return_, 1) := by decide +kernel
abbrev ru_Ru_clear : Room := { frames := 0, cells := 0, slots := 0, locals := 0 }
def wu_Ru_clear (y : Ly) (Post : St → Prop) (σ : St) (a0 : Nat) : Prop := xP (uV σ a0 3 0) (fun s_1 : St => xP (uV s_1 a0 4 0) (fun s_2 : St => nb 0 ∧ xP (uV s_2 a0 5 0) (fun s_4 : St => xP (uV s_4 a0 6 0) (fun s_5 : St => xP (uV s_5 a0 7 0) (fun s_6 : St => xP (uV s_6 a0 8 (-2)) (fun s_7 : St => xP (uV s_7 a0 9 0) (fun s_8 : St => xP (uV s_8 a0 10 0) (fun s_9 : St => xP (uV s_9 a0 16 0) (fun s_10 : St => Post s_10)))))))))
set_option maxHeartbeats 4000000 in
set_option maxRecDepth 100000 in
theorem cu_Ru_clear (l : Launch) (D : va_G) (g : Nat → ClassId) (ad : Nat → Nat) (y : Ly) (Post : St → Prop) (σ : St) (a0 : Nat) (sz : Nat) (h_a0 : cl a0 = 7) (h : wu_Ru_clear y Post σ a0) : Met l y_Ru_clear (mw y_Ru_clear b_Ru_clear 1 (none)) ru_Ru_clear (PC g D [] [.ref (ad a0)] sz (ws g ad y σ)) (va_Qv (fun u : St => Post u) (QW D (va_A (ws g ad y σ) sz) (fun u => ws g ad y u)) (va_A (ws g ad y σ) sz)) 0 0 (va_A (ws g ad y σ) sz) := by
  refine ofV (by decide +kernel) (Nat.le_of_ble_eq_true rfl) ?_
  intro p e s m args below meth c A Q ls H locs G hsz hP hD hS hl hret
  subst hsz
  have hl : lv_has ls 1 [(0, .ref (ad a0))] := hl
  unfold wu_Ru_clear at h
  refine lv_aload_n G.1 G.2.1 d_Ru_clear_0 rfl (lv_at hl 0 rfl) ?_
  refine lv_iconst (v := 0) G.1 G.2.1 d_Ru_clear_1 (by decide) ?_
  refine upf G hP hD hS h 3 putV h_a0 iRu tRu tRu_ok nRu rfl (by decide) rfl q985 rfl rfl fV rfl rfl d_Ru_clear_2 (fun s_1 H locs h hP hD hS => ?_)
  refine lv_aload_n G.1 G.2.1 d_Ru_clear_5 rfl (lv_at hl 0 rfl) ?_
  refine lv_iconst (v := 0) G.1 G.2.1 d_Ru_clear_6 (by decide) ?_
  refine upf G hP hD hS h 4 putV h_a0 iRu tRu tRu_ok nRu rfl (by decide) rfl q988 rfl rfl fV rfl rfl d_Ru_clear_7 (fun s_2 H locs h hP hD hS => ?_)
  refine lv_aload_n G.1 G.2.1 d_Ru_clear_10 rfl (lv_at hl 0 rfl) ?_
  refine lv_iconst (v := 0) G.1 G.2.1 d_Ru_clear_11 (by decide) ?_
  obtain ⟨n_3, h⟩ := h
  refine upf G hP hD hS h 5 putV h_a0 iRu tRu tRu_ok nRu rfl (by decide) rfl q991 rfl rfl fV (nb_n n_3) (nb_f n_3) d_Ru_clear_12 (fun s_4 H locs h hP hD hS => ?_)
  refine lv_aload_n G.1 G.2.1 d_Ru_clear_15 rfl (lv_at hl 0 rfl) ?_
  refine lv_iconst (v := 0) G.1 G.2.1 d_Ru_clear_16 (by decide) ?_
  refine W.eq (g2 := F0 m 17 ls [.int 0, .ref (ad a0)]) rfl ?_
  refine upf G hP hD hS h 6 putV h_a0 iRu tRu tRu_ok nRu rfl (by decide) rfl q993 rfl rfl fV rfl rfl d_Ru_clear_17 (fun s_5 H locs h hP hD hS => ?_)
  refine lv_aload_n G.1 G.2.1 d_Ru_clear_20 rfl (lv_at hl 0 rfl) ?_
  refine lv_iconst (v := 0) G.1 G.2.1 d_Ru_clear_21 (by decide) ?_
  refine upf G hP hD hS h 7 putV h_a0 iRu tRu tRu_ok nRu rfl (by decide) rfl q996 rfl rfl fV rfl rfl d_Ru_clear_22 (fun s_6 H locs h hP hD hS => ?_)
  refine lv_aload_n G.1 G.2.1 d_Ru_clear_25 rfl (lv_at hl 0 rfl) ?_
  refine lv_bipush (v := (-2)) G.1 G.2.1 d_Ru_clear_26 (by decide) ?_
  refine upf G hP hD hS h 8 putV h_a0 iRu tRu tRu_ok nRu rfl (by decide) rfl q999 rfl rfl fV rfl rfl d_Ru_clear_28 (fun s_7 H locs h hP hD hS => ?_)
  refine lv_aload_n G.1 G.2.1 d_Ru_clear_31 rfl (lv_at hl 0 rfl) ?_
  refine lv_iconst (v := 0) G.1 G.2.1 d_Ru_clear_32 (by decide) ?_
  refine upf G hP hD hS h 9 putV h_a0 iRu tRu tRu_ok nRu rfl (by decide) rfl q1002 rfl rfl fV rfl rfl d_Ru_clear_33 (fun s_8 H locs h hP hD hS => ?_)
  refine lv_aload_n G.1 G.2.1 d_Ru_clear_36 rfl (lv_at hl 0 rfl) ?_
  refine lv_iconst (v := 0) G.1 G.2.1 d_Ru_clear_37 (by decide) ?_
  refine W.eq (g2 := F0 m 38 ls [.int 0, .ref (ad a0)]) rfl ?_
  refine upf G hP hD hS h 10 putV h_a0 iRu tRu tRu_ok nRu rfl (by decide) rfl q1005 rfl rfl fV rfl rfl d_Ru_clear_38 (fun s_9 H locs h hP hD hS => ?_)
  refine lv_aload_n G.1 G.2.1 d_Ru_clear_41 rfl (lv_at hl 0 rfl) ?_
  refine lv_iconst (v := 0) G.1 G.2.1 d_Ru_clear_42 (by decide) ?_
  refine upf G hP hD hS h 16 putV h_a0 iRu tRu tRu_ok nRu rfl (by decide) rfl q1021 rfl rfl fV rfl rfl d_Ru_clear_43 (fun s_10 H locs h hP hD hS => ?_)
  exact hret _ _ _ _ _ _ ls h hP hD hS (Nat.le_refl _) (Nat.le_refl _) d_Ru_clear_46
def y_Ma_newTurn : MethodName := ⟨"ClassWorks$Machine", "newTurn", "(I)V"⟩
abbrev b_Ma_newTurn : ByteArray := prog_6_method_4_code
theorem q1081 : Cond.fieldLink "ClassWorks$Machine" 41 "ClassWorks$Machine" "present" "I" ∈ lw_ok := lw_okmem (List.mem_of_getElem? (i := 1081) (by decide +kernel)) rfl
theorem q1087 : Cond.fieldLink "ClassWorks$Machine" 50 "ClassWorks$Machine" "turnSteps" "I" ∈ lw_ok := lw_okmem (List.mem_of_getElem? (i := 1087) (by decide +kernel)) rfl
theorem q1083 : Cond.fieldLink "ClassWorks$Machine" 44 "ClassWorks$Machine" "quantum" "I" ∈ lw_ok := lw_okmem (List.mem_of_getElem? (i := 1083) (by decide +kernel)) rfl
theorem q1088 : Cond.fieldLink "ClassWorks$Machine" 53 "ClassWorks$Machine" "turnMost" "I" ∈ lw_ok := lw_okmem (List.mem_of_getElem? (i := 1088) (by decide +kernel)) rfl
theorem q1089 : Cond.fieldLink "ClassWorks$Machine" 56 "ClassWorks$Machine" "turnOver" "Z" ∈ lw_ok := lw_okmem (List.mem_of_getElem? (i := 1089) (by decide +kernel)) rfl
theorem d_Ma_newTurn_0 : decode b_Ma_newTurn 0 = .ok (.aload_n 0, 1) := by decide +kernel
theorem d_Ma_newTurn_1 : decode b_Ma_newTurn 1 = .ok (.iload_n 1, 1) := by decide +kernel
theorem d_Ma_newTurn_2 : decode b_Ma_newTurn 2 = .ok (.putfield 41, 3) := by decide +kernel
theorem d_Ma_newTurn_5 : decode b_Ma_newTurn 5 = .ok (.aload_n 0, 1) := by decide +kernel
theorem d_Ma_newTurn_6 : decode b_Ma_newTurn 6 = .ok (.iconst 0, 1) := by decide +kernel
theorem d_Ma_newTurn_7 : decode b_Ma_newTurn 7 = .ok (.putfield 50, 3) := by decide +kernel
theorem d_Ma_newTurn_10 : decode b_Ma_newTurn 10 = .ok (.aload_n 0, 1) := by decide +kernel
theorem d_Ma_newTurn_11 : decode b_Ma_newTurn 11 = .ok (.aload_n 0, 1) := by decide +kernel
theorem d_Ma_newTurn_12 : decode b_Ma_newTurn 12 = .ok (.getfield 44, 3) := by decide +kernel
theorem d_Ma_newTurn_15 : decode b_Ma_newTurn 15 = .ok (.putfield 53, 3) := by decide +kernel
theorem d_Ma_newTurn_18 : decode b_Ma_newTurn 18 = .ok (.aload_n 0, 1) := by decide +kernel
theorem d_Ma_newTurn_19 : decode b_Ma_newTurn 19 = .ok (.iconst 0, 1) := by decide +kernel
theorem d_Ma_newTurn_20 : decode b_Ma_newTurn 20 = .ok (.putfield 56, 3) := by decide +kernel
theorem d_Ma_newTurn_23 : decode b_Ma_newTurn 23 = .ok (.return_, 1) := by decide +kernel
abbrev ru_Ma_newTurn : Room := { frames := 0, cells := 0, slots := 0, locals := 0 }
def wu_Ma_newTurn (y : Ly) (Post : St → Prop) (σ : St) (a0 : Nat) (v1 : Int32) : Prop := xP (uV σ a0 8 v1) (fun s_1 : St => xP (uV s_1 a0 11 0) (fun s_2 : St => xP (uV s_2 a0 12 (sV s_2 a0 9)) (fun s_3 : St => nb 0 ∧ xP (uV s_3 a0 13 0) (fun s_5 : St => Post s_5))))
set_option maxHeartbeats 4000000 in
set_option maxRecDepth 100000 in
theorem cu_Ma_newTurn (l : Launch) (D : va_G) (g : Nat → ClassId) (ad : Nat → Nat) (y : Ly) (Post : St → Prop) (σ : St) (a0 : Nat) (v1 : Int32) (sz : Nat) (h_a0 : cl a0 = 4) (h : wu_Ma_newTurn y Post σ a0 v1) : Met l y_Ma_newTurn (mw y_Ma_newTurn b_Ma_newTurn 2 (none)) ru_Ma_newTurn (PC g D [] [.ref (ad a0), .int v1] sz (ws g ad y σ)) (va_Qv (fun u : St => Post u) (QW D (va_A (ws g ad y σ) sz) (fun u => ws g ad y u)) (va_A (ws g ad y σ) sz)) 0 0 (va_A (ws g ad y σ) sz) := by
  refine ofV (by decide +kernel) (Nat.le_of_ble_eq_true rfl) ?_
  intro p e s m args below meth c A Q ls H locs G hsz hP hD hS hl hret
  subst hsz
  have hl : lv_has ls 2 [(0, .ref (ad a0)), (1, .int v1)] := hl
  unfold wu_Ma_newTurn at h
  refine lv_aload_n G.1 G.2.1 d_Ma_newTurn_0 rfl (lv_at hl 0 rfl) ?_
  refine lv_iload_n G.1 G.2.1 d_Ma_newTurn_1 rfl (lv_at hl 1 rfl) ?_
  refine upf G hP hD hS h 8 putV h_a0 iMa tMa tMa_ok nMa rfl (by decide) rfl q1081 rfl rfl fV rfl rfl d_Ma_newTurn_2 (fun s_1 H locs h hP hD hS => ?_)
  refine lv_aload_n G.1 G.2.1 d_Ma_newTurn_5 rfl (lv_at hl 0 rfl) ?_
  refine lv_iconst (v := 0) G.1 G.2.1 d_Ma_newTurn_6 (by decide) ?_
  refine upf G hP hD hS h 11 putV h_a0 iMa tMa tMa_ok nMa rfl (by decide) rfl q1087 rfl rfl fV rfl rfl d_Ma_newTurn_7 (fun s_2 H locs h hP hD hS => ?_)
  refine lv_aload_n G.1 G.2.1 d_Ma_newTurn_10 rfl (lv_at hl 0 rfl) ?_
  refine lv_aload_n G.1 G.2.1 d_Ma_newTurn_11 rfl (lv_at hl 0 rfl) ?_
  refine ugf (v := .int (sV s_2 a0 9)) G hP h_a0 iMa rfl 9 (by decide) rfl q1083 rfl rfl d_Ma_newTurn_12 ?_
  refine upf G hP hD hS h 12 putV h_a0 iMa tMa tMa_ok nMa rfl (by decide) rfl q1088 rfl rfl fV rfl rfl d_Ma_newTurn_15 (fun s_3 H locs h hP hD hS => ?_)
  refine lv_aload_n G.1 G.2.1 d_Ma_newTurn_18 rfl (lv_at hl 0 rfl) ?_
  refine W.eq (g2 := F0 m 19 ls [.ref (ad a0)]) rfl ?_
  refine lv_iconst (v := 0) G.1 G.2.1 d_Ma_newTurn_19 (by decide) ?_
  obtain ⟨n_4, h⟩ := h
  refine upf G hP hD hS h 13 putV h_a0 iMa tMa tMa_ok nMa rfl (by decide) rfl q1089 rfl rfl fV (nb_n n_4) (nb_f n_4) d_Ma_newTurn_20 (fun s_5 H locs h hP hD hS => ?_)
  exact hret _ _ _ _ _ _ ls h hP hD hS (Nat.le_refl _) (Nat.le_refl _) d_Ma_newTurn_23
theorem q1236 : Cond.methodLink "ClassWorks$Machine" 102 y_Ma_newTurn ∈ lw_ok := lw_okmem (List.mem_of_getElem? (i := 1236) (by decide +kernel)) rfl
theorem q1239 : Cond.code y_Ma_newTurn b_Ma_newTurn 2 (none) ∈ lw_ok := lw_okmem (List.mem_of_getElem? (i := 1239) (by decide +kernel)) rfl
theorem q344 : Cond.initialized "ClassWorks$Machine" ∈ lw_ok := lw_okmem (List.mem_of_getElem? (i := 344) (by decide +kernel)) rfl
theorem q1238 : Cond.instanceMethod y_Ma_newTurn ∈ lw_ok := lw_okmem (List.mem_of_getElem? (i := 1238) (by decide +kernel)) rfl
theorem q6 : Cond.selects y_Ma_newTurn.cls y_Ma_newTurn y_Ma_newTurn ∈ lw_ok := lw_okmem (List.mem_of_getElem? (i := 6) (by decide +kernel)) rfl
theorem w9_Ma_newTurn : CWv y_Ma_newTurn b_Ma_newTurn 2 (none) 1 ∧ Cond.instanceMethod y_Ma_newTurn ∈ lw_ok ∧ Cond.selects y_Ma_newTurn.cls y_Ma_newTurn y_Ma_newTurn ∈ lw_ok := ⟨⟨q1239, q344, by decide +kernel, by decide +kernel, by decide +kernel⟩, q1238, q6⟩
def y_Ma_firstTurn : MethodName := ⟨"ClassWorks$Machine", "firstTurn", "()V"⟩
abbrev b_Ma_firstTurn : ByteArray := prog_6_method_3_code
theorem d_Ma_firstTurn_0 : decode b_Ma_firstTurn 0 = .ok (.aload_n 0, 1) := by decide +kernel
theorem d_Ma_firstTurn_1 : decode b_Ma_firstTurn 1 = .ok (.iconst 0, 1) := by decide +kernel
theorem d_Ma_firstTurn_2 : decode b_Ma_firstTurn 2 = .ok (.putfield 41, 3) := by decide +kernel
theorem d_Ma_firstTurn_5 : decode b_Ma_firstTurn 5 = .ok (.aload_n 0, 1) := by decide +kernel
theorem d_Ma_firstTurn_6 : decode b_Ma_firstTurn 6 = .ok (.iconst 0, 1) := by decide +kernel
theorem d_Ma_firstTurn_7 : decode b_Ma_firstTurn 7 = .ok (.invokevirtual 102, 3) := by decide +kernel
theorem d_Ma_firstTurn_10 : decode b_Ma_firstTurn 10 = .ok (.return_, 1) := by decide +kernel
abbrev ru_Ma_firstTurn : Room := { frames := 1, cells := 0, slots := 0, locals := 21 }
def wu_Ma_firstTurn (y : Ly) (Post : St → Prop) (σ : St) (a0 : Nat) : Prop := xP (uV σ a0 8 0) (fun s_1 : St => wu_Ma_newTurn y (fun (s_3 : St) => Post s_3) s_1 a0 0)
set_option maxHeartbeats 4000000 in
set_option maxRecDepth 100000 in
theorem cu_Ma_firstTurn (l : Launch) (D : va_G) (g : Nat → ClassId) (ad : Nat → Nat) (y : Ly) (Post : St → Prop) (σ : St) (a0 : Nat) (sz : Nat) (h_a0 : cl a0 = 4) (h : wu_Ma_firstTurn y Post σ a0) : Met l y_Ma_firstTurn (mw y_Ma_firstTurn b_Ma_firstTurn 1 (none)) ru_Ma_firstTurn (PC g D [] [.ref (ad a0)] sz (ws g ad y σ)) (va_Qv (fun u : St => Post u) (QW D (va_A (ws g ad y σ) sz) (fun u => ws g ad y u)) (va_A (ws g ad y σ) sz)) 0 0 (va_A (ws g ad y σ) sz) := by
  refine ofV (by decide +kernel) (Nat.le_of_ble_eq_true rfl) ?_
  intro p e s m args below meth c A Q ls H locs G hsz hP hD hS hl hret
  subst hsz
  have hl : lv_has ls 1 [(0, .ref (ad a0))] := hl
  unfold wu_Ma_firstTurn at h
  refine lv_aload_n G.1 G.2.1 d_Ma_firstTurn_0 rfl (lv_at hl 0 rfl) ?_
  refine lv_iconst (v := 0) G.1 G.2.1 d_Ma_firstTurn_1 (by decide) ?_
  refine upf G hP hD hS h 8 putV h_a0 iMa tMa tMa_ok nMa rfl (by decide) rfl q1081 rfl rfl fV rfl rfl d_Ma_firstTurn_2 (fun s_1 H locs h hP hD hS => ?_)
  refine lv_aload_n G.1 G.2.1 d_Ma_firstTurn_5 rfl (lv_at hl 0 rfl) ?_
  refine lv_iconst (v := 0) G.1 G.2.1 d_Ma_firstTurn_6 (by decide) ?_
  refine ucVv (As := [.int 0]) (rest := []) G hP hD hS (cu_Ma_newTurn l D g ad y _ s_1 a0 0 H.size h_a0 h) w9_Ma_newTurn q1236 ⟨Nat.le_of_ble_eq_true rfl, Nat.le_of_ble_eq_true rfl⟩ rfl rfl h_a0 (q := (RMa, TMa, 19)) rfl rfl hl.1 rfl (Nat.le_of_ble_eq_true rfl) rfl ⟨Nat.le_refl _, Nat.le_refl _⟩ d_Ma_firstTurn_7 (fun s_3 H locs h hP hD hS => ?_)
  exact hret _ _ _ _ _ _ ls h hP hD hS (Nat.le_refl _) (Nat.le_refl _) d_Ma_firstTurn_10
theorem q1065 : Cond.fieldLink "ClassWorks$Machine" 69 "ClassWorks$Machine" "world" "LClassWorks$World;" ∈ lw_ok := lw_okmem (List.mem_of_getElem? (i := 1065) (by decide +kernel)) rfl
theorem q1215 : Cond.methodLink "ClassWorks$Machine" 82 y_Wd_restart ∈ lw_ok := lw_okmem (List.mem_of_getElem? (i := 1215) (by decide +kernel)) rfl
theorem q1218 : Cond.code y_Wd_restart b_Wd_restart 2 (none) ∈ lw_ok := lw_okmem (List.mem_of_getElem? (i := 1218) (by decide +kernel)) rfl
theorem q1216 : Cond.instanceMethod y_Wd_restart ∈ lw_ok := lw_okmem (List.mem_of_getElem? (i := 1216) (by decide +kernel)) rfl
theorem q1217 : Cond.selects y_Wd_restart.cls y_Wd_restart y_Wd_restart ∈ lw_ok := lw_okmem (List.mem_of_getElem? (i := 1217) (by decide +kernel)) rfl
theorem w9_Wd_restart : CWv y_Wd_restart b_Wd_restart 2 (none) 1 ∧ Cond.instanceMethod y_Wd_restart ∈ lw_ok ∧ Cond.selects y_Wd_restart.cls y_Wd_restart y_Wd_restart ∈ lw_ok := ⟨⟨q1218, q345, by decide +kernel, by decide +kernel, by decide +kernel⟩, q1216, q1217⟩
theorem q1067 : Cond.fieldLink "ClassWorks$Machine" 12 "ClassWorks$Machine" "heap" "LClassWorks$Heap;" ∈ lw_ok := lw_okmem (List.mem_of_getElem? (i := 1067) (by decide +kernel)) rfl
theorem q1223 : Cond.methodLink "ClassWorks$Machine" 88 y_Hp_restart ∈ lw_ok := lw_okmem (List.mem_of_getElem? (i := 1223) (by decide +kernel)) rfl
theorem q1226 : Cond.code y_Hp_restart b_Hp_restart 2 (none) ∈ lw_ok := lw_okmem (List.mem_of_getElem? (i := 1226) (by decide +kernel)) rfl
theorem q346 : Cond.initialized "ClassWorks$Heap" ∈ lw_ok := lw_okmem (List.mem_of_getElem? (i := 346) (by decide +kernel)) rfl
theorem q1224 : Cond.instanceMethod y_Hp_restart ∈ lw_ok := lw_okmem (List.mem_of_getElem? (i := 1224) (by decide +kernel)) rfl
theorem q1225 : Cond.selects y_Hp_restart.cls y_Hp_restart y_Hp_restart ∈ lw_ok := lw_okmem (List.mem_of_getElem? (i := 1225) (by decide +kernel)) rfl
theorem w9_Hp_restart : CWv y_Hp_restart b_Hp_restart 2 (none) 0 ∧ Cond.instanceMethod y_Hp_restart ∈ lw_ok ∧ Cond.selects y_Hp_restart.cls y_Hp_restart y_Hp_restart ∈ lw_ok := ⟨⟨q1226, q346, by decide +kernel, by decide +kernel, by decide +kernel⟩, q1224, q1225⟩
theorem q1071 : Cond.fieldLink "ClassWorks$Machine" 24 "ClassWorks$Machine" "counts" "[I" ∈ lw_ok := lw_okmem (List.mem_of_getElem? (i := 1071) (by decide +kernel)) rfl
theorem q1227 : Cond.methodLink "ClassWorks$Machine" 90 y_Ja_fill_aIIV ∈ lw_ok := lw_okmem (List.mem_of_getElem? (i := 1227) (by decide +kernel)) rfl
theorem q407 : Cond.code y_Ja_fill_aIIV b_Ja_fill_aIIV 4 (none) ∈ lw_ok := lw_okmem (List.mem_of_getElem? (i := 407) (by decide +kernel)) rfl
theorem q406 : Cond.static y_Ja_fill_aIIV ∈ lw_ok := lw_okmem (List.mem_of_getElem? (i := 406) (by decide +kernel)) rfl
theorem w9_Ja_fill_aIIV : CWv y_Ja_fill_aIIV b_Ja_fill_aIIV 4 (none) 2 ∧ Cond.static y_Ja_fill_aIIV ∈ lw_ok := ⟨⟨q407, q332, by decide +kernel, by decide +kernel, by decide +kernel⟩, q406⟩
theorem q1075 : Cond.fieldLink "ClassWorks$Machine" 31 "ClassWorks$Machine" "traceCount" "I" ∈ lw_ok := lw_okmem (List.mem_of_getElem? (i := 1075) (by decide +kernel)) rfl
theorem q1079 : Cond.fieldLink "ClassWorks$Machine" 38 "ClassWorks$Machine" "startedCount" "I" ∈ lw_ok := lw_okmem (List.mem_of_getElem? (i := 1079) (by decide +kernel)) rfl
theorem q1232 : Cond.methodLink "ClassWorks$Machine" 99 y_Ma_firstTurn ∈ lw_ok := lw_okmem (List.mem_of_getElem? (i := 1232) (by decide +kernel)) rfl
theorem q1235 : Cond.code y_Ma_firstTurn b_Ma_firstTurn 1 (none) ∈ lw_ok := lw_okmem (List.mem_of_getElem? (i := 1235) (by decide +kernel)) rfl
theorem q1234 : Cond.instanceMethod y_Ma_firstTurn ∈ lw_ok := lw_okmem (List.mem_of_getElem? (i := 1234) (by decide +kernel)) rfl
theorem q5 : Cond.selects y_Ma_firstTurn.cls y_Ma_firstTurn y_Ma_firstTurn ∈ lw_ok := lw_okmem (List.mem_of_getElem? (i := 5) (by decide +kernel)) rfl
theorem w9_Ma_firstTurn : CWv y_Ma_firstTurn b_Ma_firstTurn 1 (none) 0 ∧ Cond.instanceMethod y_Ma_firstTurn ∈ lw_ok ∧ Cond.selects y_Ma_firstTurn.cls y_Ma_firstTurn y_Ma_firstTurn ∈ lw_ok := ⟨⟨q1235, q344, by decide +kernel, by decide +kernel, by decide +kernel⟩, q1234, q5⟩
theorem q1069 : Cond.fieldLink "ClassWorks$Machine" 20 "ClassWorks$Machine" "runs" "[LClassWorks$Runner;" ∈ lw_ok := lw_okmem (List.mem_of_getElem? (i := 1069) (by decide +kernel)) rfl
theorem q1228 : Cond.methodLink "ClassWorks$Machine" 96 y_Ru_clear ∈ lw_ok := lw_okmem (List.mem_of_getElem? (i := 1228) (by decide +kernel)) rfl
theorem q1231 : Cond.code y_Ru_clear b_Ru_clear 1 (none) ∈ lw_ok := lw_okmem (List.mem_of_getElem? (i := 1231) (by decide +kernel)) rfl
theorem q347 : Cond.initialized "ClassWorks$Runner" ∈ lw_ok := lw_okmem (List.mem_of_getElem? (i := 347) (by decide +kernel)) rfl
theorem q1229 : Cond.instanceMethod y_Ru_clear ∈ lw_ok := lw_okmem (List.mem_of_getElem? (i := 1229) (by decide +kernel)) rfl
theorem q1230 : Cond.selects y_Ru_clear.cls y_Ru_clear y_Ru_clear ∈ lw_ok := lw_okmem (List.mem_of_getElem? (i := 1230) (by decide +kernel)) rfl
theorem w9_Ru_clear : CWv y_Ru_clear b_Ru_clear 1 (none) 0 ∧ Cond.instanceMethod y_Ru_clear ∈ lw_ok ∧ Cond.selects y_Ru_clear.cls y_Ru_clear y_Ru_clear ∈ lw_ok := ⟨⟨q1231, q347, by decide +kernel, by decide +kernel, by decide +kernel⟩, q1229, q1230⟩
def y_Ma_restart : MethodName := ⟨"ClassWorks$Machine", "restart", "(I)V"⟩
abbrev b_Ma_restart : ByteArray := prog_6_method_2_code
theorem d_Ma_restart_0 : decode b_Ma_restart 0 = .ok (.aload_n 0, 1) := by decide +kernel
theorem d_Ma_restart_1 : decode b_Ma_restart 1 = .ok (.getfield 69, 3) := by decide +kernel
theorem d_Ma_restart_4 : decode b_Ma_restart 4 = .ok (.iload_n 1, 1) := by decide +kernel
theorem d_Ma_restart_5 : decode b_Ma_restart 5 = .ok (.invokevirtual 82, 3) := by decide +kernel
theorem d_Ma_restart_8 : decode b_Ma_restart 8 = .ok (.aload_n 0, 1) := by decide +kernel
theorem d_Ma_restart_9 : decode b_Ma_restart 9 = .ok (.getfield 12, 3) := by decide +kernel
theorem d_Ma_restart_12 : decode b_Ma_restart 12 = .ok (.invokevirtual 88, 3) := by decide +kernel
theorem d_Ma_restart_15 : decode b_Ma_restart 15 = .ok (.aload_n 0, 1) := by decide +kernel
theorem d_Ma_restart_16 : decode b_Ma_restart 16 = .ok (.getfield 24, 3) := by decide +kernel
theorem d_Ma_restart_19 : decode b_Ma_restart 19 = .ok (.iconst 0, 1) := by decide +kernel
theorem d_Ma_restart_20 : decode b_Ma_restart 20 = .ok (.invokestatic 90, 3) := by decide +kernel
theorem d_Ma_restart_23 : decode b_Ma_restart 23 = .ok (.aload_n 0, 1) := by decide +kernel
theorem d_Ma_restart_24 : decode b_Ma_restart 24 = .ok (.iconst 0, 1) := by decide +kernel
theorem d_Ma_restart_25 : decode b_Ma_restart 25 = .ok (.putfield 31, 3) := by decide +kernel
theorem d_Ma_restart_28 : decode b_Ma_restart 28 = .ok (.aload_n 0, 1) := by decide +kernel
theorem d_Ma_restart_29 : decode b_Ma_restart 29 = .ok (.iconst 0, 1) := by decide +kernel
theorem d_Ma_restart_30 : decode b_Ma_restart 30 = .ok (.putfield 38, 3) := by decide +kernel
theorem d_Ma_restart_33 : decode b_Ma_restart 33 = .ok (.aload_n 0, 1) := by decide +kernel
theorem d_Ma_restart_34 : decode b_Ma_restart 34 = .ok (.bipush 50, 2) := by decide +kernel
theorem d_Ma_restart_36 : decode b_Ma_restart 36 = .ok (.putfield 44, 3) := by decide +kernel
theorem d_Ma_restart_39 : decode b_Ma_restart 39 = .ok (.iconst 0, 1) := by decide +kernel
theorem d_Ma_restart_40 : decode b_Ma_restart 40 = .ok (.istore_n 2, 1) := by decide +kernel
theorem d_Ma_restart_41 : decode b_Ma_restart 41 = .ok (.iload_n 2, 1) := by decide +kernel
theorem d_Ma_restart_42 : decode b_Ma_restart 42 = .ok (.iconst 3, 1) := by decide +kernel
theorem d_Ma_restart_43 : decode b_Ma_restart 43 = .ok (.if_icmp .ge 18, 3) := by decide +kernel
theorem d_Ma_restart_46 : decode b_Ma_restart 46 = .ok (.aload_n 0, 1) := by decide +kernel
theorem d_Ma_restart_47 : decode b_Ma_restart 47 = .ok (.getfield 20, 3) := by decide +kernel
theorem d_Ma_restart_50 : decode b_Ma_restart 50 = .ok (.iload_n 2, 1) := by decide +kernel
theorem d_Ma_restart_51 : decode b_Ma_restart 51 = .ok (.aaload, 1) := by decide +kernel
theorem d_Ma_restart_52 : decode b_Ma_restart 52 = .ok (.invokevirtual 96, 3) := by decide +kernel
theorem d_Ma_restart_55 : decode b_Ma_restart 55 = .ok (.iinc 2 1, 3) := by decide +kernel
theorem d_Ma_restart_58 : decode b_Ma_restart 58 = .ok (.goto (-17), 3) := by decide +kernel
theorem d_Ma_restart_61 : decode b_Ma_restart 61 = .ok (.aload_n 0, 1) := by decide +kernel
theorem d_Ma_restart_62 : decode b_Ma_restart 62 = .ok (.invokevirtual 99, 3) := by decide +kernel
theorem d_Ma_restart_65 : decode b_Ma_restart 65 = .ok (.return_, 1) := by decide +kernel
abbrev ru_Ma_restart : Room := { frames := 3, cells := 0, slots := 0, locals := 65 }
def wb_Ma_restart_41 (y : Ly) (Post : St → Prop) (K_41 : St → Int32 → Prop) (a0 : Nat) (s_h41 : St) (x2h41 : Int32) : Prop := ((3 ≤ x2h41 → wu_Ma_firstTurn y (fun (s_11 : St) => Post s_11) s_h41 a0) ∧ (¬ (3 ≤ x2h41) → xQ y a0 2 x2h41 (fun b_12 : Nat => wu_Ru_clear y (fun (s_15 : St) => K_41 s_15 (x2h41 + 1)) s_h41 b_12)))
def wl_Ma_restart_41 (y : Ly) (Post : St → Prop) (a0 : Nat) (s_h41 : St) (x2h41 : Int32) : Prop := ∃ (I : St → Int32 → Prop) (μ : St → Int32 → Nat), I s_h41 x2h41 ∧ ∀ (u : St) (t0 : Int32), I u t0 → wb_Ma_restart_41 y Post (fun z t0q => I z t0q ∧ μ z t0q < μ u t0) a0 u t0
def wu_Ma_restart (y : Ly) (Post : St → Prop) (σ : St) (a0 : Nat) (v1 : Int32) : Prop := wu_Wd_restart y (fun (s_2 : St) => wu_Hp_restart y (fun (s_4 : St) => wu_Ja_fill_aIIV y (fun (s_6 : St) => xP (uV s_6 a0 5 0) (fun s_7 : St => xP (uV s_7 a0 7 0) (fun s_8 : St => xP (uV s_8 a0 9 50) (fun s_9 : St => wl_Ma_restart_41 y Post a0 s_9 0)))) s_4 a0 3 0) s_2 (lk a0 1)) σ (lk a0 0) v1
set_option maxHeartbeats 4000000 in
set_option maxRecDepth 100000 in
theorem cu_Ma_restart (l : Launch) (D : va_G) (g : Nat → ClassId) (ad : Nat → Nat) (y : Ly) (Post : St → Prop) (σ : St) (a0 : Nat) (v1 : Int32) (sz : Nat) (h_a0 : cl a0 = 4) (h : wu_Ma_restart y Post σ a0 v1) : Met l y_Ma_restart (mw y_Ma_restart b_Ma_restart 3 (none)) ru_Ma_restart (PC g D [] [.ref (ad a0), .int v1] sz (ws g ad y σ)) (va_Qv (fun u : St => Post u) (QW D (va_A (ws g ad y σ) sz) (fun u => ws g ad y u)) (va_A (ws g ad y σ) sz)) 0 0 (va_A (ws g ad y σ) sz) := by
  refine ofV (by decide +kernel) (Nat.le_of_ble_eq_true rfl) ?_
  intro p e s m args below meth c A Q ls H locs G hsz hP hD hS hl hret
  subst hsz
  have hl : lv_has ls 3 [(0, .ref (ad a0)), (1, .int v1)] := hl
  unfold wu_Ma_restart at h
  refine lv_aload_n G.1 G.2.1 d_Ma_restart_0 rfl (lv_at hl 0 rfl) ?_
  refine ugf (v := .ref (ad (lk a0 0))) G hP h_a0 iMa rfl 0 (by decide) rfl q1065 rfl rfl d_Ma_restart_1 ?_
  refine lv_iload_n G.1 G.2.1 d_Ma_restart_4 rfl (lv_at hl 1 rfl) ?_
  refine ucVv (As := [.int v1]) (rest := []) G hP hD hS (cu_Wd_restart l D g ad y _ σ (lk a0 0) v1 H.size (lk_4_0 h_a0) h) w9_Wd_restart q1215 ⟨Nat.le_of_ble_eq_true rfl, Nat.le_of_ble_eq_true rfl⟩ rfl rfl (lk_4_0 h_a0) (q := (RWd, TWd, 17)) rfl rfl hl.1 rfl (Nat.le_of_ble_eq_true rfl) rfl ⟨Nat.le_refl _, Nat.le_refl _⟩ d_Ma_restart_5 (fun s_2 H locs h hP hD hS => ?_)
  refine lv_aload_n G.1 G.2.1 d_Ma_restart_8 rfl (lv_at hl 0 rfl) ?_
  refine ugf (v := .ref (ad (lk a0 1))) G hP h_a0 iMa rfl 1 (by decide) rfl q1067 rfl rfl d_Ma_restart_9 ?_
  refine ucVv (As := []) (rest := []) G hP hD hS (cu_Hp_restart l D g ad y _ s_2 (lk a0 1) H.size (lk_4_1 h_a0) h) w9_Hp_restart q1223 ⟨Nat.le_of_ble_eq_true rfl, Nat.le_of_ble_eq_true rfl⟩ rfl rfl (lk_4_1 h_a0) (q := (RHp, THp, 15)) rfl rfl hl.1 rfl (Nat.le_of_ble_eq_true rfl) rfl ⟨Nat.le_refl _, Nat.le_refl _⟩ d_Ma_restart_12 (fun s_4 H locs h hP hD hS => ?_)
  refine lv_aload_n G.1 G.2.1 d_Ma_restart_15 rfl (lv_at hl 0 rfl) ?_
  refine ugf (v := .ref (yP y a0 3)) G hP h_a0 iMa rfl 3 (by decide) rfl q1071 rfl rfl d_Ma_restart_16 ?_
  refine lv_iconst (v := 0) G.1 G.2.1 d_Ma_restart_19 (by decide) ?_
  refine ucSv (As := [.ref (yP y a0 3), .int 0]) (rest := []) G hP hD hS (cu_Ja_fill_aIIV l D g ad y _ s_4 a0 3 0 H.size ⟨(kdp h_a0 rfl), (typ h_a0 rfl)⟩ h) w9_Ja_fill_aIIV q1227 ⟨Nat.le_of_ble_eq_true rfl, Nat.le_of_ble_eq_true rfl⟩ rfl rfl hl.1 rfl (Nat.le_of_ble_eq_true rfl) rfl ⟨Nat.le_refl _, Nat.le_refl _⟩ d_Ma_restart_20 (fun s_6 H locs h hP hD hS => ?_)
  refine W.eq (g2 := F0 m 23 ls []) rfl ?_
  refine lv_aload_n G.1 G.2.1 d_Ma_restart_23 rfl (lv_at hl 0 rfl) ?_
  refine lv_iconst (v := 0) G.1 G.2.1 d_Ma_restart_24 (by decide) ?_
  refine upf G hP hD hS h 5 putV h_a0 iMa tMa tMa_ok nMa rfl (by decide) rfl q1075 rfl rfl fV rfl rfl d_Ma_restart_25 (fun s_7 H locs h hP hD hS => ?_)
  refine lv_aload_n G.1 G.2.1 d_Ma_restart_28 rfl (lv_at hl 0 rfl) ?_
  refine lv_iconst (v := 0) G.1 G.2.1 d_Ma_restart_29 (by decide) ?_
  refine upf G hP hD hS h 7 putV h_a0 iMa tMa tMa_ok nMa rfl (by decide) rfl q1079 rfl rfl fV rfl rfl d_Ma_restart_30 (fun s_8 H locs h hP hD hS => ?_)
  refine lv_aload_n G.1 G.2.1 d_Ma_restart_33 rfl (lv_at hl 0 rfl) ?_
  refine lv_bipush (v := 50) G.1 G.2.1 d_Ma_restart_34 (by decide) ?_
  refine upf G hP hD hS h 9 putV h_a0 iMa tMa tMa_ok nMa rfl (by decide) rfl q1083 rfl rfl fV rfl rfl d_Ma_restart_36 (fun s_9 H locs h hP hD hS => ?_)
  refine lv_iconst (v := 0) G.1 G.2.1 d_Ma_restart_39 (by decide) ?_
  refine lv_istore_n (lv' := [(2, .int 0), (0, .ref (ad a0)), (1, .int v1)]) G.1 G.2.1 d_Ma_restart_40 rfl hl (by decide) rfl (fun ls hl => ?_)
  unfold wl_Ma_restart_41 at h
  obtain ⟨I_41, μ_41, hI_41, hB_41⟩ := h
  have L_41 : ∀ (n_41 : Nat) (s_h41 : St) (x2h41 : Int32), μ_41 s_h41 x2h41 < n_41 → I_41 s_h41 x2h41 → ∀ (H : Heap) (locs : List Loc), va_P D CL (ws g ad y s_h41) H → va_D A (ws g ad y s_h41) → va_S A s.heap H locs → ∀ ls, lv_has ls 3 [(0, .ref (ad a0)), (2, .int x2h41)] → W p l e ru_Ma_restart s m args below meth c H locs 0 0 Q (F0 m 41 ls []) := by
    intro n_41
    induction n_41 with
    | zero => intro s_h41 x2h41 hμ; exact absurd hμ (Nat.not_lt_zero _)
    | succ n_41 ih_41 =>
      intro s_h41 x2h41 hμ_41 hJ H locs hP hD hS ls hl
      obtain ⟨K_41, hK_41, h⟩ : ∃ K : St → Int32 → Prop, (∀ z (t0 : Int32), K z t0 → I_41 z t0 ∧ μ_41 z t0 < μ_41 s_h41 x2h41) ∧ wb_Ma_restart_41 y Post K a0 s_h41 x2h41 := ⟨_, fun _ _ h => h, hB_41 s_h41 x2h41 hJ⟩
      unfold wb_Ma_restart_41 at h
      refine lv_iload_n G.1 G.2.1 d_Ma_restart_41 rfl (lv_at hl 1 rfl) ?_
      refine lv_iconst (v := 3) G.1 G.2.1 d_Ma_restart_42 (by decide) ?_
      refine lv_icmp_ge (tgt := 61) G.1 G.2.1 d_Ma_restart_43 (by decide) (fun c43 => ?_) (fun c43 => ?_)
      · skip
        have h := h.1 c43
        refine lv_aload_n G.1 G.2.1 d_Ma_restart_61 rfl (lv_at hl 0 rfl) ?_
        refine ucVv (As := []) (rest := []) G hP hD hS (cu_Ma_firstTurn l D g ad y _ s_h41 a0 H.size h_a0 h) w9_Ma_firstTurn q1232 ⟨Nat.le_of_ble_eq_true rfl, Nat.le_of_ble_eq_true rfl⟩ rfl rfl h_a0 (q := (RMa, TMa, 19)) rfl rfl hl.1 rfl (Nat.le_of_ble_eq_true rfl) rfl ⟨Nat.le_refl _, Nat.le_refl _⟩ d_Ma_restart_62 (fun s_11 H locs h hP hD hS => ?_)
        exact hret _ _ _ _ _ _ ls h hP hD hS (Nat.le_refl _) (Nat.le_refl _) d_Ma_restart_65
      · skip
        have h := h.2 c43
        refine lv_aload_n G.1 G.2.1 d_Ma_restart_46 rfl (lv_at hl 0 rfl) ?_
        refine ugf (v := .ref (yP y a0 2)) G hP h_a0 iMa rfl 2 (by decide) rfl q1069 rfl rfl d_Ma_restart_47 ?_
        refine lv_iload_n G.1 G.2.1 d_Ma_restart_50 rfl (lv_at hl 1 rfl) ?_
        refine uqald G hP (kdp h_a0 rfl) (typ h_a0 rfl) rfl h d_Ma_restart_51 (fun b_12 n_13 h => ?_)
        refine ucVv (As := []) (rest := []) G hP hD hS (cu_Ru_clear l D g ad y _ s_h41 b_12 H.size (oa_4 h_a0 n_13) h) w9_Ru_clear q1228 ⟨Nat.le_of_ble_eq_true rfl, Nat.le_of_ble_eq_true rfl⟩ rfl rfl (oa_4 h_a0 n_13) (q := (RRu, TRu, 19)) rfl rfl hl.1 rfl (Nat.le_of_ble_eq_true rfl) rfl ⟨Nat.le_refl _, Nat.le_refl _⟩ d_Ma_restart_52 (fun s_15 H locs h hP hD hS => ?_)
        refine lv_iinc (v := x2h41 + 1) (lv' := [(2, .int (x2h41 + 1)), (0, .ref (ad a0))]) G.1 G.2.1 d_Ma_restart_55 hl (k := 1) rfl rfl (by decide) rfl (fun ls hl => ?_)
        refine lv_goto (tgt := 41) G.1 G.2.1 d_Ma_restart_58 (by decide) ?_
        have h := hK_41 s_15 (x2h41 + 1) h
        exact ih_41 s_15 (x2h41 + 1) (Nat.lt_of_lt_of_le h.2 (Nat.le_of_lt_succ hμ_41)) h.1 H locs hP hD hS ls (lv_sub hl [1, 0] rfl)
  exact L_41 _ s_9 0 (Nat.lt_succ_self _) hI_41 H locs hP hD hS ls (lv_sub hl [1, 0] rfl)
theorem q1139 : Cond.fieldLink "ClassWorks" 13 "ClassWorks" "machines" "[LClassWorks$Machine;" ∈ lw_ok := lw_okmem (List.mem_of_getElem? (i := 1139) (by decide +kernel)) rfl
theorem q1066 : Cond.fieldLink "ClassWorks" 118 "ClassWorks$Machine" "world" "LClassWorks$World;" ∈ lw_ok := lw_okmem (List.mem_of_getElem? (i := 1066) (by decide +kernel)) rfl
theorem q816 : Cond.fieldLink "ClassWorks" 122 "ClassWorks$World" "used" "Z" ∈ lw_ok := lw_okmem (List.mem_of_getElem? (i := 816) (by decide +kernel)) rfl
theorem q1211 : Cond.methodLink "ClassWorks" 126 y_Ma_restart ∈ lw_ok := lw_okmem (List.mem_of_getElem? (i := 1211) (by decide +kernel)) rfl
theorem q1214 : Cond.code y_Ma_restart b_Ma_restart 3 (none) ∈ lw_ok := lw_okmem (List.mem_of_getElem? (i := 1214) (by decide +kernel)) rfl
theorem q1212 : Cond.instanceMethod y_Ma_restart ∈ lw_ok := lw_okmem (List.mem_of_getElem? (i := 1212) (by decide +kernel)) rfl
theorem q1213 : Cond.selects y_Ma_restart.cls y_Ma_restart y_Ma_restart ∈ lw_ok := lw_okmem (List.mem_of_getElem? (i := 1213) (by decide +kernel)) rfl
theorem w9_Ma_restart : CWv y_Ma_restart b_Ma_restart 3 (none) 1 ∧ Cond.instanceMethod y_Ma_restart ∈ lw_ok ∧ Cond.selects y_Ma_restart.cls y_Ma_restart y_Ma_restart ∈ lw_ok := ⟨⟨q1214, q344, by decide +kernel, by decide +kernel, by decide +kernel⟩, q1212, q1213⟩
def y_Cw_world : MethodName := ⟨"ClassWorks", "world", "(I)I"⟩
abbrev b_Cw_world : ByteArray := prog_1_method_5_code
theorem d_Cw_world_0 : decode b_Cw_world 0 = .ok (.iload_n 1, 1) := by decide +kernel
theorem d_Cw_world_1 : decode b_Cw_world 1 = .ok (.sipush (-256), 3) := by decide +kernel
theorem d_Cw_world_4 : decode b_Cw_world 4 = .ok (.iand, 1) := by decide +kernel
theorem d_Cw_world_5 : decode b_Cw_world 5 = .ok (.ifCond .eq 5, 3) := by decide +kernel
theorem d_Cw_world_8 : decode b_Cw_world 8 = .ok (.iconst (-1), 1) := by decide +kernel
theorem d_Cw_world_9 : decode b_Cw_world 9 = .ok (.ireturn, 1) := by decide +kernel
theorem d_Cw_world_10 : decode b_Cw_world 10 = .ok (.iconst 0, 1) := by decide +kernel
theorem d_Cw_world_11 : decode b_Cw_world 11 = .ok (.istore_n 2, 1) := by decide +kernel
theorem d_Cw_world_12 : decode b_Cw_world 12 = .ok (.iload_n 2, 1) := by decide +kernel
theorem d_Cw_world_13 : decode b_Cw_world 13 = .ok (.iconst 3, 1) := by decide +kernel
theorem d_Cw_world_14 : decode b_Cw_world 14 = .ok (.if_icmp .ge 49, 3) := by decide +kernel
theorem d_Cw_world_17 : decode b_Cw_world 17 = .ok (.aload_n 0, 1) := by decide +kernel
theorem d_Cw_world_18 : decode b_Cw_world 18 = .ok (.getfield 13, 3) := by decide +kernel
theorem d_Cw_world_21 : decode b_Cw_world 21 = .ok (.iload_n 2, 1) := by decide +kernel
theorem d_Cw_world_22 : decode b_Cw_world 22 = .ok (.aaload, 1) := by decide +kernel
theorem d_Cw_world_23 : decode b_Cw_world 23 = .ok (.getfield 118, 3) := by decide +kernel
theorem d_Cw_world_26 : decode b_Cw_world 26 = .ok (.getfield 122, 3) := by decide +kernel
theorem d_Cw_world_29 : decode b_Cw_world 29 = .ok (.ifCond .ne 28, 3) := by decide +kernel
theorem d_Cw_world_32 : decode b_Cw_world 32 = .ok (.aload_n 0, 1) := by decide +kernel
theorem d_Cw_world_33 : decode b_Cw_world 33 = .ok (.getfield 13, 3) := by decide +kernel
theorem d_Cw_world_36 : decode b_Cw_world 36 = .ok (.iload_n 2, 1) := by decide +kernel
theorem d_Cw_world_37 : decode b_Cw_world 37 = .ok (.aaload, 1) := by decide +kernel
theorem d_Cw_world_38 : decode b_Cw_world 38 = .ok (.iload_n 1, 1) := by decide +kernel
theorem d_Cw_world_39 : decode b_Cw_world 39 = .ok (.invokevirtual 126, 3) := by decide +kernel
theorem d_Cw_world_42 : decode b_Cw_world 42 = .ok (.aload_n 0, 1) := by decide +kernel
theorem d_Cw_world_43 : decode b_Cw_world 43 = .ok (.getfield 13, 3) := by decide +kernel
theorem d_Cw_world_46 : decode b_Cw_world 46 = .ok (.iload_n 2, 1) := by decide +kernel
theorem d_Cw_world_47 : decode b_Cw_world 47 = .ok (.aaload, 1) := by decide +kernel
theorem d_Cw_world_48 : decode b_Cw_world 48 = .ok (.getfield 118, 3) := by decide +kernel
theorem d_Cw_world_51 : decode b_Cw_world 51 = .ok (.iconst 1, 1) := by decide +kernel
theorem d_Cw_world_52 : decode b_Cw_world 52 = .ok (.putfield 122, 3) := by decide +kernel
theorem d_Cw_world_55 : decode b_Cw_world 55 = .ok (.iload_n 2, 1) := by decide +kernel
theorem d_Cw_world_56 : decode b_Cw_world 56 = .ok (.ireturn, 1) := by decide +kernel
theorem d_Cw_world_57 : decode b_Cw_world 57 = .ok (.iinc 2 1, 3) := by decide +kernel
theorem d_Cw_world_60 : decode b_Cw_world 60 = .ok (.goto (-48), 3) := by decide +kernel
theorem d_Cw_world_63 : decode b_Cw_world 63 = .ok (.bipush (-3), 2) := by decide +kernel
theorem d_Cw_world_65 : decode b_Cw_world 65 = .ok (.ireturn, 1) := by decide +kernel
abbrev ru_Cw_world : Room := { frames := 4, cells := 0, slots := 0, locals := 87 }
def wb_Cw_world_12 (y : Ly) (Post : St → Int32 → Prop) (K_12 : St → Int32 → Int32 → Prop) (a0 : Nat) (s_h12 : St) (x1h12 : Int32) (x2h12 : Int32) : Prop := ((3 ≤ x2h12 → Post s_h12 (-3)) ∧ (¬ (3 ≤ x2h12) → xQ y a0 5 x2h12 (fun b_1 : Nat => ((¬ (sV s_h12 (lk b_1 0) 1) = 0 → K_12 s_h12 x1h12 (x2h12 + 1)) ∧ ((sV s_h12 (lk b_1 0) 1) = 0 → xQ y a0 5 x2h12 (fun b_3 : Nat => wu_Ma_restart y (fun (s_6 : St) => xQ y a0 5 x2h12 (fun b_7 : Nat => nb 1 ∧ xP (uV s_6 (lk b_7 0) 1 1) (fun s_10 : St => Post s_10 x2h12))) s_h12 b_3 x1h12))))))
def wl_Cw_world_12 (y : Ly) (Post : St → Int32 → Prop) (a0 : Nat) (s_h12 : St) (x1h12 : Int32) (x2h12 : Int32) : Prop := ∃ (I : St → Int32 → Int32 → Prop) (μ : St → Int32 → Int32 → Nat), I s_h12 x1h12 x2h12 ∧ ∀ (u : St) (t0 : Int32) (t1 : Int32), I u t0 t1 → wb_Cw_world_12 y Post (fun z t0q t1q => I z t0q t1q ∧ μ z t0q t1q < μ u t0 t1) a0 u t0 t1
def wu_Cw_world (y : Ly) (Post : St → Int32 → Prop) (σ : St) (a0 : Nat) (v1 : Int32) : Prop := (((v1 &&& (-256)) = 0 → wl_Cw_world_12 y Post a0 σ v1 0) ∧ (¬ ((v1 &&& (-256)) = 0) → Post σ (-1)))
set_option maxHeartbeats 4000000 in
set_option maxRecDepth 100000 in
theorem cu_Cw_world (l : Launch) (D : va_G) (g : Nat → ClassId) (ad : Nat → Nat) (y : Ly) (Post : St → Int32 → Prop) (σ : St) (a0 : Nat) (v1 : Int32) (sz : Nat) (h_a0 : cl a0 = 11) (h : wu_Cw_world y Post σ a0 v1) : Met l y_Cw_world (mw y_Cw_world b_Cw_world 3 (some .int)) ru_Cw_world (PC g D [] [.ref (ad a0), .int v1] sz (ws g ad y σ)) (va_Qi (fun (r : Int32) (u : St) => Post u r) (QW D (va_A (ws g ad y σ) sz) (fun u => ws g ad y u)) (va_A (ws g ad y σ) sz)) 0 0 (va_A (ws g ad y σ) sz) := by
  refine ofI (by decide +kernel) (Nat.le_of_ble_eq_true rfl) ?_
  intro p e s m args below meth c A Q ls H locs G hsz hP hD hS hl hret
  subst hsz
  have hl : lv_has ls 3 [(0, .ref (ad a0)), (1, .int v1)] := hl
  unfold wu_Cw_world at h
  refine lv_iload_n G.1 G.2.1 d_Cw_world_0 rfl (lv_at hl 1 rfl) ?_
  refine lv_sipush (v := (-256)) G.1 G.2.1 d_Cw_world_1 (by decide) ?_
  refine lv_iand G.1 G.2.1 d_Cw_world_4 ?_
  refine lv_if_eq (tgt := 10) G.1 G.2.1 d_Cw_world_5 (by decide) (fun c5 => ?_) (fun c5 => ?_)
  · skip
    have h := h.1 c5
    refine lv_iconst (v := 0) G.1 G.2.1 d_Cw_world_10 (by decide) ?_
    refine lv_istore_n (lv' := [(2, .int 0), (0, .ref (ad a0)), (1, .int v1)]) G.1 G.2.1 d_Cw_world_11 rfl hl (by decide) rfl (fun ls hl => ?_)
    unfold wl_Cw_world_12 at h
    obtain ⟨I_12, μ_12, hI_12, hB_12⟩ := h
    have L_12 : ∀ (n_12 : Nat) (s_h12 : St) (x1h12 : Int32) (x2h12 : Int32), μ_12 s_h12 x1h12 x2h12 < n_12 → I_12 s_h12 x1h12 x2h12 → ∀ (H : Heap) (locs : List Loc), va_P D CL (ws g ad y s_h12) H → va_D A (ws g ad y s_h12) → va_S A s.heap H locs → ∀ ls, lv_has ls 3 [(0, .ref (ad a0)), (1, .int x1h12), (2, .int x2h12)] → W p l e ru_Cw_world s m args below meth c H locs 0 0 Q (F0 m 12 ls []) := by
      intro n_12
      induction n_12 with
      | zero => intro s_h12 x1h12 x2h12 hμ; exact absurd hμ (Nat.not_lt_zero _)
      | succ n_12 ih_12 =>
        intro s_h12 x1h12 x2h12 hμ_12 hJ H locs hP hD hS ls hl
        obtain ⟨K_12, hK_12, h⟩ : ∃ K : St → Int32 → Int32 → Prop, (∀ z (t0 : Int32) (t1 : Int32), K z t0 t1 → I_12 z t0 t1 ∧ μ_12 z t0 t1 < μ_12 s_h12 x1h12 x2h12) ∧ wb_Cw_world_12 y Post K a0 s_h12 x1h12 x2h12 := ⟨_, fun _ _ _ h => h, hB_12 s_h12 x1h12 x2h12 hJ⟩
        unfold wb_Cw_world_12 at h
        refine lv_iload_n G.1 G.2.1 d_Cw_world_12 rfl (lv_at hl 2 rfl) ?_
        refine lv_iconst (v := 3) G.1 G.2.1 d_Cw_world_13 (by decide) ?_
        refine lv_icmp_ge (tgt := 63) G.1 G.2.1 d_Cw_world_14 (by decide) (fun c14 => ?_) (fun c14 => ?_)
        · skip
          have h := h.1 c14
          refine lv_bipush (v := (-3)) G.1 G.2.1 d_Cw_world_63 (by decide) ?_
          exact hret _ _ _ _ _ _ _ ls h hP hD hS (Nat.le_refl _) (Nat.le_refl _) d_Cw_world_65
        · skip
          have h := h.2 c14
          refine lv_aload_n G.1 G.2.1 d_Cw_world_17 rfl (lv_at hl 0 rfl) ?_
          refine ugf (v := .ref (yP y a0 5)) G hP h_a0 iCw rfl 5 (by decide) rfl q1139 rfl rfl d_Cw_world_18 ?_
          refine lv_iload_n G.1 G.2.1 d_Cw_world_21 rfl (lv_at hl 2 rfl) ?_
          refine uqald G hP (kdp h_a0 rfl) (typ h_a0 rfl) rfl h d_Cw_world_22 (fun b_1 n_2 h => ?_)
          refine ugf (v := .ref (ad (lk b_1 0))) G hP (oa_11 h_a0 n_2) iMa rfl 0 (by decide) rfl q1066 rfl rfl d_Cw_world_23 ?_
          refine ugf (v := .int (sV s_h12 (lk b_1 0) 1)) G hP (lk_4_0 (oa_11 h_a0 n_2)) iWd rfl 1 (by decide) rfl q816 rfl rfl d_Cw_world_26 ?_
          refine lv_if_ne (tgt := 57) G.1 G.2.1 d_Cw_world_29 (by decide) (fun c29 => ?_) (fun c29 => ?_)
          · skip
            have h := h.1 c29
            refine lv_iinc (v := x2h12 + 1) (lv' := [(2, .int (x2h12 + 1)), (0, .ref (ad a0)), (1, .int x1h12)]) G.1 G.2.1 d_Cw_world_57 hl (k := 2) rfl rfl (by decide) rfl (fun ls hl => ?_)
            refine W.eq (g2 := F0 m 60 ls []) rfl ?_
            refine lv_goto (tgt := 12) G.1 G.2.1 d_Cw_world_60 (by decide) ?_
            have h := hK_12 s_h12 x1h12 (x2h12 + 1) h
            exact ih_12 s_h12 x1h12 (x2h12 + 1) (Nat.lt_of_lt_of_le h.2 (Nat.le_of_lt_succ hμ_12)) h.1 H locs hP hD hS ls (lv_sub hl [1, 2, 0] rfl)
          · skip
            have h := h.2 c29
            refine lv_aload_n G.1 G.2.1 d_Cw_world_32 rfl (lv_at hl 0 rfl) ?_
            refine W.eq (g2 := F0 m 33 ls [.ref (ad a0)]) rfl ?_
            refine ugf (v := .ref (yP y a0 5)) G hP h_a0 iCw rfl 5 (by decide) rfl q1139 rfl rfl d_Cw_world_33 ?_
            refine lv_iload_n G.1 G.2.1 d_Cw_world_36 rfl (lv_at hl 2 rfl) ?_
            refine uqald G hP (kdp h_a0 rfl) (typ h_a0 rfl) rfl h d_Cw_world_37 (fun b_3 n_4 h => ?_)
            refine lv_iload_n G.1 G.2.1 d_Cw_world_38 rfl (lv_at hl 1 rfl) ?_
            refine ucVv (As := [.int x1h12]) (rest := []) G hP hD hS (cu_Ma_restart l D g ad y _ s_h12 b_3 x1h12 H.size (oa_11 h_a0 n_4) h) w9_Ma_restart q1211 ⟨Nat.le_of_ble_eq_true rfl, Nat.le_of_ble_eq_true rfl⟩ rfl rfl (oa_11 h_a0 n_4) (q := (RMa, TMa, 19)) rfl rfl hl.1 rfl (Nat.le_of_ble_eq_true rfl) rfl ⟨Nat.le_refl _, Nat.le_refl _⟩ d_Cw_world_39 (fun s_6 H locs h hP hD hS => ?_)
            refine lv_aload_n G.1 G.2.1 d_Cw_world_42 rfl (lv_at hl 0 rfl) ?_
            refine ugf (v := .ref (yP y a0 5)) G hP h_a0 iCw rfl 5 (by decide) rfl q1139 rfl rfl d_Cw_world_43 ?_
            refine lv_iload_n G.1 G.2.1 d_Cw_world_46 rfl (lv_at hl 2 rfl) ?_
            refine uqald G hP (kdp h_a0 rfl) (typ h_a0 rfl) rfl h d_Cw_world_47 (fun b_7 n_8 h => ?_)
            refine ugf (v := .ref (ad (lk b_7 0))) G hP (oa_11 h_a0 n_8) iMa rfl 0 (by decide) rfl q1066 rfl rfl d_Cw_world_48 ?_
            refine lv_iconst (v := 1) G.1 G.2.1 d_Cw_world_51 (by decide) ?_
            obtain ⟨n_9, h⟩ := h
            refine upf G hP hD hS h 1 putV (lk_4_0 (oa_11 h_a0 n_8)) iWd tWd tWd_ok nWd rfl (by decide) rfl q816 rfl rfl fV (nb_n n_9) (nb_f n_9) d_Cw_world_52 (fun s_10 H locs h hP hD hS => ?_)
            refine W.eq (g2 := F0 m 55 ls []) rfl ?_
            refine lv_iload_n G.1 G.2.1 d_Cw_world_55 rfl (lv_at hl 2 rfl) ?_
            exact hret _ _ _ _ _ _ _ ls h hP hD hS (Nat.le_refl _) (Nat.le_refl _) d_Cw_world_56
    exact L_12 _ σ v1 0 (Nat.lt_succ_self _) hI_12 H locs hP hD hS ls (lv_sub hl [1, 2, 0] rfl)
  · skip
    have h := h.2 c5
    refine lv_iconst (v := (-1)) G.1 G.2.1 d_Cw_world_8 (by decide) ?_
    exact hret _ _ _ _ _ _ _ ls h hP hD hS (Nat.le_refl _) (Nat.le_refl _) d_Cw_world_9
def y_Cw_machine : MethodName := ⟨"ClassWorks", "machine", "(I)LClassWorks$Machine;"⟩
abbrev b_Cw_machine : ByteArray := prog_1_method_6_code
theorem d_Cw_machine_0 : decode b_Cw_machine 0 = .ok (.iload_n 1, 1) := by decide +kernel
theorem d_Cw_machine_1 : decode b_Cw_machine 1 = .ok (.ifCond .lt 23, 3) := by decide +kernel
theorem d_Cw_machine_4 : decode b_Cw_machine 4 = .ok (.iload_n 1, 1) := by decide +kernel
theorem d_Cw_machine_5 : decode b_Cw_machine 5 = .ok (.iconst 3, 1) := by decide +kernel
theorem d_Cw_machine_6 : decode b_Cw_machine 6 = .ok (.if_icmp .ge 18, 3) := by decide +kernel
theorem d_Cw_machine_9 : decode b_Cw_machine 9 = .ok (.aload_n 0, 1) := by decide +kernel
theorem d_Cw_machine_10 : decode b_Cw_machine 10 = .ok (.getfield 13, 3) := by decide +kernel
theorem d_Cw_machine_13 : decode b_Cw_machine 13 = .ok (.iload_n 1, 1) := by decide +kernel
theorem d_Cw_machine_14 : decode b_Cw_machine 14 = .ok (.aaload, 1) := by decide +kernel
theorem d_Cw_machine_15 : decode b_Cw_machine 15 = .ok (.getfield 118, 3) := by decide +kernel
theorem d_Cw_machine_18 : decode b_Cw_machine 18 = .ok (.getfield 122, 3) := by decide +kernel
theorem d_Cw_machine_21 : decode b_Cw_machine 21 = .ok (.ifCond .ne 5, 3) := by decide +kernel
theorem d_Cw_machine_24 : decode b_Cw_machine 24 = .ok (.aconst_null, 1) := by decide +kernel
theorem d_Cw_machine_25 : decode b_Cw_machine 25 = .ok (.areturn, 1) := by decide +kernel
theorem d_Cw_machine_26 : decode b_Cw_machine 26 = .ok (.aload_n 0, 1) := by decide +kernel
theorem d_Cw_machine_27 : decode b_Cw_machine 27 = .ok (.getfield 13, 3) := by decide +kernel
theorem d_Cw_machine_30 : decode b_Cw_machine 30 = .ok (.iload_n 1, 1) := by decide +kernel
theorem d_Cw_machine_31 : decode b_Cw_machine 31 = .ok (.aaload, 1) := by decide +kernel
theorem d_Cw_machine_32 : decode b_Cw_machine 32 = .ok (.areturn, 1) := by decide +kernel
abbrev ru_Cw_machine : Room := { frames := 0, cells := 0, slots := 0, locals := 0 }
def wj_Cw_machine_24 (y : Ly) (Post : St → Option Nat → Prop) (a0 : Nat) (s_j24 : St) : Prop := Post s_j24 (none)
def wu_Cw_machine (y : Ly) (Post : St → Option Nat → Prop) (σ : St) (a0 : Nat) (v1 : Int32) : Prop := ((v1 < 0 → wj_Cw_machine_24 y Post a0 σ) ∧ (¬ (v1 < 0) → ((3 ≤ v1 → wj_Cw_machine_24 y Post a0 σ) ∧ (¬ (3 ≤ v1) → xQ y a0 5 v1 (fun b_1 : Nat => ((¬ (sV σ (lk b_1 0) 1) = 0 → xQ y a0 5 v1 (fun b_3 : Nat => Post σ (some b_3))) ∧ ((sV σ (lk b_1 0) 1) = 0 → wj_Cw_machine_24 y Post a0 σ)))))))
set_option maxHeartbeats 4000000 in
set_option maxRecDepth 100000 in
theorem cu_Cw_machine (l : Launch) (D : va_G) (g : Nat → ClassId) (ad : Nat → Nat) (y : Ly) (Post : St → Option Nat → Prop) (σ : St) (a0 : Nat) (v1 : Int32) (sz : Nat) (h_a0 : cl a0 = 11) (h : wu_Cw_machine y Post σ a0 v1) : Met l y_Cw_machine (mw y_Cw_machine b_Cw_machine 2 (some ((.object "ClassWorks$Machine")))) ru_Cw_machine (PC g D [] [.ref (ad a0), .int v1] sz (ws g ad y σ)) (va_Qq (fun (r : Option Nat) (u : St) => ∃ o : Option Nat, r = o.map ad ∧ Post u o) (QW D (va_A (ws g ad y σ) sz) (fun u => ws g ad y u)) (va_A (ws g ad y σ) sz)) 0 0 (va_A (ws g ad y σ) sz) := by
  refine ofQ (Or.inl ⟨_, rfl⟩) (by decide +kernel) (Nat.le_of_ble_eq_true rfl) ?_
  intro p e s m args below meth c A Q ls H locs G hsz hP hD hS hl hret
  subst hsz
  have hl : lv_has ls 2 [(0, .ref (ad a0)), (1, .int v1)] := hl
  unfold wu_Cw_machine at h
  refine lv_iload_n G.1 G.2.1 d_Cw_machine_0 rfl (lv_at hl 1 rfl) ?_
  have J_24 : ∀ (s_j24 : St) (H : Heap) (locs : List Loc), wj_Cw_machine_24 y Post a0 s_j24 → va_P D CL (ws g ad y s_j24) H → va_D A (ws g ad y s_j24) → va_S A s.heap H locs → ∀ ls, lv_has ls 2 [] → W p l e ru_Cw_machine s m args below meth c H locs 0 0 Q (F0 m 24 ls []) := by
    intro s_j24 H locs h hP hD hS ls hl
    unfold wj_Cw_machine_24 at h
    refine lv_null G.1 G.2.1 d_Cw_machine_24 ?_
    exact hret (none) _ _ _ _ _ _ ls ⟨none, rfl, h⟩ hP hD hS (Nat.le_refl _) (Nat.le_refl _) d_Cw_machine_25
  refine lv_if_lt (tgt := 24) G.1 G.2.1 d_Cw_machine_1 (by decide) (fun c1 => ?_) (fun c1 => ?_)
  · skip
    have h := h.1 c1
    exact J_24 σ H locs h hP hD hS ls (lv_sub hl [] rfl)
  · skip
    have h := h.2 c1
    refine lv_iload_n G.1 G.2.1 d_Cw_machine_4 rfl (lv_at hl 1 rfl) ?_
    refine lv_iconst (v := 3) G.1 G.2.1 d_Cw_machine_5 (by decide) ?_
    refine lv_icmp_ge (tgt := 24) G.1 G.2.1 d_Cw_machine_6 (by decide) (fun c6 => ?_) (fun c6 => ?_)
    · skip
      have h := h.1 c6
      exact J_24 σ H locs h hP hD hS ls (lv_sub hl [] rfl)
    · skip
      have h := h.2 c6
      refine lv_aload_n G.1 G.2.1 d_Cw_machine_9 rfl (lv_at hl 0 rfl) ?_
      refine ugf (v := .ref (yP y a0 5)) G hP h_a0 iCw rfl 5 (by decide) rfl q1139 rfl rfl d_Cw_machine_10 ?_
      refine lv_iload_n G.1 G.2.1 d_Cw_machine_13 rfl (lv_at hl 1 rfl) ?_
      refine uqald G hP (kdp h_a0 rfl) (typ h_a0 rfl) rfl h d_Cw_machine_14 (fun b_1 n_2 h => ?_)
      refine ugf (v := .ref (ad (lk b_1 0))) G hP (oa_11 h_a0 n_2) iMa rfl 0 (by decide) rfl q1066 rfl rfl d_Cw_machine_15 ?_
      refine ugf (v := .int (sV σ (lk b_1 0) 1)) G hP (lk_4_0 (oa_11 h_a0 n_2)) iWd rfl 1 (by decide) rfl q816 rfl rfl d_Cw_machine_18 ?_
      refine W.eq (g2 := F0 m 21 ls [.int (sV σ (lk b_1 0) 1)]) rfl ?_
      refine lv_if_ne (tgt := 26) G.1 G.2.1 d_Cw_machine_21 (by decide) (fun c21 => ?_) (fun c21 => ?_)
      · skip
        have h := h.1 c21
        refine lv_aload_n G.1 G.2.1 d_Cw_machine_26 rfl (lv_at hl 0 rfl) ?_
        refine ugf (v := .ref (yP y a0 5)) G hP h_a0 iCw rfl 5 (by decide) rfl q1139 rfl rfl d_Cw_machine_27 ?_
        refine lv_iload_n G.1 G.2.1 d_Cw_machine_30 rfl (lv_at hl 1 rfl) ?_
        refine uqald G hP (kdp h_a0 rfl) (typ h_a0 rfl) rfl h d_Cw_machine_31 (fun b_3 n_4 h => ?_)
        exact hret (some (ad b_3)) _ _ _ _ _ _ ls ⟨some b_3, rfl, h⟩ hP hD hS (Nat.le_refl _) (Nat.le_refl _) d_Cw_machine_32
      · skip
        have h := h.2 c21
        exact J_24 σ H locs h hP hD hS ls (lv_sub hl [] rfl)
theorem q1248 : Cond.methodLink "ClassWorks" 129 y_Cw_machine ∈ lw_ok := lw_okmem (List.mem_of_getElem? (i := 1248) (by decide +kernel)) rfl
theorem q1251 : Cond.code y_Cw_machine b_Cw_machine 2 (some ((.object "ClassWorks$Machine"))) ∈ lw_ok := lw_okmem (List.mem_of_getElem? (i := 1251) (by decide +kernel)) rfl
theorem q1250 : Cond.instanceMethod y_Cw_machine ∈ lw_ok := lw_okmem (List.mem_of_getElem? (i := 1250) (by decide +kernel)) rfl
theorem q8 : Cond.selects y_Cw_machine.cls y_Cw_machine y_Cw_machine ∈ lw_ok := lw_okmem (List.mem_of_getElem? (i := 8) (by decide +kernel)) rfl
theorem w9_Cw_machine : CWv y_Cw_machine b_Cw_machine 2 (some ((.object "ClassWorks$Machine"))) 1 ∧ Cond.instanceMethod y_Cw_machine ∈ lw_ok ∧ Cond.selects y_Cw_machine.cls y_Cw_machine y_Cw_machine ∈ lw_ok := ⟨⟨q1251, q329, by decide +kernel, by decide +kernel, by decide +kernel⟩, q1250, q8⟩
def y_Cw_worldOf : MethodName := ⟨"ClassWorks", "worldOf", "(I)LClassWorks$World;"⟩
abbrev b_Cw_worldOf : ByteArray := prog_1_method_7_code
theorem d_Cw_worldOf_0 : decode b_Cw_worldOf 0 = .ok (.aload_n 0, 1) := by decide +kernel
theorem d_Cw_worldOf_1 : decode b_Cw_worldOf 1 = .ok (.iload_n 1, 1) := by decide +kernel
theorem d_Cw_worldOf_2 : decode b_Cw_worldOf 2 = .ok (.invokevirtual 129, 3) := by decide +kernel
theorem d_Cw_worldOf_5 : decode b_Cw_worldOf 5 = .ok (.astore_n 2, 1) := by decide +kernel
theorem d_Cw_worldOf_6 : decode b_Cw_worldOf 6 = .ok (.aload_n 2, 1) := by decide +kernel
theorem d_Cw_worldOf_7 : decode b_Cw_worldOf 7 = .ok (.ifnonnull 7, 3) := by decide +kernel
theorem d_Cw_worldOf_10 : decode b_Cw_worldOf 10 = .ok (.aconst_null, 1) := by decide +kernel
theorem d_Cw_worldOf_11 : decode b_Cw_worldOf 11 = .ok (.goto 7, 3) := by decide +kernel
theorem d_Cw_worldOf_14 : decode b_Cw_worldOf 14 = .ok (.aload_n 2, 1) := by decide +kernel
theorem d_Cw_worldOf_15 : decode b_Cw_worldOf 15 = .ok (.getfield 118, 3) := by decide +kernel
theorem d_Cw_worldOf_18 : decode b_Cw_worldOf 18 = .ok (.areturn, 1) := by decide +kernel
abbrev ru_Cw_worldOf : Room := { frames := 1, cells := 0, slots := 0, locals := 21 }
def wj_Cw_worldOf_18 (y : Ly) (Post : St → Option Nat → Prop) (a0 : Nat) (s_j18 : St) (z0j18 : Option Nat) : Prop := ((z0j18 = none → Post s_j18 (none)) ∧ (∀ z0j18b : Nat, z0j18 = some z0j18b → (cl z0j18b = 9 ∧ Post s_j18 (some z0j18b))))
def wu_Cw_worldOf (y : Ly) (Post : St → Option Nat → Prop) (σ : St) (a0 : Nat) (v1 : Int32) : Prop := wu_Cw_machine y (fun (s_2 : St) (r_1 : Option Nat) => ((r_1 = none → wj_Cw_worldOf_18 y Post a0 s_2 none) ∧ (∀ r_1b : Nat, r_1 = some r_1b → (cl r_1b = 4 ∧ wj_Cw_worldOf_18 y Post a0 s_2 (some (lk r_1b 0)))))) σ a0 v1
set_option maxHeartbeats 4000000 in
set_option maxRecDepth 100000 in
theorem cu_Cw_worldOf (l : Launch) (D : va_G) (g : Nat → ClassId) (ad : Nat → Nat) (y : Ly) (Post : St → Option Nat → Prop) (σ : St) (a0 : Nat) (v1 : Int32) (sz : Nat) (h_a0 : cl a0 = 11) (h : wu_Cw_worldOf y Post σ a0 v1) : Met l y_Cw_worldOf (mw y_Cw_worldOf b_Cw_worldOf 3 (some ((.object "ClassWorks$World")))) ru_Cw_worldOf (PC g D [] [.ref (ad a0), .int v1] sz (ws g ad y σ)) (va_Qq (fun (r : Option Nat) (u : St) => ∃ o : Option Nat, r = o.map ad ∧ Post u o) (QW D (va_A (ws g ad y σ) sz) (fun u => ws g ad y u)) (va_A (ws g ad y σ) sz)) 0 0 (va_A (ws g ad y σ) sz) := by
  refine ofQ (Or.inl ⟨_, rfl⟩) (by decide +kernel) (Nat.le_of_ble_eq_true rfl) ?_
  intro p e s m args below meth c A Q ls H locs G hsz hP hD hS hl hret
  subst hsz
  have hl : lv_has ls 3 [(0, .ref (ad a0)), (1, .int v1)] := hl
  unfold wu_Cw_worldOf at h
  refine lv_aload_n G.1 G.2.1 d_Cw_worldOf_0 rfl (lv_at hl 0 rfl) ?_
  refine lv_iload_n G.1 G.2.1 d_Cw_worldOf_1 rfl (lv_at hl 1 rfl) ?_
  refine ucVq (As := [.int v1]) (rest := []) G hP hD hS (cu_Cw_machine l D g ad y _ σ a0 v1 H.size h_a0 h) w9_Cw_machine q1248 ⟨Nat.le_of_ble_eq_true rfl, Nat.le_of_ble_eq_true rfl⟩ rfl rfl h_a0 (q := (RCw, TCw, 20)) rfl rfl hl.1 rfl (Nat.le_of_ble_eq_true rfl) rfl ⟨Nat.le_refl _, Nat.le_refl _⟩ d_Cw_worldOf_2 (fun r_1 s_2 H locs h hP hD hS => ?_)
  rcases r_1 with _ | r_1b
  · skip
    have h := h.1 rfl
    show W p l e ru_Cw_worldOf s m args below meth c H locs 0 0 Q (F0 m 5 ls [.null])
    refine lv_astore_nN (lv' := [(2, .null), (0, .ref (ad a0)), (1, .int v1)]) G.1 G.2.1 d_Cw_worldOf_5 rfl hl (by decide) rfl (fun ls hl => ?_)
    refine lv_aload_nN G.1 G.2.1 d_Cw_worldOf_6 rfl (lv_at hl 0 rfl) ?_
    have J_18 : ∀ (s_j18 : St) (z0j18 : Option Nat) (H : Heap) (locs : List Loc), wj_Cw_worldOf_18 y Post a0 s_j18 z0j18 → va_P D CL (ws g ad y s_j18) H → va_D A (ws g ad y s_j18) → va_S A s.heap H locs → ∀ ls, lv_has ls 3 [] → W p l e ru_Cw_worldOf s m args below meth c H locs 0 0 Q (F0 m 18 ls [va_rf (Option.map ad z0j18)]) := by
      intro s_j18 z0j18 H locs h hP hD hS ls hl
      unfold wj_Cw_worldOf_18 at h
      rcases z0j18 with _ | z0j18b
      · skip
        have h := h.1 rfl
        have hl : lv_has ls 3 [] := hl
        show W p l e ru_Cw_worldOf s m args below meth c H locs 0 0 Q (F0 m 18 ls [.null])
        exact hret (none) _ _ _ _ _ _ ls ⟨none, rfl, h⟩ hP hD hS (Nat.le_refl _) (Nat.le_refl _) d_Cw_worldOf_18
      · skip
        obtain ⟨c_z0j18b, h⟩ := h.2 _ rfl
        have hl : lv_has ls 3 [] := hl
        show W p l e ru_Cw_worldOf s m args below meth c H locs 0 0 Q (F0 m 18 ls [.ref (ad z0j18b)])
        exact hret (some (ad z0j18b)) _ _ _ _ _ _ ls ⟨some z0j18b, rfl, h⟩ hP hD hS (Nat.le_refl _) (Nat.le_refl _) d_Cw_worldOf_18
    refine lv_ifnonnullN G.1 G.2.1 d_Cw_worldOf_7 ?_
    refine lv_null G.1 G.2.1 d_Cw_worldOf_10 ?_
    refine lv_goto (tgt := 18) G.1 G.2.1 d_Cw_worldOf_11 (by decide) ?_
    exact J_18 s_2 none H locs h hP hD hS ls (lv_sub hl [] rfl)
  · skip
    obtain ⟨c_r_1b, h⟩ := h.2 _ rfl
    show W p l e ru_Cw_worldOf s m args below meth c H locs 0 0 Q (F0 m 5 ls [.ref (ad r_1b)])
    refine lv_astore_n (lv' := [(2, .ref (ad r_1b)), (0, .ref (ad a0)), (1, .int v1)]) G.1 G.2.1 d_Cw_worldOf_5 rfl hl (by decide) rfl (fun ls hl => ?_)
    refine lv_aload_n G.1 G.2.1 d_Cw_worldOf_6 rfl (lv_at hl 0 rfl) ?_
    have J_18 : ∀ (s_j18 : St) (z0j18 : Option Nat) (H : Heap) (locs : List Loc), wj_Cw_worldOf_18 y Post a0 s_j18 z0j18 → va_P D CL (ws g ad y s_j18) H → va_D A (ws g ad y s_j18) → va_S A s.heap H locs → ∀ ls, lv_has ls 3 [] → W p l e ru_Cw_worldOf s m args below meth c H locs 0 0 Q (F0 m 18 ls [va_rf (Option.map ad z0j18)]) := by
      intro s_j18 z0j18 H locs h hP hD hS ls hl
      unfold wj_Cw_worldOf_18 at h
      rcases z0j18 with _ | z0j18b
      · skip
        have h := h.1 rfl
        have hl : lv_has ls 3 [] := hl
        show W p l e ru_Cw_worldOf s m args below meth c H locs 0 0 Q (F0 m 18 ls [.null])
        exact hret (none) _ _ _ _ _ _ ls ⟨none, rfl, h⟩ hP hD hS (Nat.le_refl _) (Nat.le_refl _) d_Cw_worldOf_18
      · skip
        obtain ⟨c_z0j18b, h⟩ := h.2 _ rfl
        have hl : lv_has ls 3 [] := hl
        show W p l e ru_Cw_worldOf s m args below meth c H locs 0 0 Q (F0 m 18 ls [.ref (ad z0j18b)])
        exact hret (some (ad z0j18b)) _ _ _ _ _ _ ls ⟨some z0j18b, rfl, h⟩ hP hD hS (Nat.le_refl _) (Nat.le_refl _) d_Cw_worldOf_18
    refine lv_ifnonnull (tgt := 14) G.1 G.2.1 d_Cw_worldOf_7 (by decide) ?_
    refine lv_aload_n G.1 G.2.1 d_Cw_worldOf_14 rfl (lv_at hl 0 rfl) ?_
    refine ugf (v := .ref (ad (lk r_1b 0))) G hP c_r_1b iMa rfl 0 (by decide) rfl q1066 rfl rfl d_Cw_worldOf_15 ?_
    exact J_18 s_2 (some (lk r_1b 0)) H locs h hP hD hS ls (lv_sub hl [] rfl)
theorem q1244 : Cond.methodLink "ClassWorks" 133 y_Cw_worldOf ∈ lw_ok := lw_okmem (List.mem_of_getElem? (i := 1244) (by decide +kernel)) rfl
theorem q1247 : Cond.code y_Cw_worldOf b_Cw_worldOf 3 (some ((.object "ClassWorks$World"))) ∈ lw_ok := lw_okmem (List.mem_of_getElem? (i := 1247) (by decide +kernel)) rfl
theorem q1246 : Cond.instanceMethod y_Cw_worldOf ∈ lw_ok := lw_okmem (List.mem_of_getElem? (i := 1246) (by decide +kernel)) rfl
theorem q7 : Cond.selects y_Cw_worldOf.cls y_Cw_worldOf y_Cw_worldOf ∈ lw_ok := lw_okmem (List.mem_of_getElem? (i := 7) (by decide +kernel)) rfl
theorem w9_Cw_worldOf : CWv y_Cw_worldOf b_Cw_worldOf 3 (some ((.object "ClassWorks$World"))) 1 ∧ Cond.instanceMethod y_Cw_worldOf ∈ lw_ok ∧ Cond.selects y_Cw_worldOf.cls y_Cw_worldOf y_Cw_worldOf ∈ lw_ok := ⟨⟨q1247, q329, by decide +kernel, by decide +kernel, by decide +kernel⟩, q1246, q7⟩
def y_Cw_drop : MethodName := ⟨"ClassWorks", "drop", "(I)I"⟩
abbrev b_Cw_drop : ByteArray := prog_1_method_9_code
theorem q819 : Cond.fieldLink "ClassWorks" 137 "ClassWorks$World" "count" "I" ∈ lw_ok := lw_okmem (List.mem_of_getElem? (i := 819) (by decide +kernel)) rfl
theorem d_Cw_drop_0 : decode b_Cw_drop 0 = .ok (.aload_n 0, 1) := by decide +kernel
theorem d_Cw_drop_1 : decode b_Cw_drop 1 = .ok (.iload_n 1, 1) := by decide +kernel
theorem d_Cw_drop_2 : decode b_Cw_drop 2 = .ok (.invokevirtual 133, 3) := by decide +kernel
theorem d_Cw_drop_5 : decode b_Cw_drop 5 = .ok (.astore_n 2, 1) := by decide +kernel
theorem d_Cw_drop_6 : decode b_Cw_drop 6 = .ok (.aload_n 2, 1) := by decide +kernel
theorem d_Cw_drop_7 : decode b_Cw_drop 7 = .ok (.ifnonnull 5, 3) := by decide +kernel
theorem d_Cw_drop_10 : decode b_Cw_drop 10 = .ok (.iconst (-1), 1) := by decide +kernel
theorem d_Cw_drop_11 : decode b_Cw_drop 11 = .ok (.ireturn, 1) := by decide +kernel
theorem d_Cw_drop_12 : decode b_Cw_drop 12 = .ok (.aload_n 2, 1) := by decide +kernel
theorem d_Cw_drop_13 : decode b_Cw_drop 13 = .ok (.iconst 0, 1) := by decide +kernel
theorem d_Cw_drop_14 : decode b_Cw_drop 14 = .ok (.putfield 122, 3) := by decide +kernel
theorem d_Cw_drop_17 : decode b_Cw_drop 17 = .ok (.aload_n 2, 1) := by decide +kernel
theorem d_Cw_drop_18 : decode b_Cw_drop 18 = .ok (.getfield 137, 3) := by decide +kernel
theorem d_Cw_drop_21 : decode b_Cw_drop 21 = .ok (.bipush 21, 2) := by decide +kernel
theorem d_Cw_drop_23 : decode b_Cw_drop 23 = .ok (.isub, 1) := by decide +kernel
theorem d_Cw_drop_24 : decode b_Cw_drop 24 = .ok (.ireturn, 1) := by decide +kernel
abbrev ru_Cw_drop : Room := { frames := 2, cells := 0, slots := 0, locals := 43 }
def wu_Cw_drop (y : Ly) (Post : St → Int32 → Prop) (σ : St) (a0 : Nat) (v1 : Int32) : Prop := wu_Cw_worldOf y (fun (s_2 : St) (r_1 : Option Nat) => ((r_1 = none → Post s_2 (-1)) ∧ (∀ r_1b : Nat, r_1 = some r_1b → (cl r_1b = 9 ∧ nb 0 ∧ xP (uV s_2 r_1b 1 0) (fun s_4 : St => Post s_4 ((sV s_4 r_1b 2) - 21)))))) σ a0 v1
set_option maxHeartbeats 4000000 in
set_option maxRecDepth 100000 in
theorem cu_Cw_drop (l : Launch) (D : va_G) (g : Nat → ClassId) (ad : Nat → Nat) (y : Ly) (Post : St → Int32 → Prop) (σ : St) (a0 : Nat) (v1 : Int32) (sz : Nat) (h_a0 : cl a0 = 11) (h : wu_Cw_drop y Post σ a0 v1) : Met l y_Cw_drop (mw y_Cw_drop b_Cw_drop 3 (some .int)) ru_Cw_drop (PC g D [] [.ref (ad a0), .int v1] sz (ws g ad y σ)) (va_Qi (fun (r : Int32) (u : St) => Post u r) (QW D (va_A (ws g ad y σ) sz) (fun u => ws g ad y u)) (va_A (ws g ad y σ) sz)) 0 0 (va_A (ws g ad y σ) sz) := by
  refine ofI (by decide +kernel) (Nat.le_of_ble_eq_true rfl) ?_
  intro p e s m args below meth c A Q ls H locs G hsz hP hD hS hl hret
  subst hsz
  have hl : lv_has ls 3 [(0, .ref (ad a0)), (1, .int v1)] := hl
  unfold wu_Cw_drop at h
  refine lv_aload_n G.1 G.2.1 d_Cw_drop_0 rfl (lv_at hl 0 rfl) ?_
  refine lv_iload_n G.1 G.2.1 d_Cw_drop_1 rfl (lv_at hl 1 rfl) ?_
  refine ucVq (As := [.int v1]) (rest := []) G hP hD hS (cu_Cw_worldOf l D g ad y _ σ a0 v1 H.size h_a0 h) w9_Cw_worldOf q1244 ⟨Nat.le_of_ble_eq_true rfl, Nat.le_of_ble_eq_true rfl⟩ rfl rfl h_a0 (q := (RCw, TCw, 20)) rfl rfl hl.1 rfl (Nat.le_of_ble_eq_true rfl) rfl ⟨Nat.le_refl _, Nat.le_refl _⟩ d_Cw_drop_2 (fun r_1 s_2 H locs h hP hD hS => ?_)
  rcases r_1 with _ | r_1b
  · skip
    have h := h.1 rfl
    show W p l e ru_Cw_drop s m args below meth c H locs 0 0 Q (F0 m 5 ls [.null])
    refine lv_astore_nN (lv' := [(2, .null), (0, .ref (ad a0)), (1, .int v1)]) G.1 G.2.1 d_Cw_drop_5 rfl hl (by decide) rfl (fun ls hl => ?_)
    refine lv_aload_nN G.1 G.2.1 d_Cw_drop_6 rfl (lv_at hl 0 rfl) ?_
    refine lv_ifnonnullN G.1 G.2.1 d_Cw_drop_7 ?_
    refine lv_iconst (v := (-1)) G.1 G.2.1 d_Cw_drop_10 (by decide) ?_
    exact hret _ _ _ _ _ _ _ ls h hP hD hS (Nat.le_refl _) (Nat.le_refl _) d_Cw_drop_11
  · skip
    obtain ⟨c_r_1b, h⟩ := h.2 _ rfl
    show W p l e ru_Cw_drop s m args below meth c H locs 0 0 Q (F0 m 5 ls [.ref (ad r_1b)])
    refine lv_astore_n (lv' := [(2, .ref (ad r_1b)), (0, .ref (ad a0)), (1, .int v1)]) G.1 G.2.1 d_Cw_drop_5 rfl hl (by decide) rfl (fun ls hl => ?_)
    refine lv_aload_n G.1 G.2.1 d_Cw_drop_6 rfl (lv_at hl 0 rfl) ?_
    refine lv_ifnonnull (tgt := 12) G.1 G.2.1 d_Cw_drop_7 (by decide) ?_
    refine lv_aload_n G.1 G.2.1 d_Cw_drop_12 rfl (lv_at hl 0 rfl) ?_
    refine lv_iconst (v := 0) G.1 G.2.1 d_Cw_drop_13 (by decide) ?_
    obtain ⟨n_3, h⟩ := h
    refine upf G hP hD hS h 1 putV c_r_1b iWd tWd tWd_ok nWd rfl (by decide) rfl q816 rfl rfl fV (nb_n n_3) (nb_f n_3) d_Cw_drop_14 (fun s_4 H locs h hP hD hS => ?_)
    refine lv_aload_n G.1 G.2.1 d_Cw_drop_17 rfl (lv_at hl 0 rfl) ?_
    refine ugf (v := .int (sV s_4 r_1b 2)) G hP c_r_1b iWd rfl 2 (by decide) rfl q819 rfl rfl d_Cw_drop_18 ?_
    refine W.eq (g2 := F0 m 21 ls [.int (sV s_4 r_1b 2)]) rfl ?_
    refine lv_bipush (v := 21) G.1 G.2.1 d_Cw_drop_21 (by decide) ?_
    refine lv_isub G.1 G.2.1 d_Cw_drop_23 ?_
    exact hret _ _ _ _ _ _ _ ls h hP hD hS (Nat.le_refl _) (Nat.le_refl _) d_Cw_drop_24
def y_Wd_mark : MethodName := ⟨"ClassWorks$World", "mark", "()V"⟩
abbrev b_Wd_mark : ByteArray := prog_11_method_4_code
theorem q863 : Cond.fieldLink "ClassWorks$World" 66 "ClassWorks$World" "marks" "[I" ∈ lw_ok := lw_okmem (List.mem_of_getElem? (i := 863) (by decide +kernel)) rfl
theorem d_Wd_mark_0 : decode b_Wd_mark 0 = .ok (.aload_n 0, 1) := by decide +kernel
theorem d_Wd_mark_1 : decode b_Wd_mark 1 = .ok (.getfield 66, 3) := by decide +kernel
theorem d_Wd_mark_4 : decode b_Wd_mark 4 = .ok (.iconst 0, 1) := by decide +kernel
theorem d_Wd_mark_5 : decode b_Wd_mark 5 = .ok (.aload_n 0, 1) := by decide +kernel
theorem d_Wd_mark_6 : decode b_Wd_mark 6 = .ok (.getfield 15, 3) := by decide +kernel
theorem d_Wd_mark_9 : decode b_Wd_mark 9 = .ok (.iastore, 1) := by decide +kernel
theorem d_Wd_mark_10 : decode b_Wd_mark 10 = .ok (.aload_n 0, 1) := by decide +kernel
theorem d_Wd_mark_11 : decode b_Wd_mark 11 = .ok (.getfield 66, 3) := by decide +kernel
theorem d_Wd_mark_14 : decode b_Wd_mark 14 = .ok (.iconst 1, 1) := by decide +kernel
theorem d_Wd_mark_15 : decode b_Wd_mark 15 = .ok (.aload_n 0, 1) := by decide +kernel
theorem d_Wd_mark_16 : decode b_Wd_mark 16 = .ok (.getfield 41, 3) := by decide +kernel
theorem d_Wd_mark_19 : decode b_Wd_mark 19 = .ok (.getfield 91, 3) := by decide +kernel
theorem d_Wd_mark_22 : decode b_Wd_mark 22 = .ok (.iastore, 1) := by decide +kernel
theorem d_Wd_mark_23 : decode b_Wd_mark 23 = .ok (.aload_n 0, 1) := by decide +kernel
theorem d_Wd_mark_24 : decode b_Wd_mark 24 = .ok (.getfield 66, 3) := by decide +kernel
theorem d_Wd_mark_27 : decode b_Wd_mark 27 = .ok (.iconst 2, 1) := by decide +kernel
theorem d_Wd_mark_28 : decode b_Wd_mark 28 = .ok (.aload_n 0, 1) := by decide +kernel
theorem d_Wd_mark_29 : decode b_Wd_mark 29 = .ok (.getfield 45, 3) := by decide +kernel
theorem d_Wd_mark_32 : decode b_Wd_mark 32 = .ok (.getfield 91, 3) := by decide +kernel
theorem d_Wd_mark_35 : decode b_Wd_mark 35 = .ok (.iastore, 1) := by decide +kernel
theorem d_Wd_mark_36 : decode b_Wd_mark 36 = .ok (.aload_n 0, 1) := by decide +kernel
theorem d_Wd_mark_37 : decode b_Wd_mark 37 = .ok (.getfield 66, 3) := by decide +kernel
theorem d_Wd_mark_40 : decode b_Wd_mark 40 = .ok (.iconst 3, 1) := by decide +kernel
theorem d_Wd_mark_41 : decode b_Wd_mark 41 = .ok (.aload_n 0, 1) := by decide +kernel
theorem d_Wd_mark_42 : decode b_Wd_mark 42 = .ok (.getfield 48, 3) := by decide +kernel
theorem d_Wd_mark_45 : decode b_Wd_mark 45 = .ok (.getfield 91, 3) := by decide +kernel
theorem d_Wd_mark_48 : decode b_Wd_mark 48 = .ok (.iastore, 1) := by decide +kernel
theorem d_Wd_mark_49 : decode b_Wd_mark 49 = .ok (.aload_n 0, 1) := by decide +kernel
theorem d_Wd_mark_50 : decode b_Wd_mark 50 = .ok (.getfield 66, 3) := by decide +kernel
theorem d_Wd_mark_53 : decode b_Wd_mark 53 = .ok (.iconst 4, 1) := by decide +kernel
theorem d_Wd_mark_54 : decode b_Wd_mark 54 = .ok (.aload_n 0, 1) := by decide +kernel
theorem d_Wd_mark_55 : decode b_Wd_mark 55 = .ok (.getfield 51, 3) := by decide +kernel
theorem d_Wd_mark_58 : decode b_Wd_mark 58 = .ok (.getfield 91, 3) := by decide +kernel
theorem d_Wd_mark_61 : decode b_Wd_mark 61 = .ok (.iastore, 1) := by decide +kernel
theorem d_Wd_mark_62 : decode b_Wd_mark 62 = .ok (.aload_n 0, 1) := by decide +kernel
theorem d_Wd_mark_63 : decode b_Wd_mark 63 = .ok (.getfield 66, 3) := by decide +kernel
theorem d_Wd_mark_66 : decode b_Wd_mark 66 = .ok (.iconst 5, 1) := by decide +kernel
theorem d_Wd_mark_67 : decode b_Wd_mark 67 = .ok (.aload_n 0, 1) := by decide +kernel
theorem d_Wd_mark_68 : decode b_Wd_mark 68 = .ok (.getfield 54, 3) := by decide +kernel
theorem d_Wd_mark_71 : decode b_Wd_mark 71 = .ok (.getfield 91, 3) := by decide +kernel
theorem d_Wd_mark_74 : decode b_Wd_mark 74 = .ok (.iastore, 1) := by decide +kernel
theorem d_Wd_mark_75 : decode b_Wd_mark 75 = .ok (.return_, 1) := by decide +kernel
abbrev ru_Wd_mark : Room := { frames := 0, cells := 0, slots := 0, locals := 0 }
def wu_Wd_mark (y : Ly) (Post : St → Prop) (σ : St) (a0 : Nat) : Prop := xS y σ a0 16 0 (sV σ a0 2) (fun s_1 : St => xS y s_1 a0 16 1 (sV s_1 (lk a0 8) 1) (fun s_2 : St => xS y s_2 a0 16 2 (sV s_2 (lk a0 9) 1) (fun s_3 : St => xS y s_3 a0 16 3 (sV s_3 (lk a0 10) 1) (fun s_4 : St => xS y s_4 a0 16 4 (sV s_4 (lk a0 11) 1) (fun s_5 : St => xS y s_5 a0 16 5 (sV s_5 (lk a0 12) 1) (fun s_6 : St => Post s_6))))))
set_option maxHeartbeats 4000000 in
set_option maxRecDepth 100000 in
theorem cu_Wd_mark (l : Launch) (D : va_G) (g : Nat → ClassId) (ad : Nat → Nat) (y : Ly) (Post : St → Prop) (σ : St) (a0 : Nat) (sz : Nat) (h_a0 : cl a0 = 9) (h : wu_Wd_mark y Post σ a0) : Met l y_Wd_mark (mw y_Wd_mark b_Wd_mark 1 (none)) ru_Wd_mark (PC g D [] [.ref (ad a0)] sz (ws g ad y σ)) (va_Qv (fun u : St => Post u) (QW D (va_A (ws g ad y σ) sz) (fun u => ws g ad y u)) (va_A (ws g ad y σ) sz)) 0 0 (va_A (ws g ad y σ) sz) := by
  refine ofV (by decide +kernel) (Nat.le_of_ble_eq_true rfl) ?_
  intro p e s m args below meth c A Q ls H locs G hsz hP hD hS hl hret
  subst hsz
  have hl : lv_has ls 1 [(0, .ref (ad a0))] := hl
  unfold wu_Wd_mark at h
  refine lv_aload_n G.1 G.2.1 d_Wd_mark_0 rfl (lv_at hl 0 rfl) ?_
  refine ugf (v := .ref (yP y a0 16)) G hP h_a0 iWd rfl 16 (by decide) rfl q863 rfl rfl d_Wd_mark_1 ?_
  refine lv_iconst (v := 0) G.1 G.2.1 d_Wd_mark_4 (by decide) ?_
  refine lv_aload_n G.1 G.2.1 d_Wd_mark_5 rfl (lv_at hl 0 rfl) ?_
  refine ugf (v := .int (sV σ a0 2)) G hP h_a0 iWd rfl 2 (by decide) rfl q817 rfl rfl d_Wd_mark_6 ?_
  refine uiast G hP hD hS (kdp h_a0 rfl) (typ h_a0 rfl) h d_Wd_mark_9 (fun s_1 H locs h hP hD hS => ?_)
  refine lv_aload_n G.1 G.2.1 d_Wd_mark_10 rfl (lv_at hl 0 rfl) ?_
  refine ugf (v := .ref (yP y a0 16)) G hP h_a0 iWd rfl 16 (by decide) rfl q863 rfl rfl d_Wd_mark_11 ?_
  refine lv_iconst (v := 1) G.1 G.2.1 d_Wd_mark_14 (by decide) ?_
  refine lv_aload_n G.1 G.2.1 d_Wd_mark_15 rfl (lv_at hl 0 rfl) ?_
  refine ugf (v := .ref (ad (lk a0 8))) G hP h_a0 iWd rfl 8 (by decide) rfl q835 rfl rfl d_Wd_mark_16 ?_
  refine W.eq (g2 := F0 m 19 ls [.ref (ad (lk a0 8)), .int 1, .ref (yP y a0 16)]) rfl ?_
  refine ugf (v := .int (sV s_1 (lk a0 8) 1)) G hP (lk_9_8 h_a0) iIn rfl 1 (by decide) rfl q391 rfl rfl d_Wd_mark_19 ?_
  refine uiast G hP hD hS (kdp h_a0 rfl) (typ h_a0 rfl) h d_Wd_mark_22 (fun s_2 H locs h hP hD hS => ?_)
  refine lv_aload_n G.1 G.2.1 d_Wd_mark_23 rfl (lv_at hl 0 rfl) ?_
  refine ugf (v := .ref (yP y a0 16)) G hP h_a0 iWd rfl 16 (by decide) rfl q863 rfl rfl d_Wd_mark_24 ?_
  refine lv_iconst (v := 2) G.1 G.2.1 d_Wd_mark_27 (by decide) ?_
  refine lv_aload_n G.1 G.2.1 d_Wd_mark_28 rfl (lv_at hl 0 rfl) ?_
  refine ugf (v := .ref (ad (lk a0 9))) G hP h_a0 iWd rfl 9 (by decide) rfl q839 rfl rfl d_Wd_mark_29 ?_
  refine ugf (v := .int (sV s_2 (lk a0 9) 1)) G hP (lk_9_9 h_a0) iIn rfl 1 (by decide) rfl q391 rfl rfl d_Wd_mark_32 ?_
  refine uiast G hP hD hS (kdp h_a0 rfl) (typ h_a0 rfl) h d_Wd_mark_35 (fun s_3 H locs h hP hD hS => ?_)
  refine lv_aload_n G.1 G.2.1 d_Wd_mark_36 rfl (lv_at hl 0 rfl) ?_
  refine ugf (v := .ref (yP y a0 16)) G hP h_a0 iWd rfl 16 (by decide) rfl q863 rfl rfl d_Wd_mark_37 ?_
  refine lv_iconst (v := 3) G.1 G.2.1 d_Wd_mark_40 (by decide) ?_
  refine W.eq (g2 := F0 m 41 ls [.int 3, .ref (yP y a0 16)]) rfl ?_
  refine lv_aload_n G.1 G.2.1 d_Wd_mark_41 rfl (lv_at hl 0 rfl) ?_
  refine ugf (v := .ref (ad (lk a0 10))) G hP h_a0 iWd rfl 10 (by decide) rfl q842 rfl rfl d_Wd_mark_42 ?_
  refine ugf (v := .int (sV s_3 (lk a0 10) 1)) G hP (lk_9_10 h_a0) iIn rfl 1 (by decide) rfl q391 rfl rfl d_Wd_mark_45 ?_
  refine uiast G hP hD hS (kdp h_a0 rfl) (typ h_a0 rfl) h d_Wd_mark_48 (fun s_4 H locs h hP hD hS => ?_)
  refine lv_aload_n G.1 G.2.1 d_Wd_mark_49 rfl (lv_at hl 0 rfl) ?_
  refine ugf (v := .ref (yP y a0 16)) G hP h_a0 iWd rfl 16 (by decide) rfl q863 rfl rfl d_Wd_mark_50 ?_
  refine lv_iconst (v := 4) G.1 G.2.1 d_Wd_mark_53 (by decide) ?_
  refine lv_aload_n G.1 G.2.1 d_Wd_mark_54 rfl (lv_at hl 0 rfl) ?_
  refine ugf (v := .ref (ad (lk a0 11))) G hP h_a0 iWd rfl 11 (by decide) rfl q848 rfl rfl d_Wd_mark_55 ?_
  refine ugf (v := .int (sV s_4 (lk a0 11) 1)) G hP (lk_9_11 h_a0) iIn rfl 1 (by decide) rfl q391 rfl rfl d_Wd_mark_58 ?_
  refine uiast G hP hD hS (kdp h_a0 rfl) (typ h_a0 rfl) h d_Wd_mark_61 (fun s_5 H locs h hP hD hS => ?_)
  refine lv_aload_n G.1 G.2.1 d_Wd_mark_62 rfl (lv_at hl 0 rfl) ?_
  refine W.eq (g2 := F0 m 63 ls [.ref (ad a0)]) rfl ?_
  refine ugf (v := .ref (yP y a0 16)) G hP h_a0 iWd rfl 16 (by decide) rfl q863 rfl rfl d_Wd_mark_63 ?_
  refine lv_iconst (v := 5) G.1 G.2.1 d_Wd_mark_66 (by decide) ?_
  refine lv_aload_n G.1 G.2.1 d_Wd_mark_67 rfl (lv_at hl 0 rfl) ?_
  refine ugf (v := .ref (ad (lk a0 12))) G hP h_a0 iWd rfl 12 (by decide) rfl q853 rfl rfl d_Wd_mark_68 ?_
  refine ugf (v := .int (sV s_5 (lk a0 12) 1)) G hP (lk_9_12 h_a0) iIn rfl 1 (by decide) rfl q391 rfl rfl d_Wd_mark_71 ?_
  refine uiast G hP hD hS (kdp h_a0 rfl) (typ h_a0 rfl) h d_Wd_mark_74 (fun s_6 H locs h hP hD hS => ?_)
  exact hret _ _ _ _ _ _ ls h hP hD hS (Nat.le_refl _) (Nat.le_refl _) d_Wd_mark_75
def y_Wo_isLetter : MethodName := ⟨"ClassWorks$Words", "isLetter", "(I)Z"⟩
abbrev b_Wo_isLetter : ByteArray := prog_10_method_8_code
theorem d_Wo_isLetter_0 : decode b_Wo_isLetter 0 = .ok (.iload_n 0, 1) := by decide +kernel
theorem d_Wo_isLetter_1 : decode b_Wo_isLetter 1 = .ok (.bipush 97, 2) := by decide +kernel
theorem d_Wo_isLetter_3 : decode b_Wo_isLetter 3 = .ok (.if_icmp .lt 9, 3) := by decide +kernel
theorem d_Wo_isLetter_6 : decode b_Wo_isLetter 6 = .ok (.iload_n 0, 1) := by decide +kernel
theorem d_Wo_isLetter_7 : decode b_Wo_isLetter 7 = .ok (.bipush 122, 2) := by decide +kernel
theorem d_Wo_isLetter_9 : decode b_Wo_isLetter 9 = .ok (.if_icmp .le 21, 3) := by decide +kernel
theorem d_Wo_isLetter_12 : decode b_Wo_isLetter 12 = .ok (.iload_n 0, 1) := by decide +kernel
theorem d_Wo_isLetter_13 : decode b_Wo_isLetter 13 = .ok (.bipush 65, 2) := by decide +kernel
theorem d_Wo_isLetter_15 : decode b_Wo_isLetter 15 = .ok (.if_icmp .lt 9, 3) := by decide +kernel
theorem d_Wo_isLetter_18 : decode b_Wo_isLetter 18 = .ok (.iload_n 0, 1) := by decide +kernel
theorem d_Wo_isLetter_19 : decode b_Wo_isLetter 19 = .ok (.bipush 90, 2) := by decide +kernel
theorem d_Wo_isLetter_21 : decode b_Wo_isLetter 21 = .ok (.if_icmp .le 9, 3) := by decide +kernel
theorem d_Wo_isLetter_24 : decode b_Wo_isLetter 24 = .ok (.iload_n 0, 1) := by decide +kernel
theorem d_Wo_isLetter_25 : decode b_Wo_isLetter 25 = .ok (.bipush 95, 2) := by decide +kernel
theorem d_Wo_isLetter_27 : decode b_Wo_isLetter 27 = .ok (.if_icmp .ne 7, 3) := by decide +kernel
theorem d_Wo_isLetter_30 : decode b_Wo_isLetter 30 = .ok (.iconst 1, 1) := by decide +kernel
theorem d_Wo_isLetter_31 : decode b_Wo_isLetter 31 = .ok (.goto 4, 3) := by decide +kernel
theorem d_Wo_isLetter_34 : decode b_Wo_isLetter 34 = .ok (.iconst 0, 1) := by decide +kernel
theorem d_Wo_isLetter_35 : decode b_Wo_isLetter 35 = .ok (.ireturn, 1) := by decide +kernel
abbrev ru_Wo_isLetter : Room := { frames := 0, cells := 0, slots := 0, locals := 0 }
def wj_Wo_isLetter_35 (y : Ly) (Post : St → Int32 → Prop) (s_j35 : St) (z0j35 : Int32) : Prop := (nb z0j35 ∧ Post s_j35 z0j35)
def wj_Wo_isLetter_30 (y : Ly) (Post : St → Int32 → Prop) (s_j30 : St) : Prop := wj_Wo_isLetter_35 y Post s_j30 1
def wj_Wo_isLetter_24 (y : Ly) (Post : St → Int32 → Prop) (s_j24 : St) (x0j24 : Int32) : Prop := ((¬ x0j24 = 95 → wj_Wo_isLetter_35 y Post s_j24 0) ∧ (x0j24 = 95 → wj_Wo_isLetter_30 y Post s_j24))
def wj_Wo_isLetter_12 (y : Ly) (Post : St → Int32 → Prop) (s_j12 : St) (x0j12 : Int32) : Prop := ((x0j12 < 65 → wj_Wo_isLetter_24 y Post s_j12 x0j12) ∧ (¬ (x0j12 < 65) → ((x0j12 ≤ 90 → wj_Wo_isLetter_30 y Post s_j12) ∧ (¬ (x0j12 ≤ 90) → wj_Wo_isLetter_24 y Post s_j12 x0j12))))
def wu_Wo_isLetter (y : Ly) (Post : St → Int32 → Prop) (σ : St) (v0 : Int32) : Prop := ((v0 < 97 → wj_Wo_isLetter_12 y Post σ v0) ∧ (¬ (v0 < 97) → ((v0 ≤ 122 → wj_Wo_isLetter_30 y Post σ) ∧ (¬ (v0 ≤ 122) → wj_Wo_isLetter_12 y Post σ v0))))
set_option maxHeartbeats 4000000 in
set_option maxRecDepth 100000 in
theorem cu_Wo_isLetter (l : Launch) (D : va_G) (g : Nat → ClassId) (ad : Nat → Nat) (y : Ly) (Post : St → Int32 → Prop) (σ : St) (v0 : Int32) (sz : Nat) (h : wu_Wo_isLetter y Post σ v0) : Met l y_Wo_isLetter (mw y_Wo_isLetter b_Wo_isLetter 1 (some (.boolean))) ru_Wo_isLetter (PC g D [] [.int v0] sz (ws g ad y σ)) (va_Qi (fun (r : Int32) (u : St) => Post u r) (QW D (va_A (ws g ad y σ) sz) (fun u => ws g ad y u)) (va_A (ws g ad y σ) sz)) 0 0 (va_A (ws g ad y σ) sz) := by
  refine ofZ (by decide +kernel) (Nat.le_of_ble_eq_true rfl) ?_
  intro p e s m args below meth c A Q ls H locs G hsz hP hD hS hl hret
  subst hsz
  have hl : lv_has ls 1 [(0, .int v0)] := hl
  unfold wu_Wo_isLetter at h
  refine lv_iload_n G.1 G.2.1 d_Wo_isLetter_0 rfl (lv_at hl 0 rfl) ?_
  refine lv_bipush (v := 97) G.1 G.2.1 d_Wo_isLetter_1 (by decide) ?_
  have J_35 : ∀ (s_j35 : St) (z0j35 : Int32) (H : Heap) (locs : List Loc), wj_Wo_isLetter_35 y Post s_j35 z0j35 → va_P D CL (ws g ad y s_j35) H → va_D A (ws g ad y s_j35) → va_S A s.heap H locs → ∀ ls, lv_has ls 1 [] → W p l e ru_Wo_isLetter s m args below meth c H locs 0 0 Q (F0 m 35 ls [.int z0j35]) := by
    intro s_j35 z0j35 H locs h hP hD hS ls hl
    unfold wj_Wo_isLetter_35 at h
    exact hret _ _ _ _ _ _ _ ls (nb_n h.1) h.2 hP hD hS (Nat.le_refl _) (Nat.le_refl _) d_Wo_isLetter_35
  have J_30 : ∀ (s_j30 : St) (H : Heap) (locs : List Loc), wj_Wo_isLetter_30 y Post s_j30 → va_P D CL (ws g ad y s_j30) H → va_D A (ws g ad y s_j30) → va_S A s.heap H locs → ∀ ls, lv_has ls 1 [] → W p l e ru_Wo_isLetter s m args below meth c H locs 0 0 Q (F0 m 30 ls []) := by
    intro s_j30 H locs h hP hD hS ls hl
    unfold wj_Wo_isLetter_30 at h
    refine lv_iconst (v := 1) G.1 G.2.1 d_Wo_isLetter_30 (by decide) ?_
    refine lv_goto (tgt := 35) G.1 G.2.1 d_Wo_isLetter_31 (by decide) ?_
    exact J_35 s_j30 1 H locs h hP hD hS ls (lv_sub hl [] rfl)
  have J_12 : ∀ (s_j12 : St) (x0j12 : Int32) (H : Heap) (locs : List Loc), wj_Wo_isLetter_12 y Post s_j12 x0j12 → va_P D CL (ws g ad y s_j12) H → va_D A (ws g ad y s_j12) → va_S A s.heap H locs → ∀ ls, lv_has ls 1 [(0, .int x0j12)] → W p l e ru_Wo_isLetter s m args below meth c H locs 0 0 Q (F0 m 12 ls []) := by
    intro s_j12 x0j12 H locs h hP hD hS ls hl
    unfold wj_Wo_isLetter_12 at h
    refine lv_iload_n G.1 G.2.1 d_Wo_isLetter_12 rfl (lv_at hl 0 rfl) ?_
    refine lv_bipush (v := 65) G.1 G.2.1 d_Wo_isLetter_13 (by decide) ?_
    have J_24 : ∀ (s_j24 : St) (x0j24 : Int32) (H : Heap) (locs : List Loc), wj_Wo_isLetter_24 y Post s_j24 x0j24 → va_P D CL (ws g ad y s_j24) H → va_D A (ws g ad y s_j24) → va_S A s.heap H locs → ∀ ls, lv_has ls 1 [(0, .int x0j24)] → W p l e ru_Wo_isLetter s m args below meth c H locs 0 0 Q (F0 m 24 ls []) := by
      intro s_j24 x0j24 H locs h hP hD hS ls hl
      unfold wj_Wo_isLetter_24 at h
      refine lv_iload_n G.1 G.2.1 d_Wo_isLetter_24 rfl (lv_at hl 0 rfl) ?_
      refine lv_bipush (v := 95) G.1 G.2.1 d_Wo_isLetter_25 (by decide) ?_
      refine lv_icmp_ne (tgt := 34) G.1 G.2.1 d_Wo_isLetter_27 (by decide) (fun c27 => ?_) (fun c27 => ?_)
      · skip
        have h := h.1 c27
        refine lv_iconst (v := 0) G.1 G.2.1 d_Wo_isLetter_34 (by decide) ?_
        exact J_35 s_j24 0 H locs h hP hD hS ls (lv_sub hl [] rfl)
      · skip
        have h := h.2 c27
        exact J_30 s_j24 H locs h hP hD hS ls (lv_sub hl [] rfl)
    refine lv_icmp_lt (tgt := 24) G.1 G.2.1 d_Wo_isLetter_15 (by decide) (fun c15 => ?_) (fun c15 => ?_)
    · skip
      have h := h.1 c15
      exact J_24 s_j12 x0j12 H locs h hP hD hS ls (lv_sub hl [0] rfl)
    · skip
      have h := h.2 c15
      refine lv_iload_n G.1 G.2.1 d_Wo_isLetter_18 rfl (lv_at hl 0 rfl) ?_
      refine lv_bipush (v := 90) G.1 G.2.1 d_Wo_isLetter_19 (by decide) ?_
      refine lv_icmp_le (tgt := 30) G.1 G.2.1 d_Wo_isLetter_21 (by decide) (fun c21 => ?_) (fun c21 => ?_)
      · skip
        have h := h.1 c21
        exact J_30 s_j12 H locs h hP hD hS ls (lv_sub hl [] rfl)
      · skip
        have h := h.2 c21
        exact J_24 s_j12 x0j12 H locs h hP hD hS ls (lv_sub hl [0] rfl)
  refine lv_icmp_lt (tgt := 12) G.1 G.2.1 d_Wo_isLetter_3 (by decide) (fun c3 => ?_) (fun c3 => ?_)
  · skip
    have h := h.1 c3
    exact J_12 σ v0 H locs h hP hD hS ls (lv_sub hl [0] rfl)
  · skip
    have h := h.2 c3
    refine lv_iload_n G.1 G.2.1 d_Wo_isLetter_6 rfl (lv_at hl 0 rfl) ?_
    refine lv_bipush (v := 122) G.1 G.2.1 d_Wo_isLetter_7 (by decide) ?_
    refine lv_icmp_le (tgt := 30) G.1 G.2.1 d_Wo_isLetter_9 (by decide) (fun c9 => ?_) (fun c9 => ?_)
    · skip
      have h := h.1 c9
      exact J_30 σ H locs h hP hD hS ls (lv_sub hl [] rfl)
    · skip
      have h := h.2 c9
      exact J_12 σ v0 H locs h hP hD hS ls (lv_sub hl [0] rfl)
def y_Wo_isDigit : MethodName := ⟨"ClassWorks$Words", "isDigit", "(I)Z"⟩
abbrev b_Wo_isDigit : ByteArray := prog_10_method_9_code
theorem d_Wo_isDigit_0 : decode b_Wo_isDigit 0 = .ok (.iload_n 0, 1) := by decide +kernel
theorem d_Wo_isDigit_1 : decode b_Wo_isDigit 1 = .ok (.bipush 48, 2) := by decide +kernel
theorem d_Wo_isDigit_3 : decode b_Wo_isDigit 3 = .ok (.if_icmp .lt 13, 3) := by decide +kernel
theorem d_Wo_isDigit_6 : decode b_Wo_isDigit 6 = .ok (.iload_n 0, 1) := by decide +kernel
theorem d_Wo_isDigit_7 : decode b_Wo_isDigit 7 = .ok (.bipush 57, 2) := by decide +kernel
theorem d_Wo_isDigit_9 : decode b_Wo_isDigit 9 = .ok (.if_icmp .gt 7, 3) := by decide +kernel
theorem d_Wo_isDigit_12 : decode b_Wo_isDigit 12 = .ok (.iconst 1, 1) := by decide +kernel
theorem d_Wo_isDigit_13 : decode b_Wo_isDigit 13 = .ok (.goto 4, 3) := by decide +kernel
theorem d_Wo_isDigit_16 : decode b_Wo_isDigit 16 = .ok (.iconst 0, 1) := by decide +kernel
theorem d_Wo_isDigit_17 : decode b_Wo_isDigit 17 = .ok (.ireturn, 1) := by decide +kernel
abbrev ru_Wo_isDigit : Room := { frames := 0, cells := 0, slots := 0, locals := 0 }
def wj_Wo_isDigit_17 (y : Ly) (Post : St → Int32 → Prop) (s_j17 : St) (z0j17 : Int32) : Prop := (nb z0j17 ∧ Post s_j17 z0j17)
def wj_Wo_isDigit_16 (y : Ly) (Post : St → Int32 → Prop) (s_j16 : St) : Prop := wj_Wo_isDigit_17 y Post s_j16 0
def wu_Wo_isDigit (y : Ly) (Post : St → Int32 → Prop) (σ : St) (v0 : Int32) : Prop := ((v0 < 48 → wj_Wo_isDigit_16 y Post σ) ∧ (¬ (v0 < 48) → ((57 < v0 → wj_Wo_isDigit_16 y Post σ) ∧ (¬ (57 < v0) → wj_Wo_isDigit_17 y Post σ 1))))
set_option maxHeartbeats 4000000 in
set_option maxRecDepth 100000 in
theorem cu_Wo_isDigit (l : Launch) (D : va_G) (g : Nat → ClassId) (ad : Nat → Nat) (y : Ly) (Post : St → Int32 → Prop) (σ : St) (v0 : Int32) (sz : Nat) (h : wu_Wo_isDigit y Post σ v0) : Met l y_Wo_isDigit (mw y_Wo_isDigit b_Wo_isDigit 1 (some (.boolean))) ru_Wo_isDigit (PC g D [] [.int v0] sz (ws g ad y σ)) (va_Qi (fun (r : Int32) (u : St) => Post u r) (QW D (va_A (ws g ad y σ) sz) (fun u => ws g ad y u)) (va_A (ws g ad y σ) sz)) 0 0 (va_A (ws g ad y σ) sz) := by
  refine ofZ (by decide +kernel) (Nat.le_of_ble_eq_true rfl) ?_
  intro p e s m args below meth c A Q ls H locs G hsz hP hD hS hl hret
  subst hsz
  have hl : lv_has ls 1 [(0, .int v0)] := hl
  unfold wu_Wo_isDigit at h
  refine lv_iload_n G.1 G.2.1 d_Wo_isDigit_0 rfl (lv_at hl 0 rfl) ?_
  refine lv_bipush (v := 48) G.1 G.2.1 d_Wo_isDigit_1 (by decide) ?_
  have J_17 : ∀ (s_j17 : St) (z0j17 : Int32) (H : Heap) (locs : List Loc), wj_Wo_isDigit_17 y Post s_j17 z0j17 → va_P D CL (ws g ad y s_j17) H → va_D A (ws g ad y s_j17) → va_S A s.heap H locs → ∀ ls, lv_has ls 1 [] → W p l e ru_Wo_isDigit s m args below meth c H locs 0 0 Q (F0 m 17 ls [.int z0j17]) := by
    intro s_j17 z0j17 H locs h hP hD hS ls hl
    unfold wj_Wo_isDigit_17 at h
    exact hret _ _ _ _ _ _ _ ls (nb_n h.1) h.2 hP hD hS (Nat.le_refl _) (Nat.le_refl _) d_Wo_isDigit_17
  have J_16 : ∀ (s_j16 : St) (H : Heap) (locs : List Loc), wj_Wo_isDigit_16 y Post s_j16 → va_P D CL (ws g ad y s_j16) H → va_D A (ws g ad y s_j16) → va_S A s.heap H locs → ∀ ls, lv_has ls 1 [] → W p l e ru_Wo_isDigit s m args below meth c H locs 0 0 Q (F0 m 16 ls []) := by
    intro s_j16 H locs h hP hD hS ls hl
    unfold wj_Wo_isDigit_16 at h
    refine lv_iconst (v := 0) G.1 G.2.1 d_Wo_isDigit_16 (by decide) ?_
    exact J_17 s_j16 0 H locs h hP hD hS ls (lv_sub hl [] rfl)
  refine lv_icmp_lt (tgt := 16) G.1 G.2.1 d_Wo_isDigit_3 (by decide) (fun c3 => ?_) (fun c3 => ?_)
  · skip
    have h := h.1 c3
    exact J_16 σ H locs h hP hD hS ls (lv_sub hl [] rfl)
  · skip
    have h := h.2 c3
    refine lv_iload_n G.1 G.2.1 d_Wo_isDigit_6 rfl (lv_at hl 0 rfl) ?_
    refine lv_bipush (v := 57) G.1 G.2.1 d_Wo_isDigit_7 (by decide) ?_
    refine lv_icmp_gt (tgt := 16) G.1 G.2.1 d_Wo_isDigit_9 (by decide) (fun c9 => ?_) (fun c9 => ?_)
    · skip
      have h := h.1 c9
      exact J_16 σ H locs h hP hD hS ls (lv_sub hl [] rfl)
    · skip
      have h := h.2 c9
      refine lv_iconst (v := 1) G.1 G.2.1 d_Wo_isDigit_12 (by decide) ?_
      refine lv_goto (tgt := 17) G.1 G.2.1 d_Wo_isDigit_13 (by decide) ?_
      exact J_17 σ 1 H locs h hP hD hS ls (lv_sub hl [] rfl)
def y_Wo_add : MethodName := ⟨"ClassWorks$Words", "add", "(III)V"⟩
abbrev b_Wo_add : ByteArray := prog_10_method_3_code
theorem q547 : Cond.fieldLink "ClassWorks$Words" 9 "ClassWorks$Words" "kind" "[I" ∈ lw_ok := lw_okmem (List.mem_of_getElem? (i := 547) (by decide +kernel)) rfl
theorem q557 : Cond.fieldLink "ClassWorks$Words" 25 "ClassWorks$Words" "count" "I" ∈ lw_ok := lw_okmem (List.mem_of_getElem? (i := 557) (by decide +kernel)) rfl
theorem q549 : Cond.fieldLink "ClassWorks$Words" 15 "ClassWorks$Words" "value" "[I" ∈ lw_ok := lw_okmem (List.mem_of_getElem? (i := 549) (by decide +kernel)) rfl
theorem q551 : Cond.fieldLink "ClassWorks$Words" 18 "ClassWorks$Words" "at" "[I" ∈ lw_ok := lw_okmem (List.mem_of_getElem? (i := 551) (by decide +kernel)) rfl
theorem d_Wo_add_0 : decode b_Wo_add 0 = .ok (.aload_n 0, 1) := by decide +kernel
theorem d_Wo_add_1 : decode b_Wo_add 1 = .ok (.getfield 9, 3) := by decide +kernel
theorem d_Wo_add_4 : decode b_Wo_add 4 = .ok (.aload_n 0, 1) := by decide +kernel
theorem d_Wo_add_5 : decode b_Wo_add 5 = .ok (.getfield 25, 3) := by decide +kernel
theorem d_Wo_add_8 : decode b_Wo_add 8 = .ok (.iload_n 1, 1) := by decide +kernel
theorem d_Wo_add_9 : decode b_Wo_add 9 = .ok (.iastore, 1) := by decide +kernel
theorem d_Wo_add_10 : decode b_Wo_add 10 = .ok (.aload_n 0, 1) := by decide +kernel
theorem d_Wo_add_11 : decode b_Wo_add 11 = .ok (.getfield 15, 3) := by decide +kernel
theorem d_Wo_add_14 : decode b_Wo_add 14 = .ok (.aload_n 0, 1) := by decide +kernel
theorem d_Wo_add_15 : decode b_Wo_add 15 = .ok (.getfield 25, 3) := by decide +kernel
theorem d_Wo_add_18 : decode b_Wo_add 18 = .ok (.iload_n 2, 1) := by decide +kernel
theorem d_Wo_add_19 : decode b_Wo_add 19 = .ok (.iastore, 1) := by decide +kernel
theorem d_Wo_add_20 : decode b_Wo_add 20 = .ok (.aload_n 0, 1) := by decide +kernel
theorem d_Wo_add_21 : decode b_Wo_add 21 = .ok (.getfield 18, 3) := by decide +kernel
theorem d_Wo_add_24 : decode b_Wo_add 24 = .ok (.aload_n 0, 1) := by decide +kernel
theorem d_Wo_add_25 : decode b_Wo_add 25 = .ok (.getfield 25, 3) := by decide +kernel
theorem d_Wo_add_28 : decode b_Wo_add 28 = .ok (.iload_n 3, 1) := by decide +kernel
theorem d_Wo_add_29 : decode b_Wo_add 29 = .ok (.iastore, 1) := by decide +kernel
theorem d_Wo_add_30 : decode b_Wo_add 30 = .ok (.aload_n 0, 1) := by decide +kernel
theorem d_Wo_add_31 : decode b_Wo_add 31 = .ok (.dup, 1) := by decide +kernel
theorem d_Wo_add_32 : decode b_Wo_add 32 = .ok (.getfield 25, 3) := by decide +kernel
theorem d_Wo_add_35 : decode b_Wo_add 35 = .ok (.iconst 1, 1) := by decide +kernel
theorem d_Wo_add_36 : decode b_Wo_add 36 = .ok (.iadd, 1) := by decide +kernel
theorem d_Wo_add_37 : decode b_Wo_add 37 = .ok (.putfield 25, 3) := by decide +kernel
theorem d_Wo_add_40 : decode b_Wo_add 40 = .ok (.return_, 1) := by decide +kernel
abbrev ru_Wo_add : Room := { frames := 0, cells := 0, slots := 0, locals := 0 }
def wu_Wo_add (y : Ly) (Post : St → Prop) (σ : St) (a0 : Nat) (v1 : Int32) (v2 : Int32) (v3 : Int32) : Prop := xS y σ a0 0 (sV σ a0 5) v1 (fun s_1 : St => xS y s_1 a0 1 (sV s_1 a0 5) v2 (fun s_2 : St => xS y s_2 a0 2 (sV s_2 a0 5) v3 (fun s_3 : St => xP (uV s_3 a0 5 ((sV s_3 a0 5) + 1)) (fun s_4 : St => Post s_4))))
set_option maxHeartbeats 4000000 in
set_option maxRecDepth 100000 in
theorem cu_Wo_add (l : Launch) (D : va_G) (g : Nat → ClassId) (ad : Nat → Nat) (y : Ly) (Post : St → Prop) (σ : St) (a0 : Nat) (v1 : Int32) (v2 : Int32) (v3 : Int32) (sz : Nat) (h_a0 : cl a0 = 8) (h : wu_Wo_add y Post σ a0 v1 v2 v3) : Met l y_Wo_add (mw y_Wo_add b_Wo_add 4 (none)) ru_Wo_add (PC g D [] [.ref (ad a0), .int v1, .int v2, .int v3] sz (ws g ad y σ)) (va_Qv (fun u : St => Post u) (QW D (va_A (ws g ad y σ) sz) (fun u => ws g ad y u)) (va_A (ws g ad y σ) sz)) 0 0 (va_A (ws g ad y σ) sz) := by
  refine ofV (by decide +kernel) (Nat.le_of_ble_eq_true rfl) ?_
  intro p e s m args below meth c A Q ls H locs G hsz hP hD hS hl hret
  subst hsz
  have hl : lv_has ls 4 [(0, .ref (ad a0)), (1, .int v1), (2, .int v2), (3, .int v3)] := hl
  unfold wu_Wo_add at h
  refine lv_aload_n G.1 G.2.1 d_Wo_add_0 rfl (lv_at hl 0 rfl) ?_
  refine ugf (v := .ref (yP y a0 0)) G hP h_a0 iWo rfl 0 (by decide) rfl q547 rfl rfl d_Wo_add_1 ?_
  refine lv_aload_n G.1 G.2.1 d_Wo_add_4 rfl (lv_at hl 0 rfl) ?_
  refine ugf (v := .int (sV σ a0 5)) G hP h_a0 iWo rfl 5 (by decide) rfl q557 rfl rfl d_Wo_add_5 ?_
  refine lv_iload_n G.1 G.2.1 d_Wo_add_8 rfl (lv_at hl 1 rfl) ?_
  refine uiast G hP hD hS (kdp h_a0 rfl) (typ h_a0 rfl) h d_Wo_add_9 (fun s_1 H locs h hP hD hS => ?_)
  refine lv_aload_n G.1 G.2.1 d_Wo_add_10 rfl (lv_at hl 0 rfl) ?_
  refine ugf (v := .ref (yP y a0 1)) G hP h_a0 iWo rfl 1 (by decide) rfl q549 rfl rfl d_Wo_add_11 ?_
  refine lv_aload_n G.1 G.2.1 d_Wo_add_14 rfl (lv_at hl 0 rfl) ?_
  refine ugf (v := .int (sV s_1 a0 5)) G hP h_a0 iWo rfl 5 (by decide) rfl q557 rfl rfl d_Wo_add_15 ?_
  refine lv_iload_n G.1 G.2.1 d_Wo_add_18 rfl (lv_at hl 2 rfl) ?_
  refine W.eq (g2 := F0 m 19 ls [.int v2, .int (sV s_1 a0 5), .ref (yP y a0 1)]) rfl ?_
  refine uiast G hP hD hS (kdp h_a0 rfl) (typ h_a0 rfl) h d_Wo_add_19 (fun s_2 H locs h hP hD hS => ?_)
  refine lv_aload_n G.1 G.2.1 d_Wo_add_20 rfl (lv_at hl 0 rfl) ?_
  refine ugf (v := .ref (yP y a0 2)) G hP h_a0 iWo rfl 2 (by decide) rfl q551 rfl rfl d_Wo_add_21 ?_
  refine lv_aload_n G.1 G.2.1 d_Wo_add_24 rfl (lv_at hl 0 rfl) ?_
  refine ugf (v := .int (sV s_2 a0 5)) G hP h_a0 iWo rfl 5 (by decide) rfl q557 rfl rfl d_Wo_add_25 ?_
  refine lv_iload_n G.1 G.2.1 d_Wo_add_28 rfl (lv_at hl 3 rfl) ?_
  refine uiast G hP hD hS (kdp h_a0 rfl) (typ h_a0 rfl) h d_Wo_add_29 (fun s_3 H locs h hP hD hS => ?_)
  refine lv_aload_n G.1 G.2.1 d_Wo_add_30 rfl (lv_at hl 0 rfl) ?_
  refine lv_dup G.1 G.2.1 d_Wo_add_31 rfl ?_
  refine ugf (v := .int (sV s_3 a0 5)) G hP h_a0 iWo rfl 5 (by decide) rfl q557 rfl rfl d_Wo_add_32 ?_
  refine lv_iconst (v := 1) G.1 G.2.1 d_Wo_add_35 (by decide) ?_
  refine lv_iadd G.1 G.2.1 d_Wo_add_36 ?_
  refine W.eq (g2 := F0 m 37 ls [.int ((sV s_3 a0 5) + 1), .ref (ad a0)]) rfl ?_
  refine upf G hP hD hS h 5 putV h_a0 iWo tWo tWo_ok nWo rfl (by decide) rfl q557 rfl rfl fV rfl rfl d_Wo_add_37 (fun s_4 H locs h hP hD hS => ?_)
  exact hret _ _ _ _ _ _ ls h hP hD hS (Nat.le_refl _) (Nat.le_refl _) d_Wo_add_40
theorem q558 : Cond.fieldLink "ClassWorks$Words" 35 "ClassWorks$Words" "text" "[B" ∈ lw_ok := lw_okmem (List.mem_of_getElem? (i := 558) (by decide +kernel)) rfl
theorem q559 : Cond.fieldLink "ClassWorks$Words" 28 "ClassWorks$Words" "end" "I" ∈ lw_ok := lw_okmem (List.mem_of_getElem? (i := 559) (by decide +kernel)) rfl
theorem q1292 : Cond.constantLong "ClassWorks$Words" 74 (-2147483648) ∈ lw_ok := lw_okmem (List.mem_of_getElem? (i := 1292) (by decide +kernel)) rfl
theorem q1293 : Cond.constantLong "ClassWorks$Words" 76 (2147483647) ∈ lw_ok := lw_okmem (List.mem_of_getElem? (i := 1293) (by decide +kernel)) rfl
theorem q1283 : Cond.methodLink "ClassWorks$Words" 43 y_Wo_add ∈ lw_ok := lw_okmem (List.mem_of_getElem? (i := 1283) (by decide +kernel)) rfl
theorem q1286 : Cond.code y_Wo_add b_Wo_add 4 (none) ∈ lw_ok := lw_okmem (List.mem_of_getElem? (i := 1286) (by decide +kernel)) rfl
theorem q339 : Cond.initialized "ClassWorks$Words" ∈ lw_ok := lw_okmem (List.mem_of_getElem? (i := 339) (by decide +kernel)) rfl
theorem q1285 : Cond.instanceMethod y_Wo_add ∈ lw_ok := lw_okmem (List.mem_of_getElem? (i := 1285) (by decide +kernel)) rfl
theorem q11 : Cond.selects y_Wo_add.cls y_Wo_add y_Wo_add ∈ lw_ok := lw_okmem (List.mem_of_getElem? (i := 11) (by decide +kernel)) rfl
theorem w9_Wo_add : CWv y_Wo_add b_Wo_add 4 (none) 3 ∧ Cond.instanceMethod y_Wo_add ∈ lw_ok ∧ Cond.selects y_Wo_add.cls y_Wo_add y_Wo_add ∈ lw_ok := ⟨⟨q1286, q339, by decide +kernel, by decide +kernel, by decide +kernel⟩, q1285, q11⟩
theorem q1279 : Cond.methodLink "ClassWorks$Words" 54 y_Wo_isDigit ∈ lw_ok := lw_okmem (List.mem_of_getElem? (i := 1279) (by decide +kernel)) rfl
theorem q1281 : Cond.code y_Wo_isDigit b_Wo_isDigit 1 (some (.boolean)) ∈ lw_ok := lw_okmem (List.mem_of_getElem? (i := 1281) (by decide +kernel)) rfl
theorem q1280 : Cond.static y_Wo_isDigit ∈ lw_ok := lw_okmem (List.mem_of_getElem? (i := 1280) (by decide +kernel)) rfl
theorem w9_Wo_isDigit : CWv y_Wo_isDigit b_Wo_isDigit 1 (some (.boolean)) 1 ∧ Cond.static y_Wo_isDigit ∈ lw_ok := ⟨⟨q1281, q339, by decide +kernel, by decide +kernel, by decide +kernel⟩, q1280⟩
def y_Wo_numberEnd : MethodName := ⟨"ClassWorks$Words", "numberEnd", "(I)I"⟩
abbrev b_Wo_numberEnd : ByteArray := prog_10_method_6_code
theorem q1291 : Cond.constantLong "ClassWorks$Words" 72 (10) ∈ lw_ok := lw_okmem (List.mem_of_getElem? (i := 1291) (by decide +kernel)) rfl
theorem d_Wo_numberEnd_0 : decode b_Wo_numberEnd 0 = .ok (.aload_n 0, 1) := by decide +kernel
theorem d_Wo_numberEnd_1 : decode b_Wo_numberEnd 1 = .ok (.getfield 35, 3) := by decide +kernel
theorem d_Wo_numberEnd_4 : decode b_Wo_numberEnd 4 = .ok (.iload_n 1, 1) := by decide +kernel
theorem d_Wo_numberEnd_5 : decode b_Wo_numberEnd 5 = .ok (.baload, 1) := by decide +kernel
theorem d_Wo_numberEnd_6 : decode b_Wo_numberEnd 6 = .ok (.bipush 45, 2) := by decide +kernel
theorem d_Wo_numberEnd_8 : decode b_Wo_numberEnd 8 = .ok (.if_icmp .ne 7, 3) := by decide +kernel
theorem d_Wo_numberEnd_11 : decode b_Wo_numberEnd 11 = .ok (.iconst 1, 1) := by decide +kernel
theorem d_Wo_numberEnd_12 : decode b_Wo_numberEnd 12 = .ok (.goto 4, 3) := by decide +kernel
theorem d_Wo_numberEnd_15 : decode b_Wo_numberEnd 15 = .ok (.iconst 0, 1) := by decide +kernel
theorem d_Wo_numberEnd_16 : decode b_Wo_numberEnd 16 = .ok (.istore_n 2, 1) := by decide +kernel
theorem d_Wo_numberEnd_17 : decode b_Wo_numberEnd 17 = .ok (.iload_n 2, 1) := by decide +kernel
theorem d_Wo_numberEnd_18 : decode b_Wo_numberEnd 18 = .ok (.ifCond .eq 9, 3) := by decide +kernel
theorem d_Wo_numberEnd_21 : decode b_Wo_numberEnd 21 = .ok (.iload_n 1, 1) := by decide +kernel
theorem d_Wo_numberEnd_22 : decode b_Wo_numberEnd 22 = .ok (.iconst 1, 1) := by decide +kernel
theorem d_Wo_numberEnd_23 : decode b_Wo_numberEnd 23 = .ok (.iadd, 1) := by decide +kernel
theorem d_Wo_numberEnd_24 : decode b_Wo_numberEnd 24 = .ok (.goto 4, 3) := by decide +kernel
theorem d_Wo_numberEnd_27 : decode b_Wo_numberEnd 27 = .ok (.iload_n 1, 1) := by decide +kernel
theorem d_Wo_numberEnd_28 : decode b_Wo_numberEnd 28 = .ok (.istore_n 3, 1) := by decide +kernel
theorem d_Wo_numberEnd_29 : decode b_Wo_numberEnd 29 = .ok (.iload_n 3, 1) := by decide +kernel
theorem d_Wo_numberEnd_30 : decode b_Wo_numberEnd 30 = .ok (.istore 4, 2) := by decide +kernel
theorem d_Wo_numberEnd_32 : decode b_Wo_numberEnd 32 = .ok (.lconst 0, 1) := by decide +kernel
theorem d_Wo_numberEnd_33 : decode b_Wo_numberEnd 33 = .ok (.lstore 5, 2) := by decide +kernel
theorem d_Wo_numberEnd_35 : decode b_Wo_numberEnd 35 = .ok (.iload 4, 2) := by decide +kernel
theorem d_Wo_numberEnd_37 : decode b_Wo_numberEnd 37 = .ok (.aload_n 0, 1) := by decide +kernel
theorem d_Wo_numberEnd_38 : decode b_Wo_numberEnd 38 = .ok (.getfield 28, 3) := by decide +kernel
theorem d_Wo_numberEnd_41 : decode b_Wo_numberEnd 41 = .ok (.if_icmp .ge 56, 3) := by decide +kernel
theorem d_Wo_numberEnd_44 : decode b_Wo_numberEnd 44 = .ok (.aload_n 0, 1) := by decide +kernel
theorem d_Wo_numberEnd_45 : decode b_Wo_numberEnd 45 = .ok (.getfield 35, 3) := by decide +kernel
theorem d_Wo_numberEnd_48 : decode b_Wo_numberEnd 48 = .ok (.iload 4, 2) := by decide +kernel
theorem d_Wo_numberEnd_50 : decode b_Wo_numberEnd 50 = .ok (.baload, 1) := by decide +kernel
theorem d_Wo_numberEnd_51 : decode b_Wo_numberEnd 51 = .ok (.invokestatic 54, 3) := by decide +kernel
theorem d_Wo_numberEnd_54 : decode b_Wo_numberEnd 54 = .ok (.ifCond .eq 43, 3) := by decide +kernel
theorem d_Wo_numberEnd_57 : decode b_Wo_numberEnd 57 = .ok (.iload 4, 2) := by decide +kernel
theorem d_Wo_numberEnd_59 : decode b_Wo_numberEnd 59 = .ok (.iload_n 3, 1) := by decide +kernel
theorem d_Wo_numberEnd_60 : decode b_Wo_numberEnd 60 = .ok (.isub, 1) := by decide +kernel
theorem d_Wo_numberEnd_61 : decode b_Wo_numberEnd 61 = .ok (.bipush 10, 2) := by decide +kernel
theorem d_Wo_numberEnd_63 : decode b_Wo_numberEnd 63 = .ok (.if_icmp .ge 24, 3) := by decide +kernel
theorem d_Wo_numberEnd_66 : decode b_Wo_numberEnd 66 = .ok (.lload 5, 2) := by decide +kernel
theorem d_Wo_numberEnd_68 : decode b_Wo_numberEnd 68 = .ok (.ldc2_w 72, 3) := by decide +kernel
theorem d_Wo_numberEnd_71 : decode b_Wo_numberEnd 71 = .ok (.lmul, 1) := by decide +kernel
theorem d_Wo_numberEnd_72 : decode b_Wo_numberEnd 72 = .ok (.aload_n 0, 1) := by decide +kernel
theorem d_Wo_numberEnd_73 : decode b_Wo_numberEnd 73 = .ok (.getfield 35, 3) := by decide +kernel
theorem d_Wo_numberEnd_76 : decode b_Wo_numberEnd 76 = .ok (.iload 4, 2) := by decide +kernel
theorem d_Wo_numberEnd_78 : decode b_Wo_numberEnd 78 = .ok (.baload, 1) := by decide +kernel
theorem d_Wo_numberEnd_79 : decode b_Wo_numberEnd 79 = .ok (.bipush 48, 2) := by decide +kernel
theorem d_Wo_numberEnd_81 : decode b_Wo_numberEnd 81 = .ok (.isub, 1) := by decide +kernel
theorem d_Wo_numberEnd_82 : decode b_Wo_numberEnd 82 = .ok (.i2l, 1) := by decide +kernel
theorem d_Wo_numberEnd_83 : decode b_Wo_numberEnd 83 = .ok (.ladd, 1) := by decide +kernel
theorem d_Wo_numberEnd_84 : decode b_Wo_numberEnd 84 = .ok (.goto 5, 3) := by decide +kernel
theorem d_Wo_numberEnd_87 : decode b_Wo_numberEnd 87 = .ok (.lload 5, 2) := by decide +kernel
theorem d_Wo_numberEnd_89 : decode b_Wo_numberEnd 89 = .ok (.lstore 5, 2) := by decide +kernel
theorem d_Wo_numberEnd_91 : decode b_Wo_numberEnd 91 = .ok (.iinc 4 1, 3) := by decide +kernel
theorem d_Wo_numberEnd_94 : decode b_Wo_numberEnd 94 = .ok (.goto (-59), 3) := by decide +kernel
theorem d_Wo_numberEnd_97 : decode b_Wo_numberEnd 97 = .ok (.iload_n 2, 1) := by decide +kernel
theorem d_Wo_numberEnd_98 : decode b_Wo_numberEnd 98 = .ok (.ifCond .eq 9, 3) := by decide +kernel
theorem d_Wo_numberEnd_101 : decode b_Wo_numberEnd 101 = .ok (.lload 5, 2) := by decide +kernel
theorem d_Wo_numberEnd_103 : decode b_Wo_numberEnd 103 = .ok (.lneg, 1) := by decide +kernel
theorem d_Wo_numberEnd_104 : decode b_Wo_numberEnd 104 = .ok (.goto 5, 3) := by decide +kernel
theorem d_Wo_numberEnd_107 : decode b_Wo_numberEnd 107 = .ok (.lload 5, 2) := by decide +kernel
theorem d_Wo_numberEnd_109 : decode b_Wo_numberEnd 109 = .ok (.lstore 5, 2) := by decide +kernel
theorem d_Wo_numberEnd_111 : decode b_Wo_numberEnd 111 = .ok (.iload 4, 2) := by decide +kernel
theorem d_Wo_numberEnd_113 : decode b_Wo_numberEnd 113 = .ok (.iload_n 3, 1) := by decide +kernel
theorem d_Wo_numberEnd_114 : decode b_Wo_numberEnd 114 = .ok (.if_icmp .eq 30, 3) := by decide +kernel
theorem d_Wo_numberEnd_117 : decode b_Wo_numberEnd 117 = .ok (.iload 4, 2) := by decide +kernel
theorem d_Wo_numberEnd_119 : decode b_Wo_numberEnd 119 = .ok (.iload_n 3, 1) := by decide +kernel
theorem d_Wo_numberEnd_120 : decode b_Wo_numberEnd 120 = .ok (.isub, 1) := by decide +kernel
theorem d_Wo_numberEnd_121 : decode b_Wo_numberEnd 121 = .ok (.bipush 10, 2) := by decide +kernel
theorem d_Wo_numberEnd_123 : decode b_Wo_numberEnd 123 = .ok (.if_icmp .gt 21, 3) := by decide +kernel
theorem d_Wo_numberEnd_126 : decode b_Wo_numberEnd 126 = .ok (.lload 5, 2) := by decide +kernel
theorem d_Wo_numberEnd_128 : decode b_Wo_numberEnd 128 = .ok (.ldc2_w 74, 3) := by decide +kernel
theorem d_Wo_numberEnd_131 : decode b_Wo_numberEnd 131 = .ok (.lcmp, 1) := by decide +kernel
theorem d_Wo_numberEnd_132 : decode b_Wo_numberEnd 132 = .ok (.ifCond .lt 12, 3) := by decide +kernel
theorem d_Wo_numberEnd_135 : decode b_Wo_numberEnd 135 = .ok (.lload 5, 2) := by decide +kernel
theorem d_Wo_numberEnd_137 : decode b_Wo_numberEnd 137 = .ok (.ldc2_w 76, 3) := by decide +kernel
theorem d_Wo_numberEnd_140 : decode b_Wo_numberEnd 140 = .ok (.lcmp, 1) := by decide +kernel
theorem d_Wo_numberEnd_141 : decode b_Wo_numberEnd 141 = .ok (.ifCond .le 5, 3) := by decide +kernel
theorem d_Wo_numberEnd_144 : decode b_Wo_numberEnd 144 = .ok (.iconst (-1), 1) := by decide +kernel
theorem d_Wo_numberEnd_145 : decode b_Wo_numberEnd 145 = .ok (.ireturn, 1) := by decide +kernel
theorem d_Wo_numberEnd_146 : decode b_Wo_numberEnd 146 = .ok (.aload_n 0, 1) := by decide +kernel
theorem d_Wo_numberEnd_147 : decode b_Wo_numberEnd 147 = .ok (.iconst 2, 1) := by decide +kernel
theorem d_Wo_numberEnd_148 : decode b_Wo_numberEnd 148 = .ok (.lload 5, 2) := by decide +kernel
theorem d_Wo_numberEnd_150 : decode b_Wo_numberEnd 150 = .ok (.l2i, 1) := by decide +kernel
theorem d_Wo_numberEnd_151 : decode b_Wo_numberEnd 151 = .ok (.iload_n 1, 1) := by decide +kernel
theorem d_Wo_numberEnd_152 : decode b_Wo_numberEnd 152 = .ok (.invokevirtual 43, 3) := by decide +kernel
theorem d_Wo_numberEnd_155 : decode b_Wo_numberEnd 155 = .ok (.iload 4, 2) := by decide +kernel
theorem d_Wo_numberEnd_157 : decode b_Wo_numberEnd 157 = .ok (.ireturn, 1) := by decide +kernel
abbrev ru_Wo_numberEnd : Room := { frames := 1, cells := 0, slots := 0, locals := 23 }
def wj_Wo_numberEnd_144 (y : Ly) (Post : St → Int32 → Prop) (a0 : Nat) (s_j144 : St) : Prop := Post s_j144 (-1)
def wj_Wo_numberEnd_109 (y : Ly) (Post : St → Int32 → Prop) (a0 : Nat) (s_j109 : St) (x1j109 : Int32) (x3j109 : Int32) (x4j109 : Int32) (z0j109 : Int64) : Prop := ((x4j109 = x3j109 → wj_Wo_numberEnd_144 y Post a0 s_j109) ∧ (¬ (x4j109 = x3j109) → ((10 < (x4j109 - x3j109) → wj_Wo_numberEnd_144 y Post a0 s_j109) ∧ (¬ (10 < (x4j109 - x3j109)) → (((lg_cmp z0j109 (-2147483648)) < 0 → wj_Wo_numberEnd_144 y Post a0 s_j109) ∧ (¬ ((lg_cmp z0j109 (-2147483648)) < 0) → (((lg_cmp z0j109 (2147483647)) ≤ 0 → wu_Wo_add y (fun (s_4 : St) => Post s_4 x4j109) s_j109 a0 2 z0j109.toInt32 x1j109) ∧ (¬ ((lg_cmp z0j109 (2147483647)) ≤ 0) → wj_Wo_numberEnd_144 y Post a0 s_j109))))))))
def wj_Wo_numberEnd_97 (y : Ly) (Post : St → Int32 → Prop) (a0 : Nat) (s_j97 : St) (x1j97 : Int32) (x2j97 : Int32) (x3j97 : Int32) (x4j97 : Int32) (x5j97 : Int64) : Prop := ((x2j97 = 0 → wj_Wo_numberEnd_109 y Post a0 s_j97 x1j97 x3j97 x4j97 x5j97) ∧ (¬ (x2j97 = 0) → wj_Wo_numberEnd_109 y Post a0 s_j97 x1j97 x3j97 x4j97 (-x5j97)))
def wj_Wo_numberEnd_89 (y : Ly) (Post : St → Int32 → Prop) (K_35 : St → Int32 → Int32 → Int32 → Int32 → Int64 → Prop) (a0 : Nat) (s_j89 : St) (x1j89 : Int32) (x2j89 : Int32) (x3j89 : Int32) (x4j89 : Int32) (z0j89 : Int64) : Prop := K_35 s_j89 x1j89 x2j89 x3j89 (x4j89 + 1) z0j89
def wb_Wo_numberEnd_35 (y : Ly) (Post : St → Int32 → Prop) (K_35 : St → Int32 → Int32 → Int32 → Int32 → Int64 → Prop) (a0 : Nat) (s_h35 : St) (x1h35 : Int32) (x2h35 : Int32) (x3h35 : Int32) (x4h35 : Int32) (x5h35 : Int64) : Prop := (((sV s_h35 a0 7) ≤ x4h35 → wj_Wo_numberEnd_97 y Post a0 s_h35 x1h35 x2h35 x3h35 x4h35 x5h35) ∧ (¬ ((sV s_h35 a0 7) ≤ x4h35) → (kd (cl (sX s_h35 a0 6).1) (sX s_h35 a0 6).2 = 2 ∧ tyx (cl (sX s_h35 a0 6).1) (sX s_h35 a0 6).2 = 1) ∧ xA y s_h35 ((sX s_h35 a0 6).1) ((sX s_h35 a0 6).2) x4h35 (fun x_6 : Int32 => wu_Wo_isDigit y (fun (s_8 : St) (r_7 : Int32) => ((r_7 = 0 → wj_Wo_numberEnd_97 y Post a0 s_8 x1h35 x2h35 x3h35 x4h35 x5h35) ∧ (¬ (r_7 = 0) → ((10 ≤ (x4h35 - x3h35) → wj_Wo_numberEnd_89 y Post K_35 a0 s_8 x1h35 x2h35 x3h35 x4h35 x5h35) ∧ (¬ (10 ≤ (x4h35 - x3h35)) → (kd (cl (sX s_8 a0 6).1) (sX s_8 a0 6).2 = 2 ∧ tyx (cl (sX s_8 a0 6).1) (sX s_8 a0 6).2 = 1) ∧ xA y s_8 ((sX s_8 a0 6).1) ((sX s_8 a0 6).2) x4h35 (fun x_10 : Int32 => wj_Wo_numberEnd_89 y Post K_35 a0 s_8 x1h35 x2h35 x3h35 x4h35 ((x5h35 * (10)) + ((x_10 - 48).toInt64)))))))) s_h35 x_6)))
def wl_Wo_numberEnd_35 (y : Ly) (Post : St → Int32 → Prop) (a0 : Nat) (s_h35 : St) (x1h35 : Int32) (x2h35 : Int32) (x3h35 : Int32) (x4h35 : Int32) (x5h35 : Int64) : Prop := ∃ (I : St → Int32 → Int32 → Int32 → Int32 → Int64 → Prop) (μ : St → Int32 → Int32 → Int32 → Int32 → Int64 → Nat), I s_h35 x1h35 x2h35 x3h35 x4h35 x5h35 ∧ ∀ (u : St) (t0 : Int32) (t1 : Int32) (t2 : Int32) (t3 : Int32) (t4 : Int64), I u t0 t1 t2 t3 t4 → wb_Wo_numberEnd_35 y Post (fun z t0q t1q t2q t3q t4q => I z t0q t1q t2q t3q t4q ∧ μ z t0q t1q t2q t3q t4q < μ u t0 t1 t2 t3 t4) a0 u t0 t1 t2 t3 t4
def wj_Wo_numberEnd_28 (y : Ly) (Post : St → Int32 → Prop) (a0 : Nat) (s_j28 : St) (x1j28 : Int32) (x2j28 : Int32) (z0j28 : Int32) : Prop := wl_Wo_numberEnd_35 y Post a0 s_j28 x1j28 x2j28 z0j28 z0j28 0
def wj_Wo_numberEnd_16 (y : Ly) (Post : St → Int32 → Prop) (a0 : Nat) (s_j16 : St) (x1j16 : Int32) (z0j16 : Int32) : Prop := ((z0j16 = 0 → wj_Wo_numberEnd_28 y Post a0 s_j16 x1j16 z0j16 x1j16) ∧ (¬ (z0j16 = 0) → wj_Wo_numberEnd_28 y Post a0 s_j16 x1j16 z0j16 (x1j16 + 1)))
def wu_Wo_numberEnd (y : Ly) (Post : St → Int32 → Prop) (σ : St) (a0 : Nat) (v1 : Int32) : Prop := (kd (cl (sX σ a0 6).1) (sX σ a0 6).2 = 2 ∧ tyx (cl (sX σ a0 6).1) (sX σ a0 6).2 = 1) ∧ xA y σ ((sX σ a0 6).1) ((sX σ a0 6).2) v1 (fun x_2 : Int32 => ((¬ x_2 = 45 → wj_Wo_numberEnd_16 y Post a0 σ v1 0) ∧ (x_2 = 45 → wj_Wo_numberEnd_16 y Post a0 σ v1 1)))
set_option maxHeartbeats 4000000 in
set_option maxRecDepth 100000 in
theorem cu_Wo_numberEnd (l : Launch) (D : va_G) (g : Nat → ClassId) (ad : Nat → Nat) (y : Ly) (Post : St → Int32 → Prop) (σ : St) (a0 : Nat) (v1 : Int32) (sz : Nat) (h_a0 : cl a0 = 8) (h : wu_Wo_numberEnd y Post σ a0 v1) : Met l y_Wo_numberEnd (mw y_Wo_numberEnd b_Wo_numberEnd 7 (some .int)) ru_Wo_numberEnd (PC g D [] [.ref (ad a0), .int v1] sz (ws g ad y σ)) (va_Qi (fun (r : Int32) (u : St) => Post u r) (QW D (va_A (ws g ad y σ) sz) (fun u => ws g ad y u)) (va_A (ws g ad y σ) sz)) 0 0 (va_A (ws g ad y σ) sz) := by
  refine ofI (by decide +kernel) (Nat.le_of_ble_eq_true rfl) ?_
  intro p e s m args below meth c A Q ls H locs G hsz hP hD hS hl hret
  subst hsz
  have hl : lv_has ls 7 [(0, .ref (ad a0)), (1, .int v1)] := hl
  unfold wu_Wo_numberEnd at h
  refine lv_aload_n G.1 G.2.1 d_Wo_numberEnd_0 rfl (lv_at hl 0 rfl) ?_
  obtain ⟨n_1, h⟩ := h
  refine ugf (v := .ref (yP y ((sX σ a0 6).1) ((sX σ a0 6).2))) G hP h_a0 iWo rfl 6 (by decide) rfl q558 rfl rfl d_Wo_numberEnd_1 ?_
  refine lv_iload_n G.1 G.2.1 d_Wo_numberEnd_4 rfl (lv_at hl 1 rfl) ?_
  refine ubald G hP n_1.1 n_1.2 h d_Wo_numberEnd_5 (fun x_2 h => ?_)
  refine lv_bipush (v := 45) G.1 G.2.1 d_Wo_numberEnd_6 (by decide) ?_
  have J_16 : ∀ (s_j16 : St) (x1j16 : Int32) (z0j16 : Int32) (H : Heap) (locs : List Loc), wj_Wo_numberEnd_16 y Post a0 s_j16 x1j16 z0j16 → va_P D CL (ws g ad y s_j16) H → va_D A (ws g ad y s_j16) → va_S A s.heap H locs → ∀ ls, lv_has ls 7 [(0, .ref (ad a0)), (1, .int x1j16)] → W p l e ru_Wo_numberEnd s m args below meth c H locs 0 0 Q (F0 m 16 ls [.int z0j16]) := by
    intro s_j16 x1j16 z0j16 H locs h hP hD hS ls hl
    unfold wj_Wo_numberEnd_16 at h
    refine lv_istore_n (lv' := [(2, .int z0j16), (0, .ref (ad a0)), (1, .int x1j16)]) G.1 G.2.1 d_Wo_numberEnd_16 rfl hl (by decide) rfl (fun ls hl => ?_)
    refine lv_iload_n G.1 G.2.1 d_Wo_numberEnd_17 rfl (lv_at hl 0 rfl) ?_
    have J_28 : ∀ (s_j28 : St) (x1j28 : Int32) (x2j28 : Int32) (z0j28 : Int32) (H : Heap) (locs : List Loc), wj_Wo_numberEnd_28 y Post a0 s_j28 x1j28 x2j28 z0j28 → va_P D CL (ws g ad y s_j28) H → va_D A (ws g ad y s_j28) → va_S A s.heap H locs → ∀ ls, lv_has ls 7 [(0, .ref (ad a0)), (1, .int x1j28), (2, .int x2j28)] → W p l e ru_Wo_numberEnd s m args below meth c H locs 0 0 Q (F0 m 28 ls [.int z0j28]) := by
      intro s_j28 x1j28 x2j28 z0j28 H locs h hP hD hS ls hl
      unfold wj_Wo_numberEnd_28 at h
      refine lv_istore_n (lv' := [(3, .int z0j28), (0, .ref (ad a0)), (1, .int x1j28), (2, .int x2j28)]) G.1 G.2.1 d_Wo_numberEnd_28 rfl hl (by decide) rfl (fun ls hl => ?_)
      refine lv_iload_n G.1 G.2.1 d_Wo_numberEnd_29 rfl (lv_at hl 0 rfl) ?_
      refine lv_istore (lv' := [(4, .int z0j28), (3, .int z0j28), (0, .ref (ad a0)), (1, .int x1j28), (2, .int x2j28)]) G.1 G.2.1 d_Wo_numberEnd_30 hl (by decide) rfl (fun ls hl => ?_)
      refine lv_lconst (v := 0) G.1 G.2.1 d_Wo_numberEnd_32 (by decide) ?_
      refine lv_lstore (lv' := [(5, .long 0), (4, .int z0j28), (3, .int z0j28), (0, .ref (ad a0)), (1, .int x1j28), (2, .int x2j28)]) G.1 G.2.1 d_Wo_numberEnd_33 hl (by decide) rfl (fun ls hl => ?_)
      unfold wl_Wo_numberEnd_35 at h
      obtain ⟨I_35, μ_35, hI_35, hB_35⟩ := h
      have L_35 : ∀ (n_35 : Nat) (s_h35 : St) (x1h35 : Int32) (x2h35 : Int32) (x3h35 : Int32) (x4h35 : Int32) (x5h35 : Int64), μ_35 s_h35 x1h35 x2h35 x3h35 x4h35 x5h35 < n_35 → I_35 s_h35 x1h35 x2h35 x3h35 x4h35 x5h35 → ∀ (H : Heap) (locs : List Loc), va_P D CL (ws g ad y s_h35) H → va_D A (ws g ad y s_h35) → va_S A s.heap H locs → ∀ ls, lv_has ls 7 [(0, .ref (ad a0)), (1, .int x1h35), (2, .int x2h35), (3, .int x3h35), (4, .int x4h35), (5, .long x5h35)] → W p l e ru_Wo_numberEnd s m args below meth c H locs 0 0 Q (F0 m 35 ls []) := by
        intro n_35
        induction n_35 with
        | zero => intro s_h35 x1h35 x2h35 x3h35 x4h35 x5h35 hμ; exact absurd hμ (Nat.not_lt_zero _)
        | succ n_35 ih_35 =>
          intro s_h35 x1h35 x2h35 x3h35 x4h35 x5h35 hμ_35 hJ H locs hP hD hS ls hl
          obtain ⟨K_35, hK_35, h⟩ : ∃ K : St → Int32 → Int32 → Int32 → Int32 → Int64 → Prop, (∀ z (t0 : Int32) (t1 : Int32) (t2 : Int32) (t3 : Int32) (t4 : Int64), K z t0 t1 t2 t3 t4 → I_35 z t0 t1 t2 t3 t4 ∧ μ_35 z t0 t1 t2 t3 t4 < μ_35 s_h35 x1h35 x2h35 x3h35 x4h35 x5h35) ∧ wb_Wo_numberEnd_35 y Post K a0 s_h35 x1h35 x2h35 x3h35 x4h35 x5h35 := ⟨_, fun _ _ _ _ _ _ h => h, hB_35 s_h35 x1h35 x2h35 x3h35 x4h35 x5h35 hJ⟩
          unfold wb_Wo_numberEnd_35 at h
          refine lv_iload G.1 G.2.1 d_Wo_numberEnd_35 (lv_at hl 4 rfl) ?_
          refine lv_aload_n G.1 G.2.1 d_Wo_numberEnd_37 rfl (lv_at hl 0 rfl) ?_
          refine ugf (v := .int (sV s_h35 a0 7)) G hP h_a0 iWo rfl 7 (by decide) rfl q559 rfl rfl d_Wo_numberEnd_38 ?_
          have J_97 : ∀ (s_j97 : St) (x1j97 : Int32) (x2j97 : Int32) (x3j97 : Int32) (x4j97 : Int32) (x5j97 : Int64) (H : Heap) (locs : List Loc), wj_Wo_numberEnd_97 y Post a0 s_j97 x1j97 x2j97 x3j97 x4j97 x5j97 → va_P D CL (ws g ad y s_j97) H → va_D A (ws g ad y s_j97) → va_S A s.heap H locs → ∀ ls, lv_has ls 7 [(0, .ref (ad a0)), (1, .int x1j97), (2, .int x2j97), (3, .int x3j97), (4, .int x4j97), (5, .long x5j97)] → W p l e ru_Wo_numberEnd s m args below meth c H locs 0 0 Q (F0 m 97 ls []) := by
            intro s_j97 x1j97 x2j97 x3j97 x4j97 x5j97 H locs h hP hD hS ls hl
            unfold wj_Wo_numberEnd_97 at h
            refine lv_iload_n G.1 G.2.1 d_Wo_numberEnd_97 rfl (lv_at hl 2 rfl) ?_
            have J_109 : ∀ (s_j109 : St) (x1j109 : Int32) (x3j109 : Int32) (x4j109 : Int32) (z0j109 : Int64) (H : Heap) (locs : List Loc), wj_Wo_numberEnd_109 y Post a0 s_j109 x1j109 x3j109 x4j109 z0j109 → va_P D CL (ws g ad y s_j109) H → va_D A (ws g ad y s_j109) → va_S A s.heap H locs → ∀ ls, lv_has ls 7 [(0, .ref (ad a0)), (1, .int x1j109), (3, .int x3j109), (4, .int x4j109)] → W p l e ru_Wo_numberEnd s m args below meth c H locs 0 0 Q (F0 m 109 ls [.long z0j109]) := by
              intro s_j109 x1j109 x3j109 x4j109 z0j109 H locs h hP hD hS ls hl
              unfold wj_Wo_numberEnd_109 at h
              refine lv_lstore (lv' := [(5, .long z0j109), (0, .ref (ad a0)), (1, .int x1j109), (3, .int x3j109), (4, .int x4j109)]) G.1 G.2.1 d_Wo_numberEnd_109 hl (by decide) rfl (fun ls hl => ?_)
              refine lv_iload G.1 G.2.1 d_Wo_numberEnd_111 (lv_at hl 4 rfl) ?_
              refine lv_iload_n G.1 G.2.1 d_Wo_numberEnd_113 rfl (lv_at hl 3 rfl) ?_
              have J_144 : ∀ (s_j144 : St) (H : Heap) (locs : List Loc), wj_Wo_numberEnd_144 y Post a0 s_j144 → va_P D CL (ws g ad y s_j144) H → va_D A (ws g ad y s_j144) → va_S A s.heap H locs → ∀ ls, lv_has ls 7 [] → W p l e ru_Wo_numberEnd s m args below meth c H locs 0 0 Q (F0 m 144 ls []) := by
                intro s_j144 H locs h hP hD hS ls hl
                unfold wj_Wo_numberEnd_144 at h
                refine lv_iconst (v := (-1)) G.1 G.2.1 d_Wo_numberEnd_144 (by decide) ?_
                exact hret _ _ _ _ _ _ _ ls h hP hD hS (Nat.le_refl _) (Nat.le_refl _) d_Wo_numberEnd_145
              refine lv_icmp_eq (tgt := 144) G.1 G.2.1 d_Wo_numberEnd_114 (by decide) (fun c114 => ?_) (fun c114 => ?_)
              · skip
                have h := h.1 c114
                exact J_144 s_j109 H locs h hP hD hS ls (lv_sub hl [] rfl)
              · skip
                have h := h.2 c114
                refine lv_iload G.1 G.2.1 d_Wo_numberEnd_117 (lv_at hl 4 rfl) ?_
                refine lv_iload_n G.1 G.2.1 d_Wo_numberEnd_119 rfl (lv_at hl 3 rfl) ?_
                refine lv_isub G.1 G.2.1 d_Wo_numberEnd_120 ?_
                refine lv_bipush (v := 10) G.1 G.2.1 d_Wo_numberEnd_121 (by decide) ?_
                refine lv_icmp_gt (tgt := 144) G.1 G.2.1 d_Wo_numberEnd_123 (by decide) (fun c123 => ?_) (fun c123 => ?_)
                · skip
                  have h := h.1 c123
                  exact J_144 s_j109 H locs h hP hD hS ls (lv_sub hl [] rfl)
                · skip
                  have h := h.2 c123
                  refine lv_lload G.1 G.2.1 d_Wo_numberEnd_126 (lv_at hl 0 rfl) ?_
                  refine lv_ldc2 (v := (-2147483648)) G.1 G.2.1 G.2.2.2.2.2.2.1 (G.2.2.2.2.2.1 _ q1292) d_Wo_numberEnd_128 ?_
                  refine W.eq (g2 := F0 m 131 ls [.long (-2147483648), .long z0j109]) rfl ?_
                  refine W.lcmp G.1 G.2.1 d_Wo_numberEnd_131 ?_
                  refine lv_if_lt (tgt := 144) G.1 G.2.1 d_Wo_numberEnd_132 (by decide) (fun c132 => ?_) (fun c132 => ?_)
                  · skip
                    have h := h.1 c132
                    exact J_144 s_j109 H locs h hP hD hS ls (lv_sub hl [] rfl)
                  · skip
                    have h := h.2 c132
                    refine lv_lload G.1 G.2.1 d_Wo_numberEnd_135 (lv_at hl 0 rfl) ?_
                    refine lv_ldc2 (v := (2147483647)) G.1 G.2.1 G.2.2.2.2.2.2.1 (G.2.2.2.2.2.1 _ q1293) d_Wo_numberEnd_137 ?_
                    refine W.lcmp G.1 G.2.1 d_Wo_numberEnd_140 ?_
                    refine lv_if_le (tgt := 146) G.1 G.2.1 d_Wo_numberEnd_141 (by decide) (fun c141 => ?_) (fun c141 => ?_)
                    · skip
                      have h := h.1 c141
                      refine lv_aload_n G.1 G.2.1 d_Wo_numberEnd_146 rfl (lv_at hl 1 rfl) ?_
                      refine lv_iconst (v := 2) G.1 G.2.1 d_Wo_numberEnd_147 (by decide) ?_
                      refine lv_lload G.1 G.2.1 d_Wo_numberEnd_148 (lv_at hl 0 rfl) ?_
                      refine lv_l2i G.1 G.2.1 d_Wo_numberEnd_150 rfl ?_
                      refine lv_iload_n G.1 G.2.1 d_Wo_numberEnd_151 rfl (lv_at hl 2 rfl) ?_
                      refine ucVv (As := [.int 2, .int z0j109.toInt32, .int x1j109]) (rest := []) G hP hD hS (cu_Wo_add l D g ad y _ s_j109 a0 2 z0j109.toInt32 x1j109 H.size h_a0 h) w9_Wo_add q1283 ⟨Nat.le_of_ble_eq_true rfl, Nat.le_of_ble_eq_true rfl⟩ rfl rfl h_a0 (q := (RWo, TWo, 8)) rfl rfl hl.1 rfl (Nat.le_of_ble_eq_true rfl) rfl ⟨Nat.le_refl _, Nat.le_refl _⟩ d_Wo_numberEnd_152 (fun s_4 H locs h hP hD hS => ?_)
                      refine W.eq (g2 := F0 m 155 ls []) rfl ?_
                      refine lv_iload G.1 G.2.1 d_Wo_numberEnd_155 (lv_at hl 4 rfl) ?_
                      exact hret _ _ _ _ _ _ _ ls h hP hD hS (Nat.le_refl _) (Nat.le_refl _) d_Wo_numberEnd_157
                    · skip
                      have h := h.2 c141
                      exact J_144 s_j109 H locs h hP hD hS ls (lv_sub hl [] rfl)
            refine lv_if_eq (tgt := 107) G.1 G.2.1 d_Wo_numberEnd_98 (by decide) (fun c98 => ?_) (fun c98 => ?_)
            · skip
              have h := h.1 c98
              refine lv_lload G.1 G.2.1 d_Wo_numberEnd_107 (lv_at hl 5 rfl) ?_
              exact J_109 s_j97 x1j97 x3j97 x4j97 x5j97 H locs h hP hD hS ls (lv_sub hl [0, 1, 3, 4] rfl)
            · skip
              have h := h.2 c98
              refine lv_lload G.1 G.2.1 d_Wo_numberEnd_101 (lv_at hl 5 rfl) ?_
              refine lv_lneg G.1 G.2.1 d_Wo_numberEnd_103 ?_
              refine lv_goto (tgt := 109) G.1 G.2.1 d_Wo_numberEnd_104 (by decide) ?_
              exact J_109 s_j97 x1j97 x3j97 x4j97 (-x5j97) H locs h hP hD hS ls (lv_sub hl [0, 1, 3, 4] rfl)
          refine lv_icmp_ge (tgt := 97) G.1 G.2.1 d_Wo_numberEnd_41 (by decide) (fun c41 => ?_) (fun c41 => ?_)
          · skip
            have h := h.1 c41
            exact J_97 s_h35 x1h35 x2h35 x3h35 x4h35 x5h35 H locs h hP hD hS ls (lv_sub hl [0, 1, 2, 3, 4, 5] rfl)
          · skip
            have h := h.2 c41
            refine lv_aload_n G.1 G.2.1 d_Wo_numberEnd_44 rfl (lv_at hl 0 rfl) ?_
            obtain ⟨n_5, h⟩ := h
            refine ugf (v := .ref (yP y ((sX s_h35 a0 6).1) ((sX s_h35 a0 6).2))) G hP h_a0 iWo rfl 6 (by decide) rfl q558 rfl rfl d_Wo_numberEnd_45 ?_
            refine lv_iload G.1 G.2.1 d_Wo_numberEnd_48 (lv_at hl 4 rfl) ?_
            refine ubald G hP n_5.1 n_5.2 h d_Wo_numberEnd_50 (fun x_6 h => ?_)
            refine ucSi (As := [.int x_6]) (rest := []) G hP hD hS (cu_Wo_isDigit l D g ad y _ s_h35 x_6 H.size  h) w9_Wo_isDigit q1279 ⟨Nat.le_of_ble_eq_true rfl, Nat.le_of_ble_eq_true rfl⟩ rfl rfl hl.1 rfl (Nat.le_of_ble_eq_true rfl) rfl ⟨Nat.le_refl _, Nat.le_refl _⟩ d_Wo_numberEnd_51 (fun r_7 s_8 H locs h hP hD hS => ?_)
            refine lv_if_eq (tgt := 97) G.1 G.2.1 d_Wo_numberEnd_54 (by decide) (fun c54 => ?_) (fun c54 => ?_)
            · skip
              have h := h.1 c54
              exact J_97 s_8 x1h35 x2h35 x3h35 x4h35 x5h35 H locs h hP hD hS ls (lv_sub hl [0, 1, 2, 3, 4, 5] rfl)
            · skip
              have h := h.2 c54
              refine lv_iload G.1 G.2.1 d_Wo_numberEnd_57 (lv_at hl 4 rfl) ?_
              refine W.eq (g2 := F0 m 59 ls [.int x4h35]) rfl ?_
              refine lv_iload_n G.1 G.2.1 d_Wo_numberEnd_59 rfl (lv_at hl 3 rfl) ?_
              refine lv_isub G.1 G.2.1 d_Wo_numberEnd_60 ?_
              refine lv_bipush (v := 10) G.1 G.2.1 d_Wo_numberEnd_61 (by decide) ?_
              have J_89 : ∀ (s_j89 : St) (x1j89 : Int32) (x2j89 : Int32) (x3j89 : Int32) (x4j89 : Int32) (z0j89 : Int64) (H : Heap) (locs : List Loc), wj_Wo_numberEnd_89 y Post K_35 a0 s_j89 x1j89 x2j89 x3j89 x4j89 z0j89 → va_P D CL (ws g ad y s_j89) H → va_D A (ws g ad y s_j89) → va_S A s.heap H locs → ∀ ls, lv_has ls 7 [(0, .ref (ad a0)), (1, .int x1j89), (2, .int x2j89), (3, .int x3j89), (4, .int x4j89)] → W p l e ru_Wo_numberEnd s m args below meth c H locs 0 0 Q (F0 m 89 ls [.long z0j89]) := by
                intro s_j89 x1j89 x2j89 x3j89 x4j89 z0j89 H locs h hP hD hS ls hl
                unfold wj_Wo_numberEnd_89 at h
                refine lv_lstore (lv' := [(5, .long z0j89), (0, .ref (ad a0)), (1, .int x1j89), (2, .int x2j89), (3, .int x3j89), (4, .int x4j89)]) G.1 G.2.1 d_Wo_numberEnd_89 hl (by decide) rfl (fun ls hl => ?_)
                refine lv_iinc (v := x4j89 + 1) (lv' := [(4, .int (x4j89 + 1)), (5, .long z0j89), (0, .ref (ad a0)), (1, .int x1j89), (2, .int x2j89), (3, .int x3j89)]) G.1 G.2.1 d_Wo_numberEnd_91 hl (k := 5) rfl rfl (by decide) rfl (fun ls hl => ?_)
                refine lv_goto (tgt := 35) G.1 G.2.1 d_Wo_numberEnd_94 (by decide) ?_
                have h := hK_35 s_j89 x1j89 x2j89 x3j89 (x4j89 + 1) z0j89 h
                exact ih_35 s_j89 x1j89 x2j89 x3j89 (x4j89 + 1) z0j89 (Nat.lt_of_lt_of_le h.2 (Nat.le_of_lt_succ hμ_35)) h.1 H locs hP hD hS ls (lv_sub hl [2, 3, 4, 5, 0, 1] rfl)
              refine lv_icmp_ge (tgt := 87) G.1 G.2.1 d_Wo_numberEnd_63 (by decide) (fun c63 => ?_) (fun c63 => ?_)
              · skip
                have h := h.1 c63
                refine lv_lload G.1 G.2.1 d_Wo_numberEnd_87 (lv_at hl 5 rfl) ?_
                exact J_89 s_8 x1h35 x2h35 x3h35 x4h35 x5h35 H locs h hP hD hS ls (lv_sub hl [0, 1, 2, 3, 4] rfl)
              · skip
                have h := h.2 c63
                refine lv_lload G.1 G.2.1 d_Wo_numberEnd_66 (lv_at hl 5 rfl) ?_
                refine lv_ldc2 (v := (10)) G.1 G.2.1 G.2.2.2.2.2.2.1 (G.2.2.2.2.2.1 _ q1291) d_Wo_numberEnd_68 ?_
                refine lv_lmul G.1 G.2.1 d_Wo_numberEnd_71 ?_
                refine lv_aload_n G.1 G.2.1 d_Wo_numberEnd_72 rfl (lv_at hl 0 rfl) ?_
                obtain ⟨n_9, h⟩ := h
                refine ugf (v := .ref (yP y ((sX s_8 a0 6).1) ((sX s_8 a0 6).2))) G hP h_a0 iWo rfl 6 (by decide) rfl q558 rfl rfl d_Wo_numberEnd_73 ?_
                refine lv_iload G.1 G.2.1 d_Wo_numberEnd_76 (lv_at hl 4 rfl) ?_
                refine ubald G hP n_9.1 n_9.2 h d_Wo_numberEnd_78 (fun x_10 h => ?_)
                refine lv_bipush (v := 48) G.1 G.2.1 d_Wo_numberEnd_79 (by decide) ?_
                refine W.eq (g2 := F0 m 81 ls [.int 48, .int x_10, .long (x5h35 * (10))]) rfl ?_
                refine lv_isub G.1 G.2.1 d_Wo_numberEnd_81 ?_
                refine lv_i2l G.1 G.2.1 d_Wo_numberEnd_82 rfl ?_
                refine lv_ladd G.1 G.2.1 d_Wo_numberEnd_83 ?_
                refine lv_goto (tgt := 89) G.1 G.2.1 d_Wo_numberEnd_84 (by decide) ?_
                exact J_89 s_8 x1h35 x2h35 x3h35 x4h35 ((x5h35 * (10)) + ((x_10 - 48).toInt64)) H locs h hP hD hS ls (lv_sub hl [0, 1, 2, 3, 4] rfl)
      exact L_35 _ s_j28 x1j28 x2j28 z0j28 z0j28 0 (Nat.lt_succ_self _) hI_35 H locs hP hD hS ls (lv_sub hl [3, 4, 5, 2, 1, 0] rfl)
    refine lv_if_eq (tgt := 27) G.1 G.2.1 d_Wo_numberEnd_18 (by decide) (fun c18 => ?_) (fun c18 => ?_)
    · skip
      have h := h.1 c18
      refine lv_iload_n G.1 G.2.1 d_Wo_numberEnd_27 rfl (lv_at hl 2 rfl) ?_
      exact J_28 s_j16 x1j16 z0j16 x1j16 H locs h hP hD hS ls (lv_sub hl [1, 2, 0] rfl)
    · skip
      have h := h.2 c18
      refine lv_iload_n G.1 G.2.1 d_Wo_numberEnd_21 rfl (lv_at hl 2 rfl) ?_
      refine lv_iconst (v := 1) G.1 G.2.1 d_Wo_numberEnd_22 (by decide) ?_
      refine lv_iadd G.1 G.2.1 d_Wo_numberEnd_23 ?_
      refine lv_goto (tgt := 28) G.1 G.2.1 d_Wo_numberEnd_24 (by decide) ?_
      exact J_28 s_j16 x1j16 z0j16 (x1j16 + 1) H locs h hP hD hS ls (lv_sub hl [1, 2, 0] rfl)
  refine lv_icmp_ne (tgt := 15) G.1 G.2.1 d_Wo_numberEnd_8 (by decide) (fun c8 => ?_) (fun c8 => ?_)
  · skip
    have h := h.1 c8
    refine lv_iconst (v := 0) G.1 G.2.1 d_Wo_numberEnd_15 (by decide) ?_
    exact J_16 σ v1 0 H locs h hP hD hS ls (lv_sub hl [0, 1] rfl)
  · skip
    have h := h.2 c8
    refine lv_iconst (v := 1) G.1 G.2.1 d_Wo_numberEnd_11 (by decide) ?_
    refine lv_goto (tgt := 16) G.1 G.2.1 d_Wo_numberEnd_12 (by decide) ?_
    exact J_16 σ v1 1 H locs h hP hD hS ls (lv_sub hl [0, 1] rfl)
def y_Wo_isSign : MethodName := ⟨"ClassWorks$Words", "isSign", "(I)Z"⟩
abbrev b_Wo_isSign : ByteArray := prog_10_method_10_code
theorem d_Wo_isSign_0 : decode b_Wo_isSign 0 = .ok (.iload_n 0, 1) := by decide +kernel
theorem d_Wo_isSign_1 : decode b_Wo_isSign 1 = .ok (.bipush 58, 2) := by decide +kernel
theorem d_Wo_isSign_3 : decode b_Wo_isSign 3 = .ok (.if_icmp .eq 39, 3) := by decide +kernel
theorem d_Wo_isSign_6 : decode b_Wo_isSign 6 = .ok (.iload_n 0, 1) := by decide +kernel
theorem d_Wo_isSign_7 : decode b_Wo_isSign 7 = .ok (.bipush 44, 2) := by decide +kernel
theorem d_Wo_isSign_9 : decode b_Wo_isSign 9 = .ok (.if_icmp .eq 33, 3) := by decide +kernel
theorem d_Wo_isSign_12 : decode b_Wo_isSign 12 = .ok (.iload_n 0, 1) := by decide +kernel
theorem d_Wo_isSign_13 : decode b_Wo_isSign 13 = .ok (.bipush 59, 2) := by decide +kernel
theorem d_Wo_isSign_15 : decode b_Wo_isSign 15 = .ok (.if_icmp .eq 27, 3) := by decide +kernel
theorem d_Wo_isSign_18 : decode b_Wo_isSign 18 = .ok (.iload_n 0, 1) := by decide +kernel
theorem d_Wo_isSign_19 : decode b_Wo_isSign 19 = .ok (.bipush 40, 2) := by decide +kernel
theorem d_Wo_isSign_21 : decode b_Wo_isSign 21 = .ok (.if_icmp .eq 21, 3) := by decide +kernel
theorem d_Wo_isSign_24 : decode b_Wo_isSign 24 = .ok (.iload_n 0, 1) := by decide +kernel
theorem d_Wo_isSign_25 : decode b_Wo_isSign 25 = .ok (.bipush 41, 2) := by decide +kernel
theorem d_Wo_isSign_27 : decode b_Wo_isSign 27 = .ok (.if_icmp .eq 15, 3) := by decide +kernel
theorem d_Wo_isSign_30 : decode b_Wo_isSign 30 = .ok (.iload_n 0, 1) := by decide +kernel
theorem d_Wo_isSign_31 : decode b_Wo_isSign 31 = .ok (.bipush 46, 2) := by decide +kernel
theorem d_Wo_isSign_33 : decode b_Wo_isSign 33 = .ok (.if_icmp .eq 9, 3) := by decide +kernel
theorem d_Wo_isSign_36 : decode b_Wo_isSign 36 = .ok (.iload_n 0, 1) := by decide +kernel
theorem d_Wo_isSign_37 : decode b_Wo_isSign 37 = .ok (.bipush 61, 2) := by decide +kernel
theorem d_Wo_isSign_39 : decode b_Wo_isSign 39 = .ok (.if_icmp .ne 7, 3) := by decide +kernel
theorem d_Wo_isSign_42 : decode b_Wo_isSign 42 = .ok (.iconst 1, 1) := by decide +kernel
theorem d_Wo_isSign_43 : decode b_Wo_isSign 43 = .ok (.goto 4, 3) := by decide +kernel
theorem d_Wo_isSign_46 : decode b_Wo_isSign 46 = .ok (.iconst 0, 1) := by decide +kernel
theorem d_Wo_isSign_47 : decode b_Wo_isSign 47 = .ok (.ireturn, 1) := by decide +kernel
abbrev ru_Wo_isSign : Room := { frames := 0, cells := 0, slots := 0, locals := 0 }
def wj_Wo_isSign_47 (y : Ly) (Post : St → Int32 → Prop) (s_j47 : St) (z0j47 : Int32) : Prop := (nb z0j47 ∧ Post s_j47 z0j47)
def wj_Wo_isSign_42 (y : Ly) (Post : St → Int32 → Prop) (s_j42 : St) : Prop := wj_Wo_isSign_47 y Post s_j42 1
def wu_Wo_isSign (y : Ly) (Post : St → Int32 → Prop) (σ : St) (v0 : Int32) : Prop := ((v0 = 58 → wj_Wo_isSign_42 y Post σ) ∧ (¬ (v0 = 58) → ((v0 = 44 → wj_Wo_isSign_42 y Post σ) ∧ (¬ (v0 = 44) → ((v0 = 59 → wj_Wo_isSign_42 y Post σ) ∧ (¬ (v0 = 59) → ((v0 = 40 → wj_Wo_isSign_42 y Post σ) ∧ (¬ (v0 = 40) → ((v0 = 41 → wj_Wo_isSign_42 y Post σ) ∧ (¬ (v0 = 41) → ((v0 = 46 → wj_Wo_isSign_42 y Post σ) ∧ (¬ (v0 = 46) → ((¬ v0 = 61 → wj_Wo_isSign_47 y Post σ 0) ∧ (v0 = 61 → wj_Wo_isSign_42 y Post σ))))))))))))))
set_option maxHeartbeats 4000000 in
set_option maxRecDepth 100000 in
theorem cu_Wo_isSign (l : Launch) (D : va_G) (g : Nat → ClassId) (ad : Nat → Nat) (y : Ly) (Post : St → Int32 → Prop) (σ : St) (v0 : Int32) (sz : Nat) (h : wu_Wo_isSign y Post σ v0) : Met l y_Wo_isSign (mw y_Wo_isSign b_Wo_isSign 1 (some (.boolean))) ru_Wo_isSign (PC g D [] [.int v0] sz (ws g ad y σ)) (va_Qi (fun (r : Int32) (u : St) => Post u r) (QW D (va_A (ws g ad y σ) sz) (fun u => ws g ad y u)) (va_A (ws g ad y σ) sz)) 0 0 (va_A (ws g ad y σ) sz) := by
  refine ofZ (by decide +kernel) (Nat.le_of_ble_eq_true rfl) ?_
  intro p e s m args below meth c A Q ls H locs G hsz hP hD hS hl hret
  subst hsz
  have hl : lv_has ls 1 [(0, .int v0)] := hl
  unfold wu_Wo_isSign at h
  refine lv_iload_n G.1 G.2.1 d_Wo_isSign_0 rfl (lv_at hl 0 rfl) ?_
  refine lv_bipush (v := 58) G.1 G.2.1 d_Wo_isSign_1 (by decide) ?_
  have J_47 : ∀ (s_j47 : St) (z0j47 : Int32) (H : Heap) (locs : List Loc), wj_Wo_isSign_47 y Post s_j47 z0j47 → va_P D CL (ws g ad y s_j47) H → va_D A (ws g ad y s_j47) → va_S A s.heap H locs → ∀ ls, lv_has ls 1 [] → W p l e ru_Wo_isSign s m args below meth c H locs 0 0 Q (F0 m 47 ls [.int z0j47]) := by
    intro s_j47 z0j47 H locs h hP hD hS ls hl
    unfold wj_Wo_isSign_47 at h
    exact hret _ _ _ _ _ _ _ ls (nb_n h.1) h.2 hP hD hS (Nat.le_refl _) (Nat.le_refl _) d_Wo_isSign_47
  have J_42 : ∀ (s_j42 : St) (H : Heap) (locs : List Loc), wj_Wo_isSign_42 y Post s_j42 → va_P D CL (ws g ad y s_j42) H → va_D A (ws g ad y s_j42) → va_S A s.heap H locs → ∀ ls, lv_has ls 1 [] → W p l e ru_Wo_isSign s m args below meth c H locs 0 0 Q (F0 m 42 ls []) := by
    intro s_j42 H locs h hP hD hS ls hl
    unfold wj_Wo_isSign_42 at h
    refine lv_iconst (v := 1) G.1 G.2.1 d_Wo_isSign_42 (by decide) ?_
    refine lv_goto (tgt := 47) G.1 G.2.1 d_Wo_isSign_43 (by decide) ?_
    exact J_47 s_j42 1 H locs h hP hD hS ls (lv_sub hl [] rfl)
  refine lv_icmp_eq (tgt := 42) G.1 G.2.1 d_Wo_isSign_3 (by decide) (fun c3 => ?_) (fun c3 => ?_)
  · skip
    have h := h.1 c3
    exact J_42 σ H locs h hP hD hS ls (lv_sub hl [] rfl)
  · skip
    have h := h.2 c3
    refine lv_iload_n G.1 G.2.1 d_Wo_isSign_6 rfl (lv_at hl 0 rfl) ?_
    refine lv_bipush (v := 44) G.1 G.2.1 d_Wo_isSign_7 (by decide) ?_
    refine lv_icmp_eq (tgt := 42) G.1 G.2.1 d_Wo_isSign_9 (by decide) (fun c9 => ?_) (fun c9 => ?_)
    · skip
      have h := h.1 c9
      exact J_42 σ H locs h hP hD hS ls (lv_sub hl [] rfl)
    · skip
      have h := h.2 c9
      refine lv_iload_n G.1 G.2.1 d_Wo_isSign_12 rfl (lv_at hl 0 rfl) ?_
      refine lv_bipush (v := 59) G.1 G.2.1 d_Wo_isSign_13 (by decide) ?_
      refine lv_icmp_eq (tgt := 42) G.1 G.2.1 d_Wo_isSign_15 (by decide) (fun c15 => ?_) (fun c15 => ?_)
      · skip
        have h := h.1 c15
        exact J_42 σ H locs h hP hD hS ls (lv_sub hl [] rfl)
      · skip
        have h := h.2 c15
        refine lv_iload_n G.1 G.2.1 d_Wo_isSign_18 rfl (lv_at hl 0 rfl) ?_
        refine lv_bipush (v := 40) G.1 G.2.1 d_Wo_isSign_19 (by decide) ?_
        refine W.eq (g2 := F0 m 21 ls [.int 40, .int v0]) rfl ?_
        refine lv_icmp_eq (tgt := 42) G.1 G.2.1 d_Wo_isSign_21 (by decide) (fun c21 => ?_) (fun c21 => ?_)
        · skip
          have h := h.1 c21
          exact J_42 σ H locs h hP hD hS ls (lv_sub hl [] rfl)
        · skip
          have h := h.2 c21
          refine lv_iload_n G.1 G.2.1 d_Wo_isSign_24 rfl (lv_at hl 0 rfl) ?_
          refine lv_bipush (v := 41) G.1 G.2.1 d_Wo_isSign_25 (by decide) ?_
          refine lv_icmp_eq (tgt := 42) G.1 G.2.1 d_Wo_isSign_27 (by decide) (fun c27 => ?_) (fun c27 => ?_)
          · skip
            have h := h.1 c27
            exact J_42 σ H locs h hP hD hS ls (lv_sub hl [] rfl)
          · skip
            have h := h.2 c27
            refine lv_iload_n G.1 G.2.1 d_Wo_isSign_30 rfl (lv_at hl 0 rfl) ?_
            refine lv_bipush (v := 46) G.1 G.2.1 d_Wo_isSign_31 (by decide) ?_
            refine lv_icmp_eq (tgt := 42) G.1 G.2.1 d_Wo_isSign_33 (by decide) (fun c33 => ?_) (fun c33 => ?_)
            · skip
              have h := h.1 c33
              exact J_42 σ H locs h hP hD hS ls (lv_sub hl [] rfl)
            · skip
              have h := h.2 c33
              refine lv_iload_n G.1 G.2.1 d_Wo_isSign_36 rfl (lv_at hl 0 rfl) ?_
              refine lv_bipush (v := 61) G.1 G.2.1 d_Wo_isSign_37 (by decide) ?_
              refine lv_icmp_ne (tgt := 46) G.1 G.2.1 d_Wo_isSign_39 (by decide) (fun c39 => ?_) (fun c39 => ?_)
              · skip
                have h := h.1 c39
                refine lv_iconst (v := 0) G.1 G.2.1 d_Wo_isSign_46 (by decide) ?_
                exact J_47 σ 0 H locs h hP hD hS ls (lv_sub hl [] rfl)
              · skip
                have h := h.2 c39
                exact J_42 σ H locs h hP hD hS ls (lv_sub hl [] rfl)
def y_Re_takeFlags : MethodName := ⟨"ClassWorks$Reader", "takeFlags", "(IIII)I"⟩
abbrev b_Re_takeFlags : ByteArray := prog_8_method_12_code
theorem q590 : Cond.fieldLink "ClassWorks$Reader" 68 "ClassWorks$Reader" "words" "LClassWorks$Words;" ∈ lw_ok := lw_okmem (List.mem_of_getElem? (i := 590) (by decide +kernel)) rfl
theorem q548 : Cond.fieldLink "ClassWorks$Reader" 134 "ClassWorks$Words" "kind" "[I" ∈ lw_ok := lw_okmem (List.mem_of_getElem? (i := 548) (by decide +kernel)) rfl
theorem q595 : Cond.fieldLink "ClassWorks$Reader" 27 "ClassWorks$Reader" "p" "I" ∈ lw_ok := lw_okmem (List.mem_of_getElem? (i := 595) (by decide +kernel)) rfl
theorem q550 : Cond.fieldLink "ClassWorks$Reader" 137 "ClassWorks$Words" "value" "[I" ∈ lw_ok := lw_okmem (List.mem_of_getElem? (i := 550) (by decide +kernel)) rfl
theorem d_Re_takeFlags_0 : decode b_Re_takeFlags 0 = .ok (.iconst 0, 1) := by decide +kernel
theorem d_Re_takeFlags_1 : decode b_Re_takeFlags 1 = .ok (.istore 5, 2) := by decide +kernel
theorem d_Re_takeFlags_3 : decode b_Re_takeFlags 3 = .ok (.iconst 0, 1) := by decide +kernel
theorem d_Re_takeFlags_4 : decode b_Re_takeFlags 4 = .ok (.istore 6, 2) := by decide +kernel
theorem d_Re_takeFlags_6 : decode b_Re_takeFlags 6 = .ok (.iload 6, 2) := by decide +kernel
theorem d_Re_takeFlags_8 : decode b_Re_takeFlags 8 = .ok (.iconst 4, 1) := by decide +kernel
theorem d_Re_takeFlags_9 : decode b_Re_takeFlags 9 = .ok (.if_icmp .ge 121, 3) := by decide +kernel
theorem d_Re_takeFlags_12 : decode b_Re_takeFlags 12 = .ok (.aload_n 0, 1) := by decide +kernel
theorem d_Re_takeFlags_13 : decode b_Re_takeFlags 13 = .ok (.getfield 68, 3) := by decide +kernel
theorem d_Re_takeFlags_16 : decode b_Re_takeFlags 16 = .ok (.getfield 134, 3) := by decide +kernel
theorem d_Re_takeFlags_19 : decode b_Re_takeFlags 19 = .ok (.aload_n 0, 1) := by decide +kernel
theorem d_Re_takeFlags_20 : decode b_Re_takeFlags 20 = .ok (.getfield 27, 3) := by decide +kernel
theorem d_Re_takeFlags_23 : decode b_Re_takeFlags 23 = .ok (.iaload, 1) := by decide +kernel
theorem d_Re_takeFlags_24 : decode b_Re_takeFlags 24 = .ok (.iconst 1, 1) := by decide +kernel
theorem d_Re_takeFlags_25 : decode b_Re_takeFlags 25 = .ok (.if_icmp .ne 18, 3) := by decide +kernel
theorem d_Re_takeFlags_28 : decode b_Re_takeFlags 28 = .ok (.aload_n 0, 1) := by decide +kernel
theorem d_Re_takeFlags_29 : decode b_Re_takeFlags 29 = .ok (.getfield 68, 3) := by decide +kernel
theorem d_Re_takeFlags_32 : decode b_Re_takeFlags 32 = .ok (.getfield 137, 3) := by decide +kernel
theorem d_Re_takeFlags_35 : decode b_Re_takeFlags 35 = .ok (.aload_n 0, 1) := by decide +kernel
theorem d_Re_takeFlags_36 : decode b_Re_takeFlags 36 = .ok (.getfield 27, 3) := by decide +kernel
theorem d_Re_takeFlags_39 : decode b_Re_takeFlags 39 = .ok (.iaload, 1) := by decide +kernel
theorem d_Re_takeFlags_40 : decode b_Re_takeFlags 40 = .ok (.goto 4, 3) := by decide +kernel
theorem d_Re_takeFlags_43 : decode b_Re_takeFlags 43 = .ok (.iconst 0, 1) := by decide +kernel
theorem d_Re_takeFlags_44 : decode b_Re_takeFlags 44 = .ok (.istore 7, 2) := by decide +kernel
theorem d_Re_takeFlags_46 : decode b_Re_takeFlags 46 = .ok (.iload 7, 2) := by decide +kernel
theorem d_Re_takeFlags_48 : decode b_Re_takeFlags 48 = .ok (.iload_n 1, 1) := by decide +kernel
theorem d_Re_takeFlags_49 : decode b_Re_takeFlags 49 = .ok (.if_icmp .ne 7, 3) := by decide +kernel
theorem d_Re_takeFlags_52 : decode b_Re_takeFlags 52 = .ok (.iconst 1, 1) := by decide +kernel
theorem d_Re_takeFlags_53 : decode b_Re_takeFlags 53 = .ok (.goto 36, 3) := by decide +kernel
theorem d_Re_takeFlags_56 : decode b_Re_takeFlags 56 = .ok (.iload 7, 2) := by decide +kernel
theorem d_Re_takeFlags_58 : decode b_Re_takeFlags 58 = .ok (.iload_n 2, 1) := by decide +kernel
theorem d_Re_takeFlags_59 : decode b_Re_takeFlags 59 = .ok (.if_icmp .ne 7, 3) := by decide +kernel
theorem d_Re_takeFlags_62 : decode b_Re_takeFlags 62 = .ok (.iconst 2, 1) := by decide +kernel
theorem d_Re_takeFlags_63 : decode b_Re_takeFlags 63 = .ok (.goto 26, 3) := by decide +kernel
theorem d_Re_takeFlags_66 : decode b_Re_takeFlags 66 = .ok (.iload 7, 2) := by decide +kernel
theorem d_Re_takeFlags_68 : decode b_Re_takeFlags 68 = .ok (.iload_n 3, 1) := by decide +kernel
theorem d_Re_takeFlags_69 : decode b_Re_takeFlags 69 = .ok (.if_icmp .ne 7, 3) := by decide +kernel
theorem d_Re_takeFlags_72 : decode b_Re_takeFlags 72 = .ok (.iconst 4, 1) := by decide +kernel
theorem d_Re_takeFlags_73 : decode b_Re_takeFlags 73 = .ok (.goto 16, 3) := by decide +kernel
theorem d_Re_takeFlags_76 : decode b_Re_takeFlags 76 = .ok (.iload 7, 2) := by decide +kernel
theorem d_Re_takeFlags_78 : decode b_Re_takeFlags 78 = .ok (.iload 4, 2) := by decide +kernel
theorem d_Re_takeFlags_80 : decode b_Re_takeFlags 80 = .ok (.if_icmp .ne 8, 3) := by decide +kernel
theorem d_Re_takeFlags_83 : decode b_Re_takeFlags 83 = .ok (.bipush 8, 2) := by decide +kernel
theorem d_Re_takeFlags_85 : decode b_Re_takeFlags 85 = .ok (.goto 4, 3) := by decide +kernel
theorem d_Re_takeFlags_88 : decode b_Re_takeFlags 88 = .ok (.iconst 0, 1) := by decide +kernel
theorem d_Re_takeFlags_89 : decode b_Re_takeFlags 89 = .ok (.istore 8, 2) := by decide +kernel
theorem d_Re_takeFlags_91 : decode b_Re_takeFlags 91 = .ok (.iload 8, 2) := by decide +kernel
theorem d_Re_takeFlags_93 : decode b_Re_takeFlags 93 = .ok (.ifCond .eq 11, 3) := by decide +kernel
theorem d_Re_takeFlags_96 : decode b_Re_takeFlags 96 = .ok (.iload 5, 2) := by decide +kernel
theorem d_Re_takeFlags_98 : decode b_Re_takeFlags 98 = .ok (.iload 8, 2) := by decide +kernel
theorem d_Re_takeFlags_100 : decode b_Re_takeFlags 100 = .ok (.iand, 1) := by decide +kernel
theorem d_Re_takeFlags_101 : decode b_Re_takeFlags 101 = .ok (.ifCond .eq 6, 3) := by decide +kernel
theorem d_Re_takeFlags_104 : decode b_Re_takeFlags 104 = .ok (.iload 5, 2) := by decide +kernel
theorem d_Re_takeFlags_106 : decode b_Re_takeFlags 106 = .ok (.ireturn, 1) := by decide +kernel
theorem d_Re_takeFlags_107 : decode b_Re_takeFlags 107 = .ok (.iload 5, 2) := by decide +kernel
theorem d_Re_takeFlags_109 : decode b_Re_takeFlags 109 = .ok (.iload 8, 2) := by decide +kernel
theorem d_Re_takeFlags_111 : decode b_Re_takeFlags 111 = .ok (.ior, 1) := by decide +kernel
theorem d_Re_takeFlags_112 : decode b_Re_takeFlags 112 = .ok (.istore 5, 2) := by decide +kernel
theorem d_Re_takeFlags_114 : decode b_Re_takeFlags 114 = .ok (.aload_n 0, 1) := by decide +kernel
theorem d_Re_takeFlags_115 : decode b_Re_takeFlags 115 = .ok (.dup, 1) := by decide +kernel
theorem d_Re_takeFlags_116 : decode b_Re_takeFlags 116 = .ok (.getfield 27, 3) := by decide +kernel
theorem d_Re_takeFlags_119 : decode b_Re_takeFlags 119 = .ok (.iconst 1, 1) := by decide +kernel
theorem d_Re_takeFlags_120 : decode b_Re_takeFlags 120 = .ok (.iadd, 1) := by decide +kernel
theorem d_Re_takeFlags_121 : decode b_Re_takeFlags 121 = .ok (.putfield 27, 3) := by decide +kernel
theorem d_Re_takeFlags_124 : decode b_Re_takeFlags 124 = .ok (.iinc 6 1, 3) := by decide +kernel
theorem d_Re_takeFlags_127 : decode b_Re_takeFlags 127 = .ok (.goto (-121), 3) := by decide +kernel
theorem d_Re_takeFlags_130 : decode b_Re_takeFlags 130 = .ok (.iload 5, 2) := by decide +kernel
theorem d_Re_takeFlags_132 : decode b_Re_takeFlags 132 = .ok (.ireturn, 1) := by decide +kernel
abbrev ru_Re_takeFlags : Room := { frames := 0, cells := 0, slots := 0, locals := 0 }
def wj_Re_takeFlags_104 (y : Ly) (Post : St → Int32 → Prop) (a0 : Nat) (s_j104 : St) (x5j104 : Int32) : Prop := Post s_j104 x5j104
def wj_Re_takeFlags_89 (y : Ly) (Post : St → Int32 → Prop) (K_6 : St → Int32 → Int32 → Int32 → Int32 → Int32 → Int32 → Prop) (a0 : Nat) (s_j89 : St) (x1j89 : Int32) (x2j89 : Int32) (x3j89 : Int32) (x4j89 : Int32) (x5j89 : Int32) (x6j89 : Int32) (z0j89 : Int32) : Prop := ((z0j89 = 0 → wj_Re_takeFlags_104 y Post a0 s_j89 x5j89) ∧ (¬ (z0j89 = 0) → (((x5j89 &&& z0j89) = 0 → xP (uV s_j89 a0 8 ((sV s_j89 a0 8) + 1)) (fun s_2 : St => K_6 s_2 x1j89 x2j89 x3j89 x4j89 (x5j89 ||| z0j89) (x6j89 + 1))) ∧ (¬ ((x5j89 &&& z0j89) = 0) → wj_Re_takeFlags_104 y Post a0 s_j89 x5j89))))
def wj_Re_takeFlags_44 (y : Ly) (Post : St → Int32 → Prop) (K_6 : St → Int32 → Int32 → Int32 → Int32 → Int32 → Int32 → Prop) (a0 : Nat) (s_j44 : St) (x1j44 : Int32) (x2j44 : Int32) (x3j44 : Int32) (x4j44 : Int32) (x5j44 : Int32) (x6j44 : Int32) (z0j44 : Int32) : Prop := ((¬ z0j44 = x1j44 → ((¬ z0j44 = x2j44 → ((¬ z0j44 = x3j44 → ((¬ z0j44 = x4j44 → wj_Re_takeFlags_89 y Post K_6 a0 s_j44 x1j44 x2j44 x3j44 x4j44 x5j44 x6j44 0) ∧ (z0j44 = x4j44 → wj_Re_takeFlags_89 y Post K_6 a0 s_j44 x1j44 x2j44 x3j44 x4j44 x5j44 x6j44 8))) ∧ (z0j44 = x3j44 → wj_Re_takeFlags_89 y Post K_6 a0 s_j44 x1j44 x2j44 x3j44 x4j44 x5j44 x6j44 4))) ∧ (z0j44 = x2j44 → wj_Re_takeFlags_89 y Post K_6 a0 s_j44 x1j44 x2j44 x3j44 x4j44 x5j44 x6j44 2))) ∧ (z0j44 = x1j44 → wj_Re_takeFlags_89 y Post K_6 a0 s_j44 x1j44 x2j44 x3j44 x4j44 x5j44 x6j44 1))
def wb_Re_takeFlags_6 (y : Ly) (Post : St → Int32 → Prop) (K_6 : St → Int32 → Int32 → Int32 → Int32 → Int32 → Int32 → Prop) (a0 : Nat) (s_h6 : St) (x1h6 : Int32) (x2h6 : Int32) (x3h6 : Int32) (x4h6 : Int32) (x5h6 : Int32) (x6h6 : Int32) : Prop := ((4 ≤ x6h6 → Post s_h6 x5h6) ∧ (¬ (4 ≤ x6h6) → xA y s_h6 (lk a0 3) 0 (sV s_h6 a0 8) (fun x_1 : Int32 => ((¬ x_1 = 1 → wj_Re_takeFlags_44 y Post K_6 a0 s_h6 x1h6 x2h6 x3h6 x4h6 x5h6 x6h6 0) ∧ (x_1 = 1 → xA y s_h6 (lk a0 3) 1 (sV s_h6 a0 8) (fun x_3 : Int32 => wj_Re_takeFlags_44 y Post K_6 a0 s_h6 x1h6 x2h6 x3h6 x4h6 x5h6 x6h6 x_3))))))
def wl_Re_takeFlags_6 (y : Ly) (Post : St → Int32 → Prop) (a0 : Nat) (s_h6 : St) (x1h6 : Int32) (x2h6 : Int32) (x3h6 : Int32) (x4h6 : Int32) (x5h6 : Int32) (x6h6 : Int32) : Prop := ∃ (I : St → Int32 → Int32 → Int32 → Int32 → Int32 → Int32 → Prop) (μ : St → Int32 → Int32 → Int32 → Int32 → Int32 → Int32 → Nat), I s_h6 x1h6 x2h6 x3h6 x4h6 x5h6 x6h6 ∧ ∀ (u : St) (t0 : Int32) (t1 : Int32) (t2 : Int32) (t3 : Int32) (t4 : Int32) (t5 : Int32), I u t0 t1 t2 t3 t4 t5 → wb_Re_takeFlags_6 y Post (fun z t0q t1q t2q t3q t4q t5q => I z t0q t1q t2q t3q t4q t5q ∧ μ z t0q t1q t2q t3q t4q t5q < μ u t0 t1 t2 t3 t4 t5) a0 u t0 t1 t2 t3 t4 t5
def wu_Re_takeFlags (y : Ly) (Post : St → Int32 → Prop) (σ : St) (a0 : Nat) (v1 : Int32) (v2 : Int32) (v3 : Int32) (v4 : Int32) : Prop := wl_Re_takeFlags_6 y Post a0 σ v1 v2 v3 v4 0 0
set_option maxHeartbeats 4000000 in
set_option maxRecDepth 100000 in
theorem cu_Re_takeFlags (l : Launch) (D : va_G) (g : Nat → ClassId) (ad : Nat → Nat) (y : Ly) (Post : St → Int32 → Prop) (σ : St) (a0 : Nat) (v1 : Int32) (v2 : Int32) (v3 : Int32) (v4 : Int32) (sz : Nat) (h_a0 : cl a0 = 6) (h : wu_Re_takeFlags y Post σ a0 v1 v2 v3 v4) : Met l y_Re_takeFlags (mw y_Re_takeFlags b_Re_takeFlags 9 (some .int)) ru_Re_takeFlags (PC g D [] [.ref (ad a0), .int v1, .int v2, .int v3, .int v4] sz (ws g ad y σ)) (va_Qi (fun (r : Int32) (u : St) => Post u r) (QW D (va_A (ws g ad y σ) sz) (fun u => ws g ad y u)) (va_A (ws g ad y σ) sz)) 0 0 (va_A (ws g ad y σ) sz) := by
  refine ofI (by decide +kernel) (Nat.le_of_ble_eq_true rfl) ?_
  intro p e s m args below meth c A Q ls H locs G hsz hP hD hS hl hret
  subst hsz
  have hl : lv_has ls 9 [(0, .ref (ad a0)), (1, .int v1), (2, .int v2), (3, .int v3), (4, .int v4)] := hl
  unfold wu_Re_takeFlags at h
  refine lv_iconst (v := 0) G.1 G.2.1 d_Re_takeFlags_0 (by decide) ?_
  refine lv_istore (lv' := [(5, .int 0), (0, .ref (ad a0)), (1, .int v1), (2, .int v2), (3, .int v3), (4, .int v4)]) G.1 G.2.1 d_Re_takeFlags_1 hl (by decide) rfl (fun ls hl => ?_)
  refine lv_iconst (v := 0) G.1 G.2.1 d_Re_takeFlags_3 (by decide) ?_
  refine lv_istore (lv' := [(6, .int 0), (5, .int 0), (0, .ref (ad a0)), (1, .int v1), (2, .int v2), (3, .int v3), (4, .int v4)]) G.1 G.2.1 d_Re_takeFlags_4 hl (by decide) rfl (fun ls hl => ?_)
  unfold wl_Re_takeFlags_6 at h
  obtain ⟨I_6, μ_6, hI_6, hB_6⟩ := h
  have L_6 : ∀ (n_6 : Nat) (s_h6 : St) (x1h6 : Int32) (x2h6 : Int32) (x3h6 : Int32) (x4h6 : Int32) (x5h6 : Int32) (x6h6 : Int32), μ_6 s_h6 x1h6 x2h6 x3h6 x4h6 x5h6 x6h6 < n_6 → I_6 s_h6 x1h6 x2h6 x3h6 x4h6 x5h6 x6h6 → ∀ (H : Heap) (locs : List Loc), va_P D CL (ws g ad y s_h6) H → va_D A (ws g ad y s_h6) → va_S A s.heap H locs → ∀ ls, lv_has ls 9 [(0, .ref (ad a0)), (1, .int x1h6), (2, .int x2h6), (3, .int x3h6), (4, .int x4h6), (5, .int x5h6), (6, .int x6h6)] → W p l e ru_Re_takeFlags s m args below meth c H locs 0 0 Q (F0 m 6 ls []) := by
    intro n_6
    induction n_6 with
    | zero => intro s_h6 x1h6 x2h6 x3h6 x4h6 x5h6 x6h6 hμ; exact absurd hμ (Nat.not_lt_zero _)
    | succ n_6 ih_6 =>
      intro s_h6 x1h6 x2h6 x3h6 x4h6 x5h6 x6h6 hμ_6 hJ H locs hP hD hS ls hl
      obtain ⟨K_6, hK_6, h⟩ : ∃ K : St → Int32 → Int32 → Int32 → Int32 → Int32 → Int32 → Prop, (∀ z (t0 : Int32) (t1 : Int32) (t2 : Int32) (t3 : Int32) (t4 : Int32) (t5 : Int32), K z t0 t1 t2 t3 t4 t5 → I_6 z t0 t1 t2 t3 t4 t5 ∧ μ_6 z t0 t1 t2 t3 t4 t5 < μ_6 s_h6 x1h6 x2h6 x3h6 x4h6 x5h6 x6h6) ∧ wb_Re_takeFlags_6 y Post K a0 s_h6 x1h6 x2h6 x3h6 x4h6 x5h6 x6h6 := ⟨_, fun _ _ _ _ _ _ _ h => h, hB_6 s_h6 x1h6 x2h6 x3h6 x4h6 x5h6 x6h6 hJ⟩
      unfold wb_Re_takeFlags_6 at h
      refine lv_iload G.1 G.2.1 d_Re_takeFlags_6 (lv_at hl 6 rfl) ?_
      refine lv_iconst (v := 4) G.1 G.2.1 d_Re_takeFlags_8 (by decide) ?_
      refine lv_icmp_ge (tgt := 130) G.1 G.2.1 d_Re_takeFlags_9 (by decide) (fun c9 => ?_) (fun c9 => ?_)
      · skip
        have h := h.1 c9
        refine lv_iload G.1 G.2.1 d_Re_takeFlags_130 (lv_at hl 5 rfl) ?_
        exact hret _ _ _ _ _ _ _ ls h hP hD hS (Nat.le_refl _) (Nat.le_refl _) d_Re_takeFlags_132
      · skip
        have h := h.2 c9
        refine lv_aload_n G.1 G.2.1 d_Re_takeFlags_12 rfl (lv_at hl 0 rfl) ?_
        refine ugf (v := .ref (ad (lk a0 3))) G hP h_a0 iRe rfl 3 (by decide) rfl q590 rfl rfl d_Re_takeFlags_13 ?_
        refine ugf (v := .ref (yP y (lk a0 3) 0)) G hP (lk_6_3 h_a0) iWo rfl 0 (by decide) rfl q548 rfl rfl d_Re_takeFlags_16 ?_
        refine lv_aload_n G.1 G.2.1 d_Re_takeFlags_19 rfl (lv_at hl 0 rfl) ?_
        refine ugf (v := .int (sV s_h6 a0 8)) G hP h_a0 iRe rfl 8 (by decide) rfl q595 rfl rfl d_Re_takeFlags_20 ?_
        refine uiald G hP (kdp (lk_6_3 h_a0) rfl) (typ (lk_6_3 h_a0) rfl) h d_Re_takeFlags_23 (fun x_1 h => ?_)
        refine lv_iconst (v := 1) G.1 G.2.1 d_Re_takeFlags_24 (by decide) ?_
        have J_44 : ∀ (s_j44 : St) (x1j44 : Int32) (x2j44 : Int32) (x3j44 : Int32) (x4j44 : Int32) (x5j44 : Int32) (x6j44 : Int32) (z0j44 : Int32) (H : Heap) (locs : List Loc), wj_Re_takeFlags_44 y Post K_6 a0 s_j44 x1j44 x2j44 x3j44 x4j44 x5j44 x6j44 z0j44 → va_P D CL (ws g ad y s_j44) H → va_D A (ws g ad y s_j44) → va_S A s.heap H locs → ∀ ls, lv_has ls 9 [(0, .ref (ad a0)), (1, .int x1j44), (2, .int x2j44), (3, .int x3j44), (4, .int x4j44), (5, .int x5j44), (6, .int x6j44)] → W p l e ru_Re_takeFlags s m args below meth c H locs 0 0 Q (F0 m 44 ls [.int z0j44]) := by
          intro s_j44 x1j44 x2j44 x3j44 x4j44 x5j44 x6j44 z0j44 H locs h hP hD hS ls hl
          unfold wj_Re_takeFlags_44 at h
          refine lv_istore (lv' := [(7, .int z0j44), (0, .ref (ad a0)), (1, .int x1j44), (2, .int x2j44), (3, .int x3j44), (4, .int x4j44), (5, .int x5j44), (6, .int x6j44)]) G.1 G.2.1 d_Re_takeFlags_44 hl (by decide) rfl (fun ls hl => ?_)
          refine lv_iload G.1 G.2.1 d_Re_takeFlags_46 (lv_at hl 0 rfl) ?_
          refine lv_iload_n G.1 G.2.1 d_Re_takeFlags_48 rfl (lv_at hl 2 rfl) ?_
          have J_89 : ∀ (s_j89 : St) (x1j89 : Int32) (x2j89 : Int32) (x3j89 : Int32) (x4j89 : Int32) (x5j89 : Int32) (x6j89 : Int32) (z0j89 : Int32) (H : Heap) (locs : List Loc), wj_Re_takeFlags_89 y Post K_6 a0 s_j89 x1j89 x2j89 x3j89 x4j89 x5j89 x6j89 z0j89 → va_P D CL (ws g ad y s_j89) H → va_D A (ws g ad y s_j89) → va_S A s.heap H locs → ∀ ls, lv_has ls 9 [(0, .ref (ad a0)), (1, .int x1j89), (2, .int x2j89), (3, .int x3j89), (4, .int x4j89), (5, .int x5j89), (6, .int x6j89)] → W p l e ru_Re_takeFlags s m args below meth c H locs 0 0 Q (F0 m 89 ls [.int z0j89]) := by
            intro s_j89 x1j89 x2j89 x3j89 x4j89 x5j89 x6j89 z0j89 H locs h hP hD hS ls hl
            unfold wj_Re_takeFlags_89 at h
            refine lv_istore (lv' := [(8, .int z0j89), (0, .ref (ad a0)), (1, .int x1j89), (2, .int x2j89), (3, .int x3j89), (4, .int x4j89), (5, .int x5j89), (6, .int x6j89)]) G.1 G.2.1 d_Re_takeFlags_89 hl (by decide) rfl (fun ls hl => ?_)
            refine lv_iload G.1 G.2.1 d_Re_takeFlags_91 (lv_at hl 0 rfl) ?_
            have J_104 : ∀ (s_j104 : St) (x5j104 : Int32) (H : Heap) (locs : List Loc), wj_Re_takeFlags_104 y Post a0 s_j104 x5j104 → va_P D CL (ws g ad y s_j104) H → va_D A (ws g ad y s_j104) → va_S A s.heap H locs → ∀ ls, lv_has ls 9 [(5, .int x5j104)] → W p l e ru_Re_takeFlags s m args below meth c H locs 0 0 Q (F0 m 104 ls []) := by
              intro s_j104 x5j104 H locs h hP hD hS ls hl
              unfold wj_Re_takeFlags_104 at h
              refine lv_iload G.1 G.2.1 d_Re_takeFlags_104 (lv_at hl 0 rfl) ?_
              exact hret _ _ _ _ _ _ _ ls h hP hD hS (Nat.le_refl _) (Nat.le_refl _) d_Re_takeFlags_106
            refine lv_if_eq (tgt := 104) G.1 G.2.1 d_Re_takeFlags_93 (by decide) (fun c93 => ?_) (fun c93 => ?_)
            · skip
              have h := h.1 c93
              exact J_104 s_j89 x5j89 H locs h hP hD hS ls (lv_sub hl [6] rfl)
            · skip
              have h := h.2 c93
              refine lv_iload G.1 G.2.1 d_Re_takeFlags_96 (lv_at hl 6 rfl) ?_
              refine lv_iload G.1 G.2.1 d_Re_takeFlags_98 (lv_at hl 0 rfl) ?_
              refine lv_iand G.1 G.2.1 d_Re_takeFlags_100 ?_
              refine lv_if_eq (tgt := 107) G.1 G.2.1 d_Re_takeFlags_101 (by decide) (fun c101 => ?_) (fun c101 => ?_)
              · skip
                have h := h.1 c101
                refine lv_iload G.1 G.2.1 d_Re_takeFlags_107 (lv_at hl 6 rfl) ?_
                refine lv_iload G.1 G.2.1 d_Re_takeFlags_109 (lv_at hl 0 rfl) ?_
                refine lv_ior G.1 G.2.1 d_Re_takeFlags_111 ?_
                refine lv_istore (lv' := [(5, .int (x5j89 ||| z0j89)), (8, .int z0j89), (0, .ref (ad a0)), (1, .int x1j89), (2, .int x2j89), (3, .int x3j89), (4, .int x4j89), (6, .int x6j89)]) G.1 G.2.1 d_Re_takeFlags_112 hl (by decide) rfl (fun ls hl => ?_)
                refine W.eq (g2 := F0 m 114 ls []) rfl ?_
                refine lv_aload_n G.1 G.2.1 d_Re_takeFlags_114 rfl (lv_at hl 2 rfl) ?_
                refine lv_dup G.1 G.2.1 d_Re_takeFlags_115 rfl ?_
                refine ugf (v := .int (sV s_j89 a0 8)) G hP h_a0 iRe rfl 8 (by decide) rfl q595 rfl rfl d_Re_takeFlags_116 ?_
                refine lv_iconst (v := 1) G.1 G.2.1 d_Re_takeFlags_119 (by decide) ?_
                refine lv_iadd G.1 G.2.1 d_Re_takeFlags_120 ?_
                refine upf G hP hD hS h 8 putV h_a0 iRe tRe tRe_ok nRe rfl (by decide) rfl q595 rfl rfl fV rfl rfl d_Re_takeFlags_121 (fun s_2 H locs h hP hD hS => ?_)
                refine lv_iinc (v := x6j89 + 1) (lv' := [(6, .int (x6j89 + 1)), (5, .int (x5j89 ||| z0j89)), (8, .int z0j89), (0, .ref (ad a0)), (1, .int x1j89), (2, .int x2j89), (3, .int x3j89), (4, .int x4j89)]) G.1 G.2.1 d_Re_takeFlags_124 hl (k := 7) rfl rfl (by decide) rfl (fun ls hl => ?_)
                refine lv_goto (tgt := 6) G.1 G.2.1 d_Re_takeFlags_127 (by decide) ?_
                have h := hK_6 s_2 x1j89 x2j89 x3j89 x4j89 (x5j89 ||| z0j89) (x6j89 + 1) h
                exact ih_6 s_2 x1j89 x2j89 x3j89 x4j89 (x5j89 ||| z0j89) (x6j89 + 1) (Nat.lt_of_lt_of_le h.2 (Nat.le_of_lt_succ hμ_6)) h.1 H locs hP hD hS ls (lv_sub hl [3, 4, 5, 6, 7, 1, 0] rfl)
              · skip
                have h := h.2 c101
                exact J_104 s_j89 x5j89 H locs h hP hD hS ls (lv_sub hl [6] rfl)
          refine lv_icmp_ne (tgt := 56) G.1 G.2.1 d_Re_takeFlags_49 (by decide) (fun c49 => ?_) (fun c49 => ?_)
          · skip
            have h := h.1 c49
            refine lv_iload G.1 G.2.1 d_Re_takeFlags_56 (lv_at hl 0 rfl) ?_
            refine lv_iload_n G.1 G.2.1 d_Re_takeFlags_58 rfl (lv_at hl 3 rfl) ?_
            refine lv_icmp_ne (tgt := 66) G.1 G.2.1 d_Re_takeFlags_59 (by decide) (fun c59 => ?_) (fun c59 => ?_)
            · skip
              have h := h.1 c59
              refine lv_iload G.1 G.2.1 d_Re_takeFlags_66 (lv_at hl 0 rfl) ?_
              refine lv_iload_n G.1 G.2.1 d_Re_takeFlags_68 rfl (lv_at hl 4 rfl) ?_
              refine lv_icmp_ne (tgt := 76) G.1 G.2.1 d_Re_takeFlags_69 (by decide) (fun c69 => ?_) (fun c69 => ?_)
              · skip
                have h := h.1 c69
                refine lv_iload G.1 G.2.1 d_Re_takeFlags_76 (lv_at hl 0 rfl) ?_
                refine W.eq (g2 := F0 m 78 ls [.int z0j44]) rfl ?_
                refine lv_iload G.1 G.2.1 d_Re_takeFlags_78 (lv_at hl 5 rfl) ?_
                refine lv_icmp_ne (tgt := 88) G.1 G.2.1 d_Re_takeFlags_80 (by decide) (fun c80 => ?_) (fun c80 => ?_)
                · skip
                  have h := h.1 c80
                  refine lv_iconst (v := 0) G.1 G.2.1 d_Re_takeFlags_88 (by decide) ?_
                  exact J_89 s_j44 x1j44 x2j44 x3j44 x4j44 x5j44 x6j44 0 H locs h hP hD hS ls (lv_sub hl [1, 2, 3, 4, 5, 6, 7] rfl)
                · skip
                  have h := h.2 c80
                  refine lv_bipush (v := 8) G.1 G.2.1 d_Re_takeFlags_83 (by decide) ?_
                  refine lv_goto (tgt := 89) G.1 G.2.1 d_Re_takeFlags_85 (by decide) ?_
                  exact J_89 s_j44 x1j44 x2j44 x3j44 x4j44 x5j44 x6j44 8 H locs h hP hD hS ls (lv_sub hl [1, 2, 3, 4, 5, 6, 7] rfl)
              · skip
                have h := h.2 c69
                refine lv_iconst (v := 4) G.1 G.2.1 d_Re_takeFlags_72 (by decide) ?_
                refine W.eq (g2 := F0 m 73 ls [.int 4]) rfl ?_
                refine lv_goto (tgt := 89) G.1 G.2.1 d_Re_takeFlags_73 (by decide) ?_
                exact J_89 s_j44 x1j44 x2j44 x3j44 x4j44 x5j44 x6j44 4 H locs h hP hD hS ls (lv_sub hl [1, 2, 3, 4, 5, 6, 7] rfl)
            · skip
              have h := h.2 c59
              refine lv_iconst (v := 2) G.1 G.2.1 d_Re_takeFlags_62 (by decide) ?_
              refine lv_goto (tgt := 89) G.1 G.2.1 d_Re_takeFlags_63 (by decide) ?_
              exact J_89 s_j44 x1j44 x2j44 x3j44 x4j44 x5j44 x6j44 2 H locs h hP hD hS ls (lv_sub hl [1, 2, 3, 4, 5, 6, 7] rfl)
          · skip
            have h := h.2 c49
            refine lv_iconst (v := 1) G.1 G.2.1 d_Re_takeFlags_52 (by decide) ?_
            refine lv_goto (tgt := 89) G.1 G.2.1 d_Re_takeFlags_53 (by decide) ?_
            exact J_89 s_j44 x1j44 x2j44 x3j44 x4j44 x5j44 x6j44 1 H locs h hP hD hS ls (lv_sub hl [1, 2, 3, 4, 5, 6, 7] rfl)
        refine lv_icmp_ne (tgt := 43) G.1 G.2.1 d_Re_takeFlags_25 (by decide) (fun c25 => ?_) (fun c25 => ?_)
        · skip
          have h := h.1 c25
          refine W.eq (g2 := F0 m 43 ls []) rfl ?_
          refine lv_iconst (v := 0) G.1 G.2.1 d_Re_takeFlags_43 (by decide) ?_
          exact J_44 s_h6 x1h6 x2h6 x3h6 x4h6 x5h6 x6h6 0 H locs h hP hD hS ls (lv_sub hl [0, 1, 2, 3, 4, 5, 6] rfl)
        · skip
          have h := h.2 c25
          refine W.eq (g2 := F0 m 28 ls []) rfl ?_
          refine lv_aload_n G.1 G.2.1 d_Re_takeFlags_28 rfl (lv_at hl 0 rfl) ?_
          refine ugf (v := .ref (ad (lk a0 3))) G hP h_a0 iRe rfl 3 (by decide) rfl q590 rfl rfl d_Re_takeFlags_29 ?_
          refine ugf (v := .ref (yP y (lk a0 3) 1)) G hP (lk_6_3 h_a0) iWo rfl 1 (by decide) rfl q550 rfl rfl d_Re_takeFlags_32 ?_
          refine lv_aload_n G.1 G.2.1 d_Re_takeFlags_35 rfl (lv_at hl 0 rfl) ?_
          refine ugf (v := .int (sV s_h6 a0 8)) G hP h_a0 iRe rfl 8 (by decide) rfl q595 rfl rfl d_Re_takeFlags_36 ?_
          refine uiald G hP (kdp (lk_6_3 h_a0) rfl) (typ (lk_6_3 h_a0) rfl) h d_Re_takeFlags_39 (fun x_3 h => ?_)
          refine lv_goto (tgt := 44) G.1 G.2.1 d_Re_takeFlags_40 (by decide) ?_
          exact J_44 s_h6 x1h6 x2h6 x3h6 x4h6 x5h6 x6h6 x_3 H locs h hP hD hS ls (lv_sub hl [0, 1, 2, 3, 4, 5, 6] rfl)
  exact L_6 _ σ v1 v2 v3 v4 0 0 (Nat.lt_succ_self _) hI_6 H locs hP hD hS ls (lv_sub hl [2, 3, 4, 5, 6, 1, 0] rfl)
def y_Re_refuse : MethodName := ⟨"ClassWorks$Reader", "refuse", "(II)V"⟩
abbrev b_Re_refuse : ByteArray := prog_8_method_3_code
theorem q592 : Cond.fieldLink "ClassWorks$Reader" 18 "ClassWorks$Reader" "rule" "I" ∈ lw_ok := lw_okmem (List.mem_of_getElem? (i := 592) (by decide +kernel)) rfl
theorem q585 : Cond.fieldLink "ClassWorks$Reader" 9 "ClassWorks$Reader" "spot" "I" ∈ lw_ok := lw_okmem (List.mem_of_getElem? (i := 585) (by decide +kernel)) rfl
theorem d_Re_refuse_0 : decode b_Re_refuse 0 = .ok (.aload_n 0, 1) := by decide +kernel
theorem d_Re_refuse_1 : decode b_Re_refuse 1 = .ok (.getfield 18, 3) := by decide +kernel
theorem d_Re_refuse_4 : decode b_Re_refuse 4 = .ok (.ifCond .ne 13, 3) := by decide +kernel
theorem d_Re_refuse_7 : decode b_Re_refuse 7 = .ok (.aload_n 0, 1) := by decide +kernel
theorem d_Re_refuse_8 : decode b_Re_refuse 8 = .ok (.iload_n 1, 1) := by decide +kernel
theorem d_Re_refuse_9 : decode b_Re_refuse 9 = .ok (.putfield 18, 3) := by decide +kernel
theorem d_Re_refuse_12 : decode b_Re_refuse 12 = .ok (.aload_n 0, 1) := by decide +kernel
theorem d_Re_refuse_13 : decode b_Re_refuse 13 = .ok (.iload_n 2, 1) := by decide +kernel
theorem d_Re_refuse_14 : decode b_Re_refuse 14 = .ok (.putfield 9, 3) := by decide +kernel
theorem d_Re_refuse_17 : decode b_Re_refuse 17 = .ok (.return_, 1) := by decide +kernel
abbrev ru_Re_refuse : Room := { frames := 0, cells := 0, slots := 0, locals := 0 }
def wj_Re_refuse_17 (y : Ly) (Post : St → Prop) (a0 : Nat) (s_j17 : St) : Prop := Post s_j17
def wu_Re_refuse (y : Ly) (Post : St → Prop) (σ : St) (a0 : Nat) (v1 : Int32) (v2 : Int32) : Prop := ((¬ (sV σ a0 5) = 0 → wj_Re_refuse_17 y Post a0 σ) ∧ ((sV σ a0 5) = 0 → xP (uV σ a0 5 v1) (fun s_1 : St => xP (uV s_1 a0 0 v2) (fun s_2 : St => wj_Re_refuse_17 y Post a0 s_2))))
set_option maxHeartbeats 4000000 in
set_option maxRecDepth 100000 in
theorem cu_Re_refuse (l : Launch) (D : va_G) (g : Nat → ClassId) (ad : Nat → Nat) (y : Ly) (Post : St → Prop) (σ : St) (a0 : Nat) (v1 : Int32) (v2 : Int32) (sz : Nat) (h_a0 : cl a0 = 6) (h : wu_Re_refuse y Post σ a0 v1 v2) : Met l y_Re_refuse (mw y_Re_refuse b_Re_refuse 3 (none)) ru_Re_refuse (PC g D [] [.ref (ad a0), .int v1, .int v2] sz (ws g ad y σ)) (va_Qv (fun u : St => Post u) (QW D (va_A (ws g ad y σ) sz) (fun u => ws g ad y u)) (va_A (ws g ad y σ) sz)) 0 0 (va_A (ws g ad y σ) sz) := by
  refine ofV (by decide +kernel) (Nat.le_of_ble_eq_true rfl) ?_
  intro p e s m args below meth c A Q ls H locs G hsz hP hD hS hl hret
  subst hsz
  have hl : lv_has ls 3 [(0, .ref (ad a0)), (1, .int v1), (2, .int v2)] := hl
  unfold wu_Re_refuse at h
  refine lv_aload_n G.1 G.2.1 d_Re_refuse_0 rfl (lv_at hl 0 rfl) ?_
  refine ugf (v := .int (sV σ a0 5)) G hP h_a0 iRe rfl 5 (by decide) rfl q592 rfl rfl d_Re_refuse_1 ?_
  have J_17 : ∀ (s_j17 : St) (H : Heap) (locs : List Loc), wj_Re_refuse_17 y Post a0 s_j17 → va_P D CL (ws g ad y s_j17) H → va_D A (ws g ad y s_j17) → va_S A s.heap H locs → ∀ ls, lv_has ls 3 [] → W p l e ru_Re_refuse s m args below meth c H locs 0 0 Q (F0 m 17 ls []) := by
    intro s_j17 H locs h hP hD hS ls hl
    unfold wj_Re_refuse_17 at h
    exact hret _ _ _ _ _ _ ls h hP hD hS (Nat.le_refl _) (Nat.le_refl _) d_Re_refuse_17
  refine lv_if_ne (tgt := 17) G.1 G.2.1 d_Re_refuse_4 (by decide) (fun c4 => ?_) (fun c4 => ?_)
  · skip
    have h := h.1 c4
    exact J_17 σ H locs h hP hD hS ls (lv_sub hl [] rfl)
  · skip
    have h := h.2 c4
    refine lv_aload_n G.1 G.2.1 d_Re_refuse_7 rfl (lv_at hl 0 rfl) ?_
    refine lv_iload_n G.1 G.2.1 d_Re_refuse_8 rfl (lv_at hl 1 rfl) ?_
    refine upf G hP hD hS h 5 putV h_a0 iRe tRe tRe_ok nRe rfl (by decide) rfl q592 rfl rfl fV rfl rfl d_Re_refuse_9 (fun s_1 H locs h hP hD hS => ?_)
    refine lv_aload_n G.1 G.2.1 d_Re_refuse_12 rfl (lv_at hl 0 rfl) ?_
    refine lv_iload_n G.1 G.2.1 d_Re_refuse_13 rfl (lv_at hl 2 rfl) ?_
    refine upf G hP hD hS h 0 putV h_a0 iRe tRe tRe_ok nRe rfl (by decide) rfl q585 rfl rfl fV rfl rfl d_Re_refuse_14 (fun s_2 H locs h hP hD hS => ?_)
    exact J_17 s_2 H locs h hP hD hS ls (lv_sub hl [] rfl)
theorem q552 : Cond.fieldLink "ClassWorks$Reader" 131 "ClassWorks$Words" "at" "[I" ∈ lw_ok := lw_okmem (List.mem_of_getElem? (i := 552) (by decide +kernel)) rfl
theorem q1317 : Cond.methodLink "ClassWorks$Reader" 96 y_Re_refuse ∈ lw_ok := lw_okmem (List.mem_of_getElem? (i := 1317) (by decide +kernel)) rfl
theorem q1320 : Cond.code y_Re_refuse b_Re_refuse 3 (none) ∈ lw_ok := lw_okmem (List.mem_of_getElem? (i := 1320) (by decide +kernel)) rfl
theorem q340 : Cond.initialized "ClassWorks$Reader" ∈ lw_ok := lw_okmem (List.mem_of_getElem? (i := 340) (by decide +kernel)) rfl
theorem q1319 : Cond.instanceMethod y_Re_refuse ∈ lw_ok := lw_okmem (List.mem_of_getElem? (i := 1319) (by decide +kernel)) rfl
theorem q18 : Cond.selects y_Re_refuse.cls y_Re_refuse y_Re_refuse ∈ lw_ok := lw_okmem (List.mem_of_getElem? (i := 18) (by decide +kernel)) rfl
theorem w9_Re_refuse : CWv y_Re_refuse b_Re_refuse 3 (none) 2 ∧ Cond.instanceMethod y_Re_refuse ∈ lw_ok ∧ Cond.selects y_Re_refuse.cls y_Re_refuse y_Re_refuse ∈ lw_ok := ⟨⟨q1320, q340, by decide +kernel, by decide +kernel, by decide +kernel⟩, q1319, q18⟩
def y_Re_takeKey : MethodName := ⟨"ClassWorks$Reader", "takeKey", "(I)V"⟩
abbrev b_Re_takeKey : ByteArray := prog_8_method_10_code
theorem d_Re_takeKey_0 : decode b_Re_takeKey 0 = .ok (.aload_n 0, 1) := by decide +kernel
theorem d_Re_takeKey_1 : decode b_Re_takeKey 1 = .ok (.getfield 68, 3) := by decide +kernel
theorem d_Re_takeKey_4 : decode b_Re_takeKey 4 = .ok (.getfield 134, 3) := by decide +kernel
theorem d_Re_takeKey_7 : decode b_Re_takeKey 7 = .ok (.aload_n 0, 1) := by decide +kernel
theorem d_Re_takeKey_8 : decode b_Re_takeKey 8 = .ok (.getfield 27, 3) := by decide +kernel
theorem d_Re_takeKey_11 : decode b_Re_takeKey 11 = .ok (.iaload, 1) := by decide +kernel
theorem d_Re_takeKey_12 : decode b_Re_takeKey 12 = .ok (.iconst 1, 1) := by decide +kernel
theorem d_Re_takeKey_13 : decode b_Re_takeKey 13 = .ok (.if_icmp .ne 32, 3) := by decide +kernel
theorem d_Re_takeKey_16 : decode b_Re_takeKey 16 = .ok (.aload_n 0, 1) := by decide +kernel
theorem d_Re_takeKey_17 : decode b_Re_takeKey 17 = .ok (.getfield 68, 3) := by decide +kernel
theorem d_Re_takeKey_20 : decode b_Re_takeKey 20 = .ok (.getfield 137, 3) := by decide +kernel
theorem d_Re_takeKey_23 : decode b_Re_takeKey 23 = .ok (.aload_n 0, 1) := by decide +kernel
theorem d_Re_takeKey_24 : decode b_Re_takeKey 24 = .ok (.getfield 27, 3) := by decide +kernel
theorem d_Re_takeKey_27 : decode b_Re_takeKey 27 = .ok (.iaload, 1) := by decide +kernel
theorem d_Re_takeKey_28 : decode b_Re_takeKey 28 = .ok (.iload_n 1, 1) := by decide +kernel
theorem d_Re_takeKey_29 : decode b_Re_takeKey 29 = .ok (.if_icmp .ne 16, 3) := by decide +kernel
theorem d_Re_takeKey_32 : decode b_Re_takeKey 32 = .ok (.aload_n 0, 1) := by decide +kernel
theorem d_Re_takeKey_33 : decode b_Re_takeKey 33 = .ok (.dup, 1) := by decide +kernel
theorem d_Re_takeKey_34 : decode b_Re_takeKey 34 = .ok (.getfield 27, 3) := by decide +kernel
theorem d_Re_takeKey_37 : decode b_Re_takeKey 37 = .ok (.iconst 1, 1) := by decide +kernel
theorem d_Re_takeKey_38 : decode b_Re_takeKey 38 = .ok (.iadd, 1) := by decide +kernel
theorem d_Re_takeKey_39 : decode b_Re_takeKey 39 = .ok (.putfield 27, 3) := by decide +kernel
theorem d_Re_takeKey_42 : decode b_Re_takeKey 42 = .ok (.goto 20, 3) := by decide +kernel
theorem d_Re_takeKey_45 : decode b_Re_takeKey 45 = .ok (.aload_n 0, 1) := by decide +kernel
theorem d_Re_takeKey_46 : decode b_Re_takeKey 46 = .ok (.iconst 1, 1) := by decide +kernel
theorem d_Re_takeKey_47 : decode b_Re_takeKey 47 = .ok (.aload_n 0, 1) := by decide +kernel
theorem d_Re_takeKey_48 : decode b_Re_takeKey 48 = .ok (.getfield 68, 3) := by decide +kernel
theorem d_Re_takeKey_51 : decode b_Re_takeKey 51 = .ok (.getfield 131, 3) := by decide +kernel
theorem d_Re_takeKey_54 : decode b_Re_takeKey 54 = .ok (.aload_n 0, 1) := by decide +kernel
theorem d_Re_takeKey_55 : decode b_Re_takeKey 55 = .ok (.getfield 27, 3) := by decide +kernel
theorem d_Re_takeKey_58 : decode b_Re_takeKey 58 = .ok (.iaload, 1) := by decide +kernel
theorem d_Re_takeKey_59 : decode b_Re_takeKey 59 = .ok (.invokevirtual 96, 3) := by decide +kernel
theorem d_Re_takeKey_62 : decode b_Re_takeKey 62 = .ok (.return_, 1) := by decide +kernel
abbrev ru_Re_takeKey : Room := { frames := 1, cells := 0, slots := 0, locals := 22 }
def wj_Re_takeKey_62 (y : Ly) (Post : St → Prop) (a0 : Nat) (s_j62 : St) : Prop := Post s_j62
def wj_Re_takeKey_45 (y : Ly) (Post : St → Prop) (a0 : Nat) (s_j45 : St) : Prop := xA y s_j45 (lk a0 3) 2 (sV s_j45 a0 8) (fun x_2 : Int32 => wu_Re_refuse y (fun (s_4 : St) => wj_Re_takeKey_62 y Post a0 s_4) s_j45 a0 1 x_2)
def wu_Re_takeKey (y : Ly) (Post : St → Prop) (σ : St) (a0 : Nat) (v1 : Int32) : Prop := xA y σ (lk a0 3) 0 (sV σ a0 8) (fun x_1 : Int32 => ((¬ x_1 = 1 → wj_Re_takeKey_45 y Post a0 σ) ∧ (x_1 = 1 → xA y σ (lk a0 3) 1 (sV σ a0 8) (fun x_5 : Int32 => ((¬ x_5 = v1 → wj_Re_takeKey_45 y Post a0 σ) ∧ (x_5 = v1 → xP (uV σ a0 8 ((sV σ a0 8) + 1)) (fun s_6 : St => wj_Re_takeKey_62 y Post a0 s_6)))))))
set_option maxHeartbeats 4000000 in
set_option maxRecDepth 100000 in
theorem cu_Re_takeKey (l : Launch) (D : va_G) (g : Nat → ClassId) (ad : Nat → Nat) (y : Ly) (Post : St → Prop) (σ : St) (a0 : Nat) (v1 : Int32) (sz : Nat) (h_a0 : cl a0 = 6) (h : wu_Re_takeKey y Post σ a0 v1) : Met l y_Re_takeKey (mw y_Re_takeKey b_Re_takeKey 2 (none)) ru_Re_takeKey (PC g D [] [.ref (ad a0), .int v1] sz (ws g ad y σ)) (va_Qv (fun u : St => Post u) (QW D (va_A (ws g ad y σ) sz) (fun u => ws g ad y u)) (va_A (ws g ad y σ) sz)) 0 0 (va_A (ws g ad y σ) sz) := by
  refine ofV (by decide +kernel) (Nat.le_of_ble_eq_true rfl) ?_
  intro p e s m args below meth c A Q ls H locs G hsz hP hD hS hl hret
  subst hsz
  have hl : lv_has ls 2 [(0, .ref (ad a0)), (1, .int v1)] := hl
  unfold wu_Re_takeKey at h
  refine lv_aload_n G.1 G.2.1 d_Re_takeKey_0 rfl (lv_at hl 0 rfl) ?_
  refine ugf (v := .ref (ad (lk a0 3))) G hP h_a0 iRe rfl 3 (by decide) rfl q590 rfl rfl d_Re_takeKey_1 ?_
  refine ugf (v := .ref (yP y (lk a0 3) 0)) G hP (lk_6_3 h_a0) iWo rfl 0 (by decide) rfl q548 rfl rfl d_Re_takeKey_4 ?_
  refine lv_aload_n G.1 G.2.1 d_Re_takeKey_7 rfl (lv_at hl 0 rfl) ?_
  refine ugf (v := .int (sV σ a0 8)) G hP h_a0 iRe rfl 8 (by decide) rfl q595 rfl rfl d_Re_takeKey_8 ?_
  refine uiald G hP (kdp (lk_6_3 h_a0) rfl) (typ (lk_6_3 h_a0) rfl) h d_Re_takeKey_11 (fun x_1 h => ?_)
  refine lv_iconst (v := 1) G.1 G.2.1 d_Re_takeKey_12 (by decide) ?_
  have J_62 : ∀ (s_j62 : St) (H : Heap) (locs : List Loc), wj_Re_takeKey_62 y Post a0 s_j62 → va_P D CL (ws g ad y s_j62) H → va_D A (ws g ad y s_j62) → va_S A s.heap H locs → ∀ ls, lv_has ls 2 [] → W p l e ru_Re_takeKey s m args below meth c H locs 0 0 Q (F0 m 62 ls []) := by
    intro s_j62 H locs h hP hD hS ls hl
    unfold wj_Re_takeKey_62 at h
    exact hret _ _ _ _ _ _ ls h hP hD hS (Nat.le_refl _) (Nat.le_refl _) d_Re_takeKey_62
  have J_45 : ∀ (s_j45 : St) (H : Heap) (locs : List Loc), wj_Re_takeKey_45 y Post a0 s_j45 → va_P D CL (ws g ad y s_j45) H → va_D A (ws g ad y s_j45) → va_S A s.heap H locs → ∀ ls, lv_has ls 2 [(0, .ref (ad a0))] → W p l e ru_Re_takeKey s m args below meth c H locs 0 0 Q (F0 m 45 ls []) := by
    intro s_j45 H locs h hP hD hS ls hl
    unfold wj_Re_takeKey_45 at h
    refine lv_aload_n G.1 G.2.1 d_Re_takeKey_45 rfl (lv_at hl 0 rfl) ?_
    refine lv_iconst (v := 1) G.1 G.2.1 d_Re_takeKey_46 (by decide) ?_
    refine lv_aload_n G.1 G.2.1 d_Re_takeKey_47 rfl (lv_at hl 0 rfl) ?_
    refine ugf (v := .ref (ad (lk a0 3))) G hP h_a0 iRe rfl 3 (by decide) rfl q590 rfl rfl d_Re_takeKey_48 ?_
    refine ugf (v := .ref (yP y (lk a0 3) 2)) G hP (lk_6_3 h_a0) iWo rfl 2 (by decide) rfl q552 rfl rfl d_Re_takeKey_51 ?_
    refine lv_aload_n G.1 G.2.1 d_Re_takeKey_54 rfl (lv_at hl 0 rfl) ?_
    refine ugf (v := .int (sV s_j45 a0 8)) G hP h_a0 iRe rfl 8 (by decide) rfl q595 rfl rfl d_Re_takeKey_55 ?_
    refine uiald G hP (kdp (lk_6_3 h_a0) rfl) (typ (lk_6_3 h_a0) rfl) h d_Re_takeKey_58 (fun x_2 h => ?_)
    refine ucVv (As := [.int 1, .int x_2]) (rest := []) G hP hD hS (cu_Re_refuse l D g ad y _ s_j45 a0 1 x_2 H.size h_a0 h) w9_Re_refuse q1317 ⟨Nat.le_of_ble_eq_true rfl, Nat.le_of_ble_eq_true rfl⟩ rfl rfl h_a0 (q := (RRe, TRe, 18)) rfl rfl hl.1 rfl (Nat.le_of_ble_eq_true rfl) rfl ⟨Nat.le_refl _, Nat.le_refl _⟩ d_Re_takeKey_59 (fun s_4 H locs h hP hD hS => ?_)
    exact J_62 s_4 H locs h hP hD hS ls (lv_sub hl [] rfl)
  refine lv_icmp_ne (tgt := 45) G.1 G.2.1 d_Re_takeKey_13 (by decide) (fun c13 => ?_) (fun c13 => ?_)
  · skip
    have h := h.1 c13
    exact J_45 σ H locs h hP hD hS ls (lv_sub hl [0] rfl)
  · skip
    have h := h.2 c13
    refine lv_aload_n G.1 G.2.1 d_Re_takeKey_16 rfl (lv_at hl 0 rfl) ?_
    refine ugf (v := .ref (ad (lk a0 3))) G hP h_a0 iRe rfl 3 (by decide) rfl q590 rfl rfl d_Re_takeKey_17 ?_
    refine ugf (v := .ref (yP y (lk a0 3) 1)) G hP (lk_6_3 h_a0) iWo rfl 1 (by decide) rfl q550 rfl rfl d_Re_takeKey_20 ?_
    refine W.eq (g2 := F0 m 23 ls [.ref (yP y (lk a0 3) 1)]) rfl ?_
    refine lv_aload_n G.1 G.2.1 d_Re_takeKey_23 rfl (lv_at hl 0 rfl) ?_
    refine ugf (v := .int (sV σ a0 8)) G hP h_a0 iRe rfl 8 (by decide) rfl q595 rfl rfl d_Re_takeKey_24 ?_
    refine uiald G hP (kdp (lk_6_3 h_a0) rfl) (typ (lk_6_3 h_a0) rfl) h d_Re_takeKey_27 (fun x_5 h => ?_)
    refine lv_iload_n G.1 G.2.1 d_Re_takeKey_28 rfl (lv_at hl 1 rfl) ?_
    refine lv_icmp_ne (tgt := 45) G.1 G.2.1 d_Re_takeKey_29 (by decide) (fun c29 => ?_) (fun c29 => ?_)
    · skip
      have h := h.1 c29
      exact J_45 σ H locs h hP hD hS ls (lv_sub hl [0] rfl)
    · skip
      have h := h.2 c29
      refine lv_aload_n G.1 G.2.1 d_Re_takeKey_32 rfl (lv_at hl 0 rfl) ?_
      refine lv_dup G.1 G.2.1 d_Re_takeKey_33 rfl ?_
      refine ugf (v := .int (sV σ a0 8)) G hP h_a0 iRe rfl 8 (by decide) rfl q595 rfl rfl d_Re_takeKey_34 ?_
      refine lv_iconst (v := 1) G.1 G.2.1 d_Re_takeKey_37 (by decide) ?_
      refine lv_iadd G.1 G.2.1 d_Re_takeKey_38 ?_
      refine upf G hP hD hS h 8 putV h_a0 iRe tRe tRe_ok nRe rfl (by decide) rfl q595 rfl rfl fV rfl rfl d_Re_takeKey_39 (fun s_6 H locs h hP hD hS => ?_)
      refine lv_goto (tgt := 62) G.1 G.2.1 d_Re_takeKey_42 (by decide) ?_
      exact J_62 s_6 H locs h hP hD hS ls (lv_sub hl [] rfl)
def y_Re_take : MethodName := ⟨"ClassWorks$Reader", "take", "(C)I"⟩
abbrev b_Re_take : ByteArray := prog_8_method_11_code
theorem d_Re_take_0 : decode b_Re_take 0 = .ok (.aload_n 0, 1) := by decide +kernel
theorem d_Re_take_1 : decode b_Re_take 1 = .ok (.getfield 68, 3) := by decide +kernel
theorem d_Re_take_4 : decode b_Re_take 4 = .ok (.getfield 134, 3) := by decide +kernel
theorem d_Re_take_7 : decode b_Re_take 7 = .ok (.aload_n 0, 1) := by decide +kernel
theorem d_Re_take_8 : decode b_Re_take 8 = .ok (.getfield 27, 3) := by decide +kernel
theorem d_Re_take_11 : decode b_Re_take 11 = .ok (.iaload, 1) := by decide +kernel
theorem d_Re_take_12 : decode b_Re_take 12 = .ok (.istore_n 2, 1) := by decide +kernel
theorem d_Re_take_13 : decode b_Re_take 13 = .ok (.aload_n 0, 1) := by decide +kernel
theorem d_Re_take_14 : decode b_Re_take 14 = .ok (.getfield 68, 3) := by decide +kernel
theorem d_Re_take_17 : decode b_Re_take 17 = .ok (.getfield 137, 3) := by decide +kernel
theorem d_Re_take_20 : decode b_Re_take 20 = .ok (.aload_n 0, 1) := by decide +kernel
theorem d_Re_take_21 : decode b_Re_take 21 = .ok (.getfield 27, 3) := by decide +kernel
theorem d_Re_take_24 : decode b_Re_take 24 = .ok (.iaload, 1) := by decide +kernel
theorem d_Re_take_25 : decode b_Re_take 25 = .ok (.istore_n 3, 1) := by decide +kernel
theorem d_Re_take_26 : decode b_Re_take 26 = .ok (.iload_n 2, 1) := by decide +kernel
theorem d_Re_take_27 : decode b_Re_take 27 = .ok (.iconst 1, 1) := by decide +kernel
theorem d_Re_take_28 : decode b_Re_take 28 = .ok (.if_icmp .ne 7, 3) := by decide +kernel
theorem d_Re_take_31 : decode b_Re_take 31 = .ok (.iconst 1, 1) := by decide +kernel
theorem d_Re_take_32 : decode b_Re_take 32 = .ok (.goto 4, 3) := by decide +kernel
theorem d_Re_take_35 : decode b_Re_take 35 = .ok (.iconst 0, 1) := by decide +kernel
theorem d_Re_take_36 : decode b_Re_take 36 = .ok (.istore 4, 2) := by decide +kernel
theorem d_Re_take_38 : decode b_Re_take 38 = .ok (.iload_n 2, 1) := by decide +kernel
theorem d_Re_take_39 : decode b_Re_take 39 = .ok (.iconst 2, 1) := by decide +kernel
theorem d_Re_take_40 : decode b_Re_take 40 = .ok (.if_icmp .ne 7, 3) := by decide +kernel
theorem d_Re_take_43 : decode b_Re_take 43 = .ok (.iconst 1, 1) := by decide +kernel
theorem d_Re_take_44 : decode b_Re_take 44 = .ok (.goto 4, 3) := by decide +kernel
theorem d_Re_take_47 : decode b_Re_take 47 = .ok (.iconst 0, 1) := by decide +kernel
theorem d_Re_take_48 : decode b_Re_take 48 = .ok (.istore 5, 2) := by decide +kernel
theorem d_Re_take_50 : decode b_Re_take 50 = .ok (.iload_n 1, 1) := by decide +kernel
theorem d_Re_take_51 : decode b_Re_take 51 = .ok (.lookupswitch 387 #[(36, 113), (75, 277), (77, 154), (78, 201), (82, 246), (84, 220), (99, 180), (104, 303), (105, 362), (107, 330), (109, 134), (110, 127), (112, 337)], 113) := by decide +kernel
theorem d_Re_take_164 : decode b_Re_take 164 = .ok (.iload_n 2, 1) := by decide +kernel
theorem d_Re_take_165 : decode b_Re_take 165 = .ok (.ifCond .ne 7, 3) := by decide +kernel
theorem d_Re_take_168 : decode b_Re_take 168 = .ok (.iconst 1, 1) := by decide +kernel
theorem d_Re_take_169 : decode b_Re_take 169 = .ok (.goto 4, 3) := by decide +kernel
theorem d_Re_take_172 : decode b_Re_take 172 = .ok (.iconst 0, 1) := by decide +kernel
theorem d_Re_take_173 : decode b_Re_take 173 = .ok (.istore 6, 2) := by decide +kernel
theorem d_Re_take_175 : decode b_Re_take 175 = .ok (.goto 280, 3) := by decide +kernel
theorem d_Re_take_178 : decode b_Re_take 178 = .ok (.iload 4, 2) := by decide +kernel
theorem d_Re_take_180 : decode b_Re_take 180 = .ok (.istore 6, 2) := by decide +kernel
theorem d_Re_take_182 : decode b_Re_take 182 = .ok (.goto 273, 3) := by decide +kernel
theorem d_Re_take_185 : decode b_Re_take 185 = .ok (.iload 4, 2) := by decide +kernel
theorem d_Re_take_187 : decode b_Re_take 187 = .ok (.ifCond .ne 8, 3) := by decide +kernel
theorem d_Re_take_190 : decode b_Re_take 190 = .ok (.iload_n 2, 1) := by decide +kernel
theorem d_Re_take_191 : decode b_Re_take 191 = .ok (.iconst 4, 1) := by decide +kernel
theorem d_Re_take_192 : decode b_Re_take 192 = .ok (.if_icmp .ne 7, 3) := by decide +kernel
theorem d_Re_take_195 : decode b_Re_take 195 = .ok (.iconst 1, 1) := by decide +kernel
theorem d_Re_take_196 : decode b_Re_take 196 = .ok (.goto 4, 3) := by decide +kernel
theorem d_Re_take_199 : decode b_Re_take 199 = .ok (.iconst 0, 1) := by decide +kernel
theorem d_Re_take_200 : decode b_Re_take 200 = .ok (.istore 6, 2) := by decide +kernel
theorem d_Re_take_202 : decode b_Re_take 202 = .ok (.goto 253, 3) := by decide +kernel
theorem d_Re_take_205 : decode b_Re_take 205 = .ok (.iload 4, 2) := by decide +kernel
theorem d_Re_take_207 : decode b_Re_take 207 = .ok (.ifCond .ne 14, 3) := by decide +kernel
theorem d_Re_take_210 : decode b_Re_take 210 = .ok (.iload_n 2, 1) := by decide +kernel
theorem d_Re_take_211 : decode b_Re_take 211 = .ok (.iconst 4, 1) := by decide +kernel
theorem d_Re_take_212 : decode b_Re_take 212 = .ok (.if_icmp .ne 13, 3) := by decide +kernel
theorem d_Re_take_215 : decode b_Re_take 215 = .ok (.iload_n 3, 1) := by decide +kernel
theorem d_Re_take_216 : decode b_Re_take 216 = .ok (.bipush 7, 2) := by decide +kernel
theorem d_Re_take_218 : decode b_Re_take 218 = .ok (.if_icmp .ne 7, 3) := by decide +kernel
theorem d_Re_take_221 : decode b_Re_take 221 = .ok (.iconst 1, 1) := by decide +kernel
theorem d_Re_take_222 : decode b_Re_take 222 = .ok (.goto 4, 3) := by decide +kernel
theorem d_Re_take_225 : decode b_Re_take 225 = .ok (.iconst 0, 1) := by decide +kernel
theorem d_Re_take_226 : decode b_Re_take 226 = .ok (.istore 6, 2) := by decide +kernel
theorem d_Re_take_228 : decode b_Re_take 228 = .ok (.goto 227, 3) := by decide +kernel
theorem d_Re_take_231 : decode b_Re_take 231 = .ok (.iload 4, 2) := by decide +kernel
theorem d_Re_take_233 : decode b_Re_take 233 = .ok (.ifCond .eq 13, 3) := by decide +kernel
theorem d_Re_take_236 : decode b_Re_take 236 = .ok (.iload_n 3, 1) := by decide +kernel
theorem d_Re_take_237 : decode b_Re_take 237 = .ok (.bipush 9, 2) := by decide +kernel
theorem d_Re_take_239 : decode b_Re_take 239 = .ok (.if_icmp .lt 7, 3) := by decide +kernel
theorem d_Re_take_242 : decode b_Re_take 242 = .ok (.iconst 1, 1) := by decide +kernel
theorem d_Re_take_243 : decode b_Re_take 243 = .ok (.goto 4, 3) := by decide +kernel
theorem d_Re_take_246 : decode b_Re_take 246 = .ok (.iconst 0, 1) := by decide +kernel
theorem d_Re_take_247 : decode b_Re_take 247 = .ok (.istore 6, 2) := by decide +kernel
theorem d_Re_take_249 : decode b_Re_take 249 = .ok (.goto 206, 3) := by decide +kernel
theorem d_Re_take_252 : decode b_Re_take 252 = .ok (.iload 4, 2) := by decide +kernel
theorem d_Re_take_254 : decode b_Re_take 254 = .ok (.ifCond .eq 11, 3) := by decide +kernel
theorem d_Re_take_257 : decode b_Re_take 257 = .ok (.iload_n 3, 1) := by decide +kernel
theorem d_Re_take_258 : decode b_Re_take 258 = .ok (.ifCond .ne 7, 3) := by decide +kernel
theorem d_Re_take_261 : decode b_Re_take 261 = .ok (.iconst 1, 1) := by decide +kernel
theorem d_Re_take_262 : decode b_Re_take 262 = .ok (.goto 4, 3) := by decide +kernel
theorem d_Re_take_265 : decode b_Re_take 265 = .ok (.iconst 0, 1) := by decide +kernel
theorem d_Re_take_266 : decode b_Re_take 266 = .ok (.istore 6, 2) := by decide +kernel
theorem d_Re_take_268 : decode b_Re_take 268 = .ok (.goto 187, 3) := by decide +kernel
theorem d_Re_take_271 : decode b_Re_take 271 = .ok (.iload 4, 2) := by decide +kernel
theorem d_Re_take_273 : decode b_Re_take 273 = .ok (.ifCond .eq 18, 3) := by decide +kernel
theorem d_Re_take_276 : decode b_Re_take 276 = .ok (.iload_n 3, 1) := by decide +kernel
theorem d_Re_take_277 : decode b_Re_take 277 = .ok (.iconst 1, 1) := by decide +kernel
theorem d_Re_take_278 : decode b_Re_take 278 = .ok (.if_icmp .le 9, 3) := by decide +kernel
theorem d_Re_take_281 : decode b_Re_take 281 = .ok (.iload_n 3, 1) := by decide +kernel
theorem d_Re_take_282 : decode b_Re_take 282 = .ok (.bipush 9, 2) := by decide +kernel
theorem d_Re_take_284 : decode b_Re_take 284 = .ok (.if_icmp .lt 7, 3) := by decide +kernel
theorem d_Re_take_287 : decode b_Re_take 287 = .ok (.iconst 1, 1) := by decide +kernel
theorem d_Re_take_288 : decode b_Re_take 288 = .ok (.goto 4, 3) := by decide +kernel
theorem d_Re_take_291 : decode b_Re_take 291 = .ok (.iconst 0, 1) := by decide +kernel
theorem d_Re_take_292 : decode b_Re_take 292 = .ok (.istore 6, 2) := by decide +kernel
theorem d_Re_take_294 : decode b_Re_take 294 = .ok (.goto 161, 3) := by decide +kernel
theorem d_Re_take_297 : decode b_Re_take 297 = .ok (.iload 4, 2) := by decide +kernel
theorem d_Re_take_299 : decode b_Re_take 299 = .ok (.ifCond .eq 23, 3) := by decide +kernel
theorem d_Re_take_302 : decode b_Re_take 302 = .ok (.iload_n 3, 1) := by decide +kernel
theorem d_Re_take_303 : decode b_Re_take 303 = .ok (.iconst 1, 1) := by decide +kernel
theorem d_Re_take_304 : decode b_Re_take 304 = .ok (.if_icmp .le 14, 3) := by decide +kernel
theorem d_Re_take_307 : decode b_Re_take 307 = .ok (.iload_n 3, 1) := by decide +kernel
theorem d_Re_take_308 : decode b_Re_take 308 = .ok (.iconst 5, 1) := by decide +kernel
theorem d_Re_take_309 : decode b_Re_take 309 = .ok (.if_icmp .eq 9, 3) := by decide +kernel
theorem d_Re_take_312 : decode b_Re_take 312 = .ok (.iload_n 3, 1) := by decide +kernel
theorem d_Re_take_313 : decode b_Re_take 313 = .ok (.bipush 9, 2) := by decide +kernel
theorem d_Re_take_315 : decode b_Re_take 315 = .ok (.if_icmp .lt 7, 3) := by decide +kernel
theorem d_Re_take_318 : decode b_Re_take 318 = .ok (.iconst 1, 1) := by decide +kernel
theorem d_Re_take_319 : decode b_Re_take 319 = .ok (.goto 4, 3) := by decide +kernel
theorem d_Re_take_322 : decode b_Re_take 322 = .ok (.iconst 0, 1) := by decide +kernel
theorem d_Re_take_323 : decode b_Re_take 323 = .ok (.istore 6, 2) := by decide +kernel
theorem d_Re_take_325 : decode b_Re_take 325 = .ok (.goto 130, 3) := by decide +kernel
theorem d_Re_take_328 : decode b_Re_take 328 = .ok (.iload 4, 2) := by decide +kernel
theorem d_Re_take_330 : decode b_Re_take 330 = .ok (.ifCond .eq 18, 3) := by decide +kernel
theorem d_Re_take_333 : decode b_Re_take 333 = .ok (.iload_n 3, 1) := by decide +kernel
theorem d_Re_take_334 : decode b_Re_take 334 = .ok (.iconst 4, 1) := by decide +kernel
theorem d_Re_take_335 : decode b_Re_take 335 = .ok (.if_icmp .le 9, 3) := by decide +kernel
theorem d_Re_take_338 : decode b_Re_take 338 = .ok (.iload_n 3, 1) := by decide +kernel
theorem d_Re_take_339 : decode b_Re_take 339 = .ok (.bipush 9, 2) := by decide +kernel
theorem d_Re_take_341 : decode b_Re_take 341 = .ok (.if_icmp .lt 7, 3) := by decide +kernel
theorem d_Re_take_344 : decode b_Re_take 344 = .ok (.iconst 1, 1) := by decide +kernel
theorem d_Re_take_345 : decode b_Re_take 345 = .ok (.goto 4, 3) := by decide +kernel
theorem d_Re_take_348 : decode b_Re_take 348 = .ok (.iconst 0, 1) := by decide +kernel
theorem d_Re_take_349 : decode b_Re_take 349 = .ok (.istore 6, 2) := by decide +kernel
theorem d_Re_take_351 : decode b_Re_take 351 = .ok (.goto 104, 3) := by decide +kernel
theorem d_Re_take_354 : decode b_Re_take 354 = .ok (.iload 4, 2) := by decide +kernel
theorem d_Re_take_356 : decode b_Re_take 356 = .ok (.ifCond .eq 19, 3) := by decide +kernel
theorem d_Re_take_359 : decode b_Re_take 359 = .ok (.iload_n 3, 1) := by decide +kernel
theorem d_Re_take_360 : decode b_Re_take 360 = .ok (.bipush 6, 2) := by decide +kernel
theorem d_Re_take_362 : decode b_Re_take 362 = .ok (.if_icmp .eq 9, 3) := by decide +kernel
theorem d_Re_take_365 : decode b_Re_take 365 = .ok (.iload_n 3, 1) := by decide +kernel
theorem d_Re_take_366 : decode b_Re_take 366 = .ok (.bipush 9, 2) := by decide +kernel
theorem d_Re_take_368 : decode b_Re_take 368 = .ok (.if_icmp .lt 7, 3) := by decide +kernel
theorem d_Re_take_371 : decode b_Re_take 371 = .ok (.iconst 1, 1) := by decide +kernel
theorem d_Re_take_372 : decode b_Re_take 372 = .ok (.goto 4, 3) := by decide +kernel
theorem d_Re_take_375 : decode b_Re_take 375 = .ok (.iconst 0, 1) := by decide +kernel
theorem d_Re_take_376 : decode b_Re_take 376 = .ok (.istore 6, 2) := by decide +kernel
theorem d_Re_take_378 : decode b_Re_take 378 = .ok (.goto 77, 3) := by decide +kernel
theorem d_Re_take_381 : decode b_Re_take 381 = .ok (.iload 5, 2) := by decide +kernel
theorem d_Re_take_383 : decode b_Re_take 383 = .ok (.istore 6, 2) := by decide +kernel
theorem d_Re_take_385 : decode b_Re_take 385 = .ok (.goto 70, 3) := by decide +kernel
theorem d_Re_take_388 : decode b_Re_take 388 = .ok (.iload 5, 2) := by decide +kernel
theorem d_Re_take_390 : decode b_Re_take 390 = .ok (.ifCond .eq 17, 3) := by decide +kernel
theorem d_Re_take_393 : decode b_Re_take 393 = .ok (.iload_n 3, 1) := by decide +kernel
theorem d_Re_take_394 : decode b_Re_take 394 = .ok (.ifCond .lt 13, 3) := by decide +kernel
theorem d_Re_take_397 : decode b_Re_take 397 = .ok (.iload_n 3, 1) := by decide +kernel
theorem d_Re_take_398 : decode b_Re_take 398 = .ok (.bipush 20, 2) := by decide +kernel
theorem d_Re_take_400 : decode b_Re_take 400 = .ok (.if_icmp .gt 7, 3) := by decide +kernel
theorem d_Re_take_403 : decode b_Re_take 403 = .ok (.iconst 1, 1) := by decide +kernel
theorem d_Re_take_404 : decode b_Re_take 404 = .ok (.goto 4, 3) := by decide +kernel
theorem d_Re_take_407 : decode b_Re_take 407 = .ok (.iconst 0, 1) := by decide +kernel
theorem d_Re_take_408 : decode b_Re_take 408 = .ok (.istore 6, 2) := by decide +kernel
theorem d_Re_take_410 : decode b_Re_take 410 = .ok (.goto 45, 3) := by decide +kernel
theorem d_Re_take_413 : decode b_Re_take 413 = .ok (.iload 5, 2) := by decide +kernel
theorem d_Re_take_415 : decode b_Re_take 415 = .ok (.ifCond .eq 17, 3) := by decide +kernel
theorem d_Re_take_418 : decode b_Re_take 418 = .ok (.iload_n 3, 1) := by decide +kernel
theorem d_Re_take_419 : decode b_Re_take 419 = .ok (.ifCond .lt 13, 3) := by decide +kernel
theorem d_Re_take_422 : decode b_Re_take 422 = .ok (.iload_n 3, 1) := by decide +kernel
theorem d_Re_take_423 : decode b_Re_take 423 = .ok (.bipush 20, 2) := by decide +kernel
theorem d_Re_take_425 : decode b_Re_take 425 = .ok (.if_icmp .ge 7, 3) := by decide +kernel
theorem d_Re_take_428 : decode b_Re_take 428 = .ok (.iconst 1, 1) := by decide +kernel
theorem d_Re_take_429 : decode b_Re_take 429 = .ok (.goto 4, 3) := by decide +kernel
theorem d_Re_take_432 : decode b_Re_take 432 = .ok (.iconst 0, 1) := by decide +kernel
theorem d_Re_take_433 : decode b_Re_take 433 = .ok (.istore 6, 2) := by decide +kernel
theorem d_Re_take_435 : decode b_Re_take 435 = .ok (.goto 20, 3) := by decide +kernel
theorem d_Re_take_438 : decode b_Re_take 438 = .ok (.iload_n 2, 1) := by decide +kernel
theorem d_Re_take_439 : decode b_Re_take 439 = .ok (.iconst 3, 1) := by decide +kernel
theorem d_Re_take_440 : decode b_Re_take 440 = .ok (.if_icmp .ne 12, 3) := by decide +kernel
theorem d_Re_take_443 : decode b_Re_take 443 = .ok (.iload_n 3, 1) := by decide +kernel
theorem d_Re_take_444 : decode b_Re_take 444 = .ok (.iload_n 1, 1) := by decide +kernel
theorem d_Re_take_445 : decode b_Re_take 445 = .ok (.if_icmp .ne 7, 3) := by decide +kernel
theorem d_Re_take_448 : decode b_Re_take 448 = .ok (.iconst 1, 1) := by decide +kernel
theorem d_Re_take_449 : decode b_Re_take 449 = .ok (.goto 4, 3) := by decide +kernel
theorem d_Re_take_452 : decode b_Re_take 452 = .ok (.iconst 0, 1) := by decide +kernel
theorem d_Re_take_453 : decode b_Re_take 453 = .ok (.istore 6, 2) := by decide +kernel
theorem d_Re_take_455 : decode b_Re_take 455 = .ok (.iload 6, 2) := by decide +kernel
theorem d_Re_take_457 : decode b_Re_take 457 = .ok (.ifCond .ne 31, 3) := by decide +kernel
theorem d_Re_take_460 : decode b_Re_take 460 = .ok (.aload_n 0, 1) := by decide +kernel
theorem d_Re_take_461 : decode b_Re_take 461 = .ok (.getfield 18, 3) := by decide +kernel
theorem d_Re_take_464 : decode b_Re_take 464 = .ok (.ifCond .ne 24, 3) := by decide +kernel
theorem d_Re_take_467 : decode b_Re_take 467 = .ok (.aload_n 0, 1) := by decide +kernel
theorem d_Re_take_468 : decode b_Re_take 468 = .ok (.iconst 1, 1) := by decide +kernel
theorem d_Re_take_469 : decode b_Re_take 469 = .ok (.putfield 18, 3) := by decide +kernel
theorem d_Re_take_472 : decode b_Re_take 472 = .ok (.aload_n 0, 1) := by decide +kernel
theorem d_Re_take_473 : decode b_Re_take 473 = .ok (.aload_n 0, 1) := by decide +kernel
theorem d_Re_take_474 : decode b_Re_take 474 = .ok (.getfield 68, 3) := by decide +kernel
theorem d_Re_take_477 : decode b_Re_take 477 = .ok (.getfield 131, 3) := by decide +kernel
theorem d_Re_take_480 : decode b_Re_take 480 = .ok (.aload_n 0, 1) := by decide +kernel
theorem d_Re_take_481 : decode b_Re_take 481 = .ok (.getfield 27, 3) := by decide +kernel
theorem d_Re_take_484 : decode b_Re_take 484 = .ok (.iaload, 1) := by decide +kernel
theorem d_Re_take_485 : decode b_Re_take 485 = .ok (.putfield 9, 3) := by decide +kernel
theorem d_Re_take_488 : decode b_Re_take 488 = .ok (.aload_n 0, 1) := by decide +kernel
theorem d_Re_take_489 : decode b_Re_take 489 = .ok (.dup, 1) := by decide +kernel
theorem d_Re_take_490 : decode b_Re_take 490 = .ok (.getfield 27, 3) := by decide +kernel
theorem d_Re_take_493 : decode b_Re_take 493 = .ok (.iload 6, 2) := by decide +kernel
theorem d_Re_take_495 : decode b_Re_take 495 = .ok (.ifCond .eq 13, 3) := by decide +kernel
theorem d_Re_take_498 : decode b_Re_take 498 = .ok (.iload_n 1, 1) := by decide +kernel
theorem d_Re_take_499 : decode b_Re_take 499 = .ok (.bipush 36, 2) := by decide +kernel
theorem d_Re_take_501 : decode b_Re_take 501 = .ok (.if_icmp .eq 7, 3) := by decide +kernel
theorem d_Re_take_504 : decode b_Re_take 504 = .ok (.iconst 1, 1) := by decide +kernel
theorem d_Re_take_505 : decode b_Re_take 505 = .ok (.goto 4, 3) := by decide +kernel
theorem d_Re_take_508 : decode b_Re_take 508 = .ok (.iconst 0, 1) := by decide +kernel
theorem d_Re_take_509 : decode b_Re_take 509 = .ok (.iadd, 1) := by decide +kernel
theorem d_Re_take_510 : decode b_Re_take 510 = .ok (.putfield 27, 3) := by decide +kernel
theorem d_Re_take_513 : decode b_Re_take 513 = .ok (.iload 6, 2) := by decide +kernel
theorem d_Re_take_515 : decode b_Re_take 515 = .ok (.ifCond .eq 7, 3) := by decide +kernel
theorem d_Re_take_518 : decode b_Re_take 518 = .ok (.iload_n 3, 1) := by decide +kernel
theorem d_Re_take_519 : decode b_Re_take 519 = .ok (.goto 4, 3) := by decide +kernel
theorem d_Re_take_522 : decode b_Re_take 522 = .ok (.iconst 0, 1) := by decide +kernel
theorem d_Re_take_523 : decode b_Re_take 523 = .ok (.ireturn, 1) := by decide +kernel
abbrev ru_Re_take : Room := { frames := 0, cells := 0, slots := 0, locals := 0 }
def wj_Re_take_523 (y : Ly) (Post : St → Int32 → Prop) (a0 : Nat) (s_j523 : St) (z0j523 : Int32) : Prop := Post s_j523 z0j523
def wj_Re_take_509 (y : Ly) (Post : St → Int32 → Prop) (a0 : Nat) (s_j509 : St) (x3j509 : Int32) (x6j509 : Int32) (z1j509 : Int32) (z2j509 : Int32) : Prop := xP (uV s_j509 a0 8 (z1j509 + z2j509)) (fun s_3 : St => ((x6j509 = 0 → wj_Re_take_523 y Post a0 s_3 0) ∧ (¬ (x6j509 = 0) → wj_Re_take_523 y Post a0 s_3 x3j509)))
def wj_Re_take_508 (y : Ly) (Post : St → Int32 → Prop) (a0 : Nat) (s_j508 : St) (x3j508 : Int32) (x6j508 : Int32) (z1j508 : Int32) : Prop := wj_Re_take_509 y Post a0 s_j508 x3j508 x6j508 z1j508 0
def wj_Re_take_488 (y : Ly) (Post : St → Int32 → Prop) (a0 : Nat) (s_j488 : St) (x1j488 : Int32) (x3j488 : Int32) (x6j488 : Int32) : Prop := ((x6j488 = 0 → wj_Re_take_508 y Post a0 s_j488 x3j488 x6j488 (sV s_j488 a0 8)) ∧ (¬ (x6j488 = 0) → ((x1j488 = 36 → wj_Re_take_508 y Post a0 s_j488 x3j488 x6j488 (sV s_j488 a0 8)) ∧ (¬ (x1j488 = 36) → wj_Re_take_509 y Post a0 s_j488 x3j488 x6j488 (sV s_j488 a0 8) 1))))
def wj_Re_take_455 (y : Ly) (Post : St → Int32 → Prop) (a0 : Nat) (s_j455 : St) (x1j455 : Int32) (x3j455 : Int32) (x6j455 : Int32) : Prop := ((¬ x6j455 = 0 → wj_Re_take_488 y Post a0 s_j455 x1j455 x3j455 x6j455) ∧ (x6j455 = 0 → ((¬ (sV s_j455 a0 5) = 0 → wj_Re_take_488 y Post a0 s_j455 x1j455 x3j455 x6j455) ∧ ((sV s_j455 a0 5) = 0 → xP (uV s_j455 a0 5 1) (fun s_4 : St => xA y s_4 (lk a0 3) 2 (sV s_4 a0 8) (fun x_5 : Int32 => xP (uV s_4 a0 0 x_5) (fun s_6 : St => wj_Re_take_488 y Post a0 s_6 x1j455 x3j455 x6j455)))))))
def wj_Re_take_173 (y : Ly) (Post : St → Int32 → Prop) (a0 : Nat) (s_j173 : St) (x1j173 : Int32) (x3j173 : Int32) (z0j173 : Int32) : Prop := wj_Re_take_455 y Post a0 s_j173 x1j173 x3j173 z0j173
def wj_Re_take_349 (y : Ly) (Post : St → Int32 → Prop) (a0 : Nat) (s_j349 : St) (x1j349 : Int32) (x3j349 : Int32) (z0j349 : Int32) : Prop := wj_Re_take_455 y Post a0 s_j349 x1j349 x3j349 z0j349
def wj_Re_take_348 (y : Ly) (Post : St → Int32 → Prop) (a0 : Nat) (s_j348 : St) (x1j348 : Int32) (x3j348 : Int32) : Prop := wj_Re_take_349 y Post a0 s_j348 x1j348 x3j348 0
def wj_Re_take_344 (y : Ly) (Post : St → Int32 → Prop) (a0 : Nat) (s_j344 : St) (x1j344 : Int32) (x3j344 : Int32) : Prop := wj_Re_take_349 y Post a0 s_j344 x1j344 x3j344 1
def wj_Re_take_226 (y : Ly) (Post : St → Int32 → Prop) (a0 : Nat) (s_j226 : St) (x1j226 : Int32) (x3j226 : Int32) (z0j226 : Int32) : Prop := wj_Re_take_455 y Post a0 s_j226 x1j226 x3j226 z0j226
def wj_Re_take_221 (y : Ly) (Post : St → Int32 → Prop) (a0 : Nat) (s_j221 : St) (x1j221 : Int32) (x3j221 : Int32) : Prop := wj_Re_take_226 y Post a0 s_j221 x1j221 x3j221 1
def wj_Re_take_225 (y : Ly) (Post : St → Int32 → Prop) (a0 : Nat) (s_j225 : St) (x1j225 : Int32) (x3j225 : Int32) : Prop := wj_Re_take_226 y Post a0 s_j225 x1j225 x3j225 0
def wj_Re_take_266 (y : Ly) (Post : St → Int32 → Prop) (a0 : Nat) (s_j266 : St) (x1j266 : Int32) (x3j266 : Int32) (z0j266 : Int32) : Prop := wj_Re_take_455 y Post a0 s_j266 x1j266 x3j266 z0j266
def wj_Re_take_265 (y : Ly) (Post : St → Int32 → Prop) (a0 : Nat) (s_j265 : St) (x1j265 : Int32) (x3j265 : Int32) : Prop := wj_Re_take_266 y Post a0 s_j265 x1j265 x3j265 0
def wj_Re_take_323 (y : Ly) (Post : St → Int32 → Prop) (a0 : Nat) (s_j323 : St) (x1j323 : Int32) (x3j323 : Int32) (z0j323 : Int32) : Prop := wj_Re_take_455 y Post a0 s_j323 x1j323 x3j323 z0j323
def wj_Re_take_322 (y : Ly) (Post : St → Int32 → Prop) (a0 : Nat) (s_j322 : St) (x1j322 : Int32) (x3j322 : Int32) : Prop := wj_Re_take_323 y Post a0 s_j322 x1j322 x3j322 0
def wj_Re_take_318 (y : Ly) (Post : St → Int32 → Prop) (a0 : Nat) (s_j318 : St) (x1j318 : Int32) (x3j318 : Int32) : Prop := wj_Re_take_323 y Post a0 s_j318 x1j318 x3j318 1
def wj_Re_take_292 (y : Ly) (Post : St → Int32 → Prop) (a0 : Nat) (s_j292 : St) (x1j292 : Int32) (x3j292 : Int32) (z0j292 : Int32) : Prop := wj_Re_take_455 y Post a0 s_j292 x1j292 x3j292 z0j292
def wj_Re_take_291 (y : Ly) (Post : St → Int32 → Prop) (a0 : Nat) (s_j291 : St) (x1j291 : Int32) (x3j291 : Int32) : Prop := wj_Re_take_292 y Post a0 s_j291 x1j291 x3j291 0
def wj_Re_take_287 (y : Ly) (Post : St → Int32 → Prop) (a0 : Nat) (s_j287 : St) (x1j287 : Int32) (x3j287 : Int32) : Prop := wj_Re_take_292 y Post a0 s_j287 x1j287 x3j287 1
def wj_Re_take_247 (y : Ly) (Post : St → Int32 → Prop) (a0 : Nat) (s_j247 : St) (x1j247 : Int32) (x3j247 : Int32) (z0j247 : Int32) : Prop := wj_Re_take_455 y Post a0 s_j247 x1j247 x3j247 z0j247
def wj_Re_take_246 (y : Ly) (Post : St → Int32 → Prop) (a0 : Nat) (s_j246 : St) (x1j246 : Int32) (x3j246 : Int32) : Prop := wj_Re_take_247 y Post a0 s_j246 x1j246 x3j246 0
def wj_Re_take_376 (y : Ly) (Post : St → Int32 → Prop) (a0 : Nat) (s_j376 : St) (x1j376 : Int32) (x3j376 : Int32) (z0j376 : Int32) : Prop := wj_Re_take_455 y Post a0 s_j376 x1j376 x3j376 z0j376
def wj_Re_take_375 (y : Ly) (Post : St → Int32 → Prop) (a0 : Nat) (s_j375 : St) (x1j375 : Int32) (x3j375 : Int32) : Prop := wj_Re_take_376 y Post a0 s_j375 x1j375 x3j375 0
def wj_Re_take_371 (y : Ly) (Post : St → Int32 → Prop) (a0 : Nat) (s_j371 : St) (x1j371 : Int32) (x3j371 : Int32) : Prop := wj_Re_take_376 y Post a0 s_j371 x1j371 x3j371 1
def wj_Re_take_433 (y : Ly) (Post : St → Int32 → Prop) (a0 : Nat) (s_j433 : St) (x1j433 : Int32) (x3j433 : Int32) (z0j433 : Int32) : Prop := wj_Re_take_455 y Post a0 s_j433 x1j433 x3j433 z0j433
def wj_Re_take_432 (y : Ly) (Post : St → Int32 → Prop) (a0 : Nat) (s_j432 : St) (x1j432 : Int32) (x3j432 : Int32) : Prop := wj_Re_take_433 y Post a0 s_j432 x1j432 x3j432 0
def wj_Re_take_200 (y : Ly) (Post : St → Int32 → Prop) (a0 : Nat) (s_j200 : St) (x1j200 : Int32) (x3j200 : Int32) (z0j200 : Int32) : Prop := wj_Re_take_455 y Post a0 s_j200 x1j200 x3j200 z0j200
def wj_Re_take_195 (y : Ly) (Post : St → Int32 → Prop) (a0 : Nat) (s_j195 : St) (x1j195 : Int32) (x3j195 : Int32) : Prop := wj_Re_take_200 y Post a0 s_j195 x1j195 x3j195 1
def wj_Re_take_408 (y : Ly) (Post : St → Int32 → Prop) (a0 : Nat) (s_j408 : St) (x1j408 : Int32) (x3j408 : Int32) (z0j408 : Int32) : Prop := wj_Re_take_455 y Post a0 s_j408 x1j408 x3j408 z0j408
def wj_Re_take_407 (y : Ly) (Post : St → Int32 → Prop) (a0 : Nat) (s_j407 : St) (x1j407 : Int32) (x3j407 : Int32) : Prop := wj_Re_take_408 y Post a0 s_j407 x1j407 x3j407 0
def wj_Re_take_453 (y : Ly) (Post : St → Int32 → Prop) (a0 : Nat) (s_j453 : St) (x1j453 : Int32) (x3j453 : Int32) (z0j453 : Int32) : Prop := wj_Re_take_455 y Post a0 s_j453 x1j453 x3j453 z0j453
def wj_Re_take_452 (y : Ly) (Post : St → Int32 → Prop) (a0 : Nat) (s_j452 : St) (x1j452 : Int32) (x3j452 : Int32) : Prop := wj_Re_take_453 y Post a0 s_j452 x1j452 x3j452 0
def wj_Re_take_48 (y : Ly) (Post : St → Int32 → Prop) (a0 : Nat) (s_j48 : St) (x1j48 : Int32) (x2j48 : Int32) (x3j48 : Int32) (x4j48 : Int32) (z0j48 : Int32) : Prop := ((x1j48 = 36 → ((¬ x2j48 = 0 → wj_Re_take_173 y Post a0 s_j48 x1j48 x3j48 0) ∧ (x2j48 = 0 → wj_Re_take_173 y Post a0 s_j48 x1j48 x3j48 1))) ∧ (¬ (x1j48 = 36) → ((x1j48 = 75 → ((x4j48 = 0 → wj_Re_take_348 y Post a0 s_j48 x1j48 x3j48) ∧ (¬ (x4j48 = 0) → ((x3j48 ≤ 4 → wj_Re_take_344 y Post a0 s_j48 x1j48 x3j48) ∧ (¬ (x3j48 ≤ 4) → ((x3j48 < 9 → wj_Re_take_348 y Post a0 s_j48 x1j48 x3j48) ∧ (¬ (x3j48 < 9) → wj_Re_take_344 y Post a0 s_j48 x1j48 x3j48))))))) ∧ (¬ (x1j48 = 75) → ((x1j48 = 77 → ((¬ x4j48 = 0 → wj_Re_take_221 y Post a0 s_j48 x1j48 x3j48) ∧ (x4j48 = 0 → ((¬ x2j48 = 4 → wj_Re_take_225 y Post a0 s_j48 x1j48 x3j48) ∧ (x2j48 = 4 → ((¬ x3j48 = 7 → wj_Re_take_225 y Post a0 s_j48 x1j48 x3j48) ∧ (x3j48 = 7 → wj_Re_take_221 y Post a0 s_j48 x1j48 x3j48))))))) ∧ (¬ (x1j48 = 77) → ((x1j48 = 78 → ((x4j48 = 0 → wj_Re_take_265 y Post a0 s_j48 x1j48 x3j48) ∧ (¬ (x4j48 = 0) → ((¬ x3j48 = 0 → wj_Re_take_265 y Post a0 s_j48 x1j48 x3j48) ∧ (x3j48 = 0 → wj_Re_take_266 y Post a0 s_j48 x1j48 x3j48 1))))) ∧ (¬ (x1j48 = 78) → ((x1j48 = 82 → ((x4j48 = 0 → wj_Re_take_322 y Post a0 s_j48 x1j48 x3j48) ∧ (¬ (x4j48 = 0) → ((x3j48 ≤ 1 → wj_Re_take_318 y Post a0 s_j48 x1j48 x3j48) ∧ (¬ (x3j48 ≤ 1) → ((x3j48 = 5 → wj_Re_take_318 y Post a0 s_j48 x1j48 x3j48) ∧ (¬ (x3j48 = 5) → ((x3j48 < 9 → wj_Re_take_322 y Post a0 s_j48 x1j48 x3j48) ∧ (¬ (x3j48 < 9) → wj_Re_take_318 y Post a0 s_j48 x1j48 x3j48))))))))) ∧ (¬ (x1j48 = 82) → ((x1j48 = 84 → ((x4j48 = 0 → wj_Re_take_291 y Post a0 s_j48 x1j48 x3j48) ∧ (¬ (x4j48 = 0) → ((x3j48 ≤ 1 → wj_Re_take_287 y Post a0 s_j48 x1j48 x3j48) ∧ (¬ (x3j48 ≤ 1) → ((x3j48 < 9 → wj_Re_take_291 y Post a0 s_j48 x1j48 x3j48) ∧ (¬ (x3j48 < 9) → wj_Re_take_287 y Post a0 s_j48 x1j48 x3j48))))))) ∧ (¬ (x1j48 = 84) → ((x1j48 = 99 → ((x4j48 = 0 → wj_Re_take_246 y Post a0 s_j48 x1j48 x3j48) ∧ (¬ (x4j48 = 0) → ((x3j48 < 9 → wj_Re_take_246 y Post a0 s_j48 x1j48 x3j48) ∧ (¬ (x3j48 < 9) → wj_Re_take_247 y Post a0 s_j48 x1j48 x3j48 1))))) ∧ (¬ (x1j48 = 99) → ((x1j48 = 104 → ((x4j48 = 0 → wj_Re_take_375 y Post a0 s_j48 x1j48 x3j48) ∧ (¬ (x4j48 = 0) → ((x3j48 = 6 → wj_Re_take_371 y Post a0 s_j48 x1j48 x3j48) ∧ (¬ (x3j48 = 6) → ((x3j48 < 9 → wj_Re_take_375 y Post a0 s_j48 x1j48 x3j48) ∧ (¬ (x3j48 < 9) → wj_Re_take_371 y Post a0 s_j48 x1j48 x3j48))))))) ∧ (¬ (x1j48 = 104) → ((x1j48 = 105 → ((z0j48 = 0 → wj_Re_take_432 y Post a0 s_j48 x1j48 x3j48) ∧ (¬ (z0j48 = 0) → ((x3j48 < 0 → wj_Re_take_432 y Post a0 s_j48 x1j48 x3j48) ∧ (¬ (x3j48 < 0) → ((20 ≤ x3j48 → wj_Re_take_432 y Post a0 s_j48 x1j48 x3j48) ∧ (¬ (20 ≤ x3j48) → wj_Re_take_433 y Post a0 s_j48 x1j48 x3j48 1))))))) ∧ (¬ (x1j48 = 105) → ((x1j48 = 107 → wj_Re_take_455 y Post a0 s_j48 x1j48 x3j48 z0j48) ∧ (¬ (x1j48 = 107) → ((x1j48 = 109 → ((¬ x4j48 = 0 → wj_Re_take_195 y Post a0 s_j48 x1j48 x3j48) ∧ (x4j48 = 0 → ((¬ x2j48 = 4 → wj_Re_take_200 y Post a0 s_j48 x1j48 x3j48 0) ∧ (x2j48 = 4 → wj_Re_take_195 y Post a0 s_j48 x1j48 x3j48))))) ∧ (¬ (x1j48 = 109) → ((x1j48 = 110 → wj_Re_take_455 y Post a0 s_j48 x1j48 x3j48 x4j48) ∧ (¬ (x1j48 = 110) → ((x1j48 = 112 → ((z0j48 = 0 → wj_Re_take_407 y Post a0 s_j48 x1j48 x3j48) ∧ (¬ (z0j48 = 0) → ((x3j48 < 0 → wj_Re_take_407 y Post a0 s_j48 x1j48 x3j48) ∧ (¬ (x3j48 < 0) → ((20 < x3j48 → wj_Re_take_407 y Post a0 s_j48 x1j48 x3j48) ∧ (¬ (20 < x3j48) → wj_Re_take_408 y Post a0 s_j48 x1j48 x3j48 1))))))) ∧ (¬ (x1j48 = 112) → ((¬ x2j48 = 3 → wj_Re_take_452 y Post a0 s_j48 x1j48 x3j48) ∧ (x2j48 = 3 → ((¬ x3j48 = x1j48 → wj_Re_take_452 y Post a0 s_j48 x1j48 x3j48) ∧ (x3j48 = x1j48 → wj_Re_take_453 y Post a0 s_j48 x1j48 x3j48 1))))))))))))))))))))))))))))))
def wj_Re_take_36 (y : Ly) (Post : St → Int32 → Prop) (a0 : Nat) (s_j36 : St) (x1j36 : Int32) (x2j36 : Int32) (x3j36 : Int32) (z0j36 : Int32) : Prop := ((¬ x2j36 = 2 → wj_Re_take_48 y Post a0 s_j36 x1j36 x2j36 x3j36 z0j36 0) ∧ (x2j36 = 2 → wj_Re_take_48 y Post a0 s_j36 x1j36 x2j36 x3j36 z0j36 1))
def wu_Re_take (y : Ly) (Post : St → Int32 → Prop) (σ : St) (a0 : Nat) (v1 : Int32) : Prop := xA y σ (lk a0 3) 0 (sV σ a0 8) (fun x_1 : Int32 => xA y σ (lk a0 3) 1 (sV σ a0 8) (fun x_2 : Int32 => ((¬ x_1 = 1 → wj_Re_take_36 y Post a0 σ v1 x_1 x_2 0) ∧ (x_1 = 1 → wj_Re_take_36 y Post a0 σ v1 x_1 x_2 1))))
set_option maxHeartbeats 4000000 in
set_option maxRecDepth 100000 in
theorem cu_Re_take (l : Launch) (D : va_G) (g : Nat → ClassId) (ad : Nat → Nat) (y : Ly) (Post : St → Int32 → Prop) (σ : St) (a0 : Nat) (v1 : Int32) (sz : Nat) (h_a0 : cl a0 = 6) (h : wu_Re_take y Post σ a0 v1) : Met l y_Re_take (mw y_Re_take b_Re_take 7 (some .int)) ru_Re_take (PC g D [] [.ref (ad a0), .int v1] sz (ws g ad y σ)) (va_Qi (fun (r : Int32) (u : St) => Post u r) (QW D (va_A (ws g ad y σ) sz) (fun u => ws g ad y u)) (va_A (ws g ad y σ) sz)) 0 0 (va_A (ws g ad y σ) sz) := by
  refine ofI (by decide +kernel) (Nat.le_of_ble_eq_true rfl) ?_
  intro p e s m args below meth c A Q ls H locs G hsz hP hD hS hl hret
  subst hsz
  have hl : lv_has ls 7 [(0, .ref (ad a0)), (1, .int v1)] := hl
  unfold wu_Re_take at h
  refine lv_aload_n G.1 G.2.1 d_Re_take_0 rfl (lv_at hl 0 rfl) ?_
  refine ugf (v := .ref (ad (lk a0 3))) G hP h_a0 iRe rfl 3 (by decide) rfl q590 rfl rfl d_Re_take_1 ?_
  refine ugf (v := .ref (yP y (lk a0 3) 0)) G hP (lk_6_3 h_a0) iWo rfl 0 (by decide) rfl q548 rfl rfl d_Re_take_4 ?_
  refine lv_aload_n G.1 G.2.1 d_Re_take_7 rfl (lv_at hl 0 rfl) ?_
  refine ugf (v := .int (sV σ a0 8)) G hP h_a0 iRe rfl 8 (by decide) rfl q595 rfl rfl d_Re_take_8 ?_
  refine uiald G hP (kdp (lk_6_3 h_a0) rfl) (typ (lk_6_3 h_a0) rfl) h d_Re_take_11 (fun x_1 h => ?_)
  refine lv_istore_n (lv' := [(2, .int x_1), (0, .ref (ad a0)), (1, .int v1)]) G.1 G.2.1 d_Re_take_12 rfl hl (by decide) rfl (fun ls hl => ?_)
  refine lv_aload_n G.1 G.2.1 d_Re_take_13 rfl (lv_at hl 1 rfl) ?_
  refine ugf (v := .ref (ad (lk a0 3))) G hP h_a0 iRe rfl 3 (by decide) rfl q590 rfl rfl d_Re_take_14 ?_
  refine ugf (v := .ref (yP y (lk a0 3) 1)) G hP (lk_6_3 h_a0) iWo rfl 1 (by decide) rfl q550 rfl rfl d_Re_take_17 ?_
  refine lv_aload_n G.1 G.2.1 d_Re_take_20 rfl (lv_at hl 1 rfl) ?_
  refine W.eq (g2 := F0 m 21 ls [.ref (ad a0), .ref (yP y (lk a0 3) 1)]) rfl ?_
  refine ugf (v := .int (sV σ a0 8)) G hP h_a0 iRe rfl 8 (by decide) rfl q595 rfl rfl d_Re_take_21 ?_
  refine uiald G hP (kdp (lk_6_3 h_a0) rfl) (typ (lk_6_3 h_a0) rfl) h d_Re_take_24 (fun x_2 h => ?_)
  refine lv_istore_n (lv' := [(3, .int x_2), (2, .int x_1), (0, .ref (ad a0)), (1, .int v1)]) G.1 G.2.1 d_Re_take_25 rfl hl (by decide) rfl (fun ls hl => ?_)
  refine lv_iload_n G.1 G.2.1 d_Re_take_26 rfl (lv_at hl 1 rfl) ?_
  refine lv_iconst (v := 1) G.1 G.2.1 d_Re_take_27 (by decide) ?_
  have J_36 : ∀ (s_j36 : St) (x1j36 : Int32) (x2j36 : Int32) (x3j36 : Int32) (z0j36 : Int32) (H : Heap) (locs : List Loc), wj_Re_take_36 y Post a0 s_j36 x1j36 x2j36 x3j36 z0j36 → va_P D CL (ws g ad y s_j36) H → va_D A (ws g ad y s_j36) → va_S A s.heap H locs → ∀ ls, lv_has ls 7 [(0, .ref (ad a0)), (1, .int x1j36), (2, .int x2j36), (3, .int x3j36)] → W p l e ru_Re_take s m args below meth c H locs 0 0 Q (F0 m 36 ls [.int z0j36]) := by
    intro s_j36 x1j36 x2j36 x3j36 z0j36 H locs h hP hD hS ls hl
    unfold wj_Re_take_36 at h
    refine lv_istore (lv' := [(4, .int z0j36), (0, .ref (ad a0)), (1, .int x1j36), (2, .int x2j36), (3, .int x3j36)]) G.1 G.2.1 d_Re_take_36 hl (by decide) rfl (fun ls hl => ?_)
    refine lv_iload_n G.1 G.2.1 d_Re_take_38 rfl (lv_at hl 3 rfl) ?_
    refine lv_iconst (v := 2) G.1 G.2.1 d_Re_take_39 (by decide) ?_
    have J_48 : ∀ (s_j48 : St) (x1j48 : Int32) (x2j48 : Int32) (x3j48 : Int32) (x4j48 : Int32) (z0j48 : Int32) (H : Heap) (locs : List Loc), wj_Re_take_48 y Post a0 s_j48 x1j48 x2j48 x3j48 x4j48 z0j48 → va_P D CL (ws g ad y s_j48) H → va_D A (ws g ad y s_j48) → va_S A s.heap H locs → ∀ ls, lv_has ls 7 [(0, .ref (ad a0)), (1, .int x1j48), (2, .int x2j48), (3, .int x3j48), (4, .int x4j48)] → W p l e ru_Re_take s m args below meth c H locs 0 0 Q (F0 m 48 ls [.int z0j48]) := by
      intro s_j48 x1j48 x2j48 x3j48 x4j48 z0j48 H locs h hP hD hS ls hl
      unfold wj_Re_take_48 at h
      refine lv_istore (lv' := [(5, .int z0j48), (0, .ref (ad a0)), (1, .int x1j48), (2, .int x2j48), (3, .int x3j48), (4, .int x4j48)]) G.1 G.2.1 d_Re_take_48 hl (by decide) rfl (fun ls hl => ?_)
      refine lv_iload_n G.1 G.2.1 d_Re_take_50 rfl (lv_at hl 2 rfl) ?_
      have J_455 : ∀ (s_j455 : St) (x1j455 : Int32) (x3j455 : Int32) (x6j455 : Int32) (H : Heap) (locs : List Loc), wj_Re_take_455 y Post a0 s_j455 x1j455 x3j455 x6j455 → va_P D CL (ws g ad y s_j455) H → va_D A (ws g ad y s_j455) → va_S A s.heap H locs → ∀ ls, lv_has ls 7 [(0, .ref (ad a0)), (1, .int x1j455), (3, .int x3j455), (6, .int x6j455)] → W p l e ru_Re_take s m args below meth c H locs 0 0 Q (F0 m 455 ls []) := by
        intro s_j455 x1j455 x3j455 x6j455 H locs h hP hD hS ls hl
        unfold wj_Re_take_455 at h
        refine lv_iload G.1 G.2.1 d_Re_take_455 (lv_at hl 3 rfl) ?_
        have J_488 : ∀ (s_j488 : St) (x1j488 : Int32) (x3j488 : Int32) (x6j488 : Int32) (H : Heap) (locs : List Loc), wj_Re_take_488 y Post a0 s_j488 x1j488 x3j488 x6j488 → va_P D CL (ws g ad y s_j488) H → va_D A (ws g ad y s_j488) → va_S A s.heap H locs → ∀ ls, lv_has ls 7 [(0, .ref (ad a0)), (1, .int x1j488), (3, .int x3j488), (6, .int x6j488)] → W p l e ru_Re_take s m args below meth c H locs 0 0 Q (F0 m 488 ls []) := by
          intro s_j488 x1j488 x3j488 x6j488 H locs h hP hD hS ls hl
          unfold wj_Re_take_488 at h
          refine lv_aload_n G.1 G.2.1 d_Re_take_488 rfl (lv_at hl 0 rfl) ?_
          refine lv_dup G.1 G.2.1 d_Re_take_489 rfl ?_
          refine ugf (v := .int (sV s_j488 a0 8)) G hP h_a0 iRe rfl 8 (by decide) rfl q595 rfl rfl d_Re_take_490 ?_
          refine lv_iload G.1 G.2.1 d_Re_take_493 (lv_at hl 3 rfl) ?_
          have J_509 : ∀ (s_j509 : St) (x3j509 : Int32) (x6j509 : Int32) (z1j509 : Int32) (z2j509 : Int32) (H : Heap) (locs : List Loc), wj_Re_take_509 y Post a0 s_j509 x3j509 x6j509 z1j509 z2j509 → va_P D CL (ws g ad y s_j509) H → va_D A (ws g ad y s_j509) → va_S A s.heap H locs → ∀ ls, lv_has ls 7 [(3, .int x3j509), (6, .int x6j509)] → W p l e ru_Re_take s m args below meth c H locs 0 0 Q (F0 m 509 ls [.int z2j509, .int z1j509, .ref (ad a0)]) := by
            intro s_j509 x3j509 x6j509 z1j509 z2j509 H locs h hP hD hS ls hl
            unfold wj_Re_take_509 at h
            refine lv_iadd G.1 G.2.1 d_Re_take_509 ?_
            refine upf G hP hD hS h 8 putV h_a0 iRe tRe tRe_ok nRe rfl (by decide) rfl q595 rfl rfl fV rfl rfl d_Re_take_510 (fun s_3 H locs h hP hD hS => ?_)
            refine lv_iload G.1 G.2.1 d_Re_take_513 (lv_at hl 1 rfl) ?_
            have J_523 : ∀ (s_j523 : St) (z0j523 : Int32) (H : Heap) (locs : List Loc), wj_Re_take_523 y Post a0 s_j523 z0j523 → va_P D CL (ws g ad y s_j523) H → va_D A (ws g ad y s_j523) → va_S A s.heap H locs → ∀ ls, lv_has ls 7 [] → W p l e ru_Re_take s m args below meth c H locs 0 0 Q (F0 m 523 ls [.int z0j523]) := by
              intro s_j523 z0j523 H locs h hP hD hS ls hl
              unfold wj_Re_take_523 at h
              exact hret _ _ _ _ _ _ _ ls h hP hD hS (Nat.le_refl _) (Nat.le_refl _) d_Re_take_523
            refine lv_if_eq (tgt := 522) G.1 G.2.1 d_Re_take_515 (by decide) (fun c515 => ?_) (fun c515 => ?_)
            · skip
              have h := h.1 c515
              refine lv_iconst (v := 0) G.1 G.2.1 d_Re_take_522 (by decide) ?_
              exact J_523 s_3 0 H locs h hP hD hS ls (lv_sub hl [] rfl)
            · skip
              have h := h.2 c515
              refine lv_iload_n G.1 G.2.1 d_Re_take_518 rfl (lv_at hl 0 rfl) ?_
              refine lv_goto (tgt := 523) G.1 G.2.1 d_Re_take_519 (by decide) ?_
              exact J_523 s_3 x3j509 H locs h hP hD hS ls (lv_sub hl [] rfl)
          have J_508 : ∀ (s_j508 : St) (x3j508 : Int32) (x6j508 : Int32) (z1j508 : Int32) (H : Heap) (locs : List Loc), wj_Re_take_508 y Post a0 s_j508 x3j508 x6j508 z1j508 → va_P D CL (ws g ad y s_j508) H → va_D A (ws g ad y s_j508) → va_S A s.heap H locs → ∀ ls, lv_has ls 7 [(3, .int x3j508), (6, .int x6j508)] → W p l e ru_Re_take s m args below meth c H locs 0 0 Q (F0 m 508 ls [.int z1j508, .ref (ad a0)]) := by
            intro s_j508 x3j508 x6j508 z1j508 H locs h hP hD hS ls hl
            unfold wj_Re_take_508 at h
            refine lv_iconst (v := 0) G.1 G.2.1 d_Re_take_508 (by decide) ?_
            exact J_509 s_j508 x3j508 x6j508 z1j508 0 H locs h hP hD hS ls (lv_sub hl [0, 1] rfl)
          refine lv_if_eq (tgt := 508) G.1 G.2.1 d_Re_take_495 (by decide) (fun c495 => ?_) (fun c495 => ?_)
          · skip
            have h := h.1 c495
            exact J_508 s_j488 x3j488 x6j488 (sV s_j488 a0 8) H locs h hP hD hS ls (lv_sub hl [2, 3] rfl)
          · skip
            have h := h.2 c495
            refine lv_iload_n G.1 G.2.1 d_Re_take_498 rfl (lv_at hl 1 rfl) ?_
            refine lv_bipush (v := 36) G.1 G.2.1 d_Re_take_499 (by decide) ?_
            refine lv_icmp_eq (tgt := 508) G.1 G.2.1 d_Re_take_501 (by decide) (fun c501 => ?_) (fun c501 => ?_)
            · skip
              have h := h.1 c501
              exact J_508 s_j488 x3j488 x6j488 (sV s_j488 a0 8) H locs h hP hD hS ls (lv_sub hl [2, 3] rfl)
            · skip
              have h := h.2 c501
              refine lv_iconst (v := 1) G.1 G.2.1 d_Re_take_504 (by decide) ?_
              refine lv_goto (tgt := 509) G.1 G.2.1 d_Re_take_505 (by decide) ?_
              exact J_509 s_j488 x3j488 x6j488 (sV s_j488 a0 8) 1 H locs h hP hD hS ls (lv_sub hl [2, 3] rfl)
        refine lv_if_ne (tgt := 488) G.1 G.2.1 d_Re_take_457 (by decide) (fun c457 => ?_) (fun c457 => ?_)
        · skip
          have h := h.1 c457
          exact J_488 s_j455 x1j455 x3j455 x6j455 H locs h hP hD hS ls (lv_sub hl [0, 1, 2, 3] rfl)
        · skip
          have h := h.2 c457
          refine lv_aload_n G.1 G.2.1 d_Re_take_460 rfl (lv_at hl 0 rfl) ?_
          refine ugf (v := .int (sV s_j455 a0 5)) G hP h_a0 iRe rfl 5 (by decide) rfl q592 rfl rfl d_Re_take_461 ?_
          refine lv_if_ne (tgt := 488) G.1 G.2.1 d_Re_take_464 (by decide) (fun c464 => ?_) (fun c464 => ?_)
          · skip
            have h := h.1 c464
            exact J_488 s_j455 x1j455 x3j455 x6j455 H locs h hP hD hS ls (lv_sub hl [0, 1, 2, 3] rfl)
          · skip
            have h := h.2 c464
            refine lv_aload_n G.1 G.2.1 d_Re_take_467 rfl (lv_at hl 0 rfl) ?_
            refine lv_iconst (v := 1) G.1 G.2.1 d_Re_take_468 (by decide) ?_
            refine upf G hP hD hS h 5 putV h_a0 iRe tRe tRe_ok nRe rfl (by decide) rfl q592 rfl rfl fV rfl rfl d_Re_take_469 (fun s_4 H locs h hP hD hS => ?_)
            refine lv_aload_n G.1 G.2.1 d_Re_take_472 rfl (lv_at hl 0 rfl) ?_
            refine lv_aload_n G.1 G.2.1 d_Re_take_473 rfl (lv_at hl 0 rfl) ?_
            refine ugf (v := .ref (ad (lk a0 3))) G hP h_a0 iRe rfl 3 (by decide) rfl q590 rfl rfl d_Re_take_474 ?_
            refine W.eq (g2 := F0 m 477 ls [.ref (ad (lk a0 3)), .ref (ad a0)]) rfl ?_
            refine ugf (v := .ref (yP y (lk a0 3) 2)) G hP (lk_6_3 h_a0) iWo rfl 2 (by decide) rfl q552 rfl rfl d_Re_take_477 ?_
            refine lv_aload_n G.1 G.2.1 d_Re_take_480 rfl (lv_at hl 0 rfl) ?_
            refine ugf (v := .int (sV s_4 a0 8)) G hP h_a0 iRe rfl 8 (by decide) rfl q595 rfl rfl d_Re_take_481 ?_
            refine uiald G hP (kdp (lk_6_3 h_a0) rfl) (typ (lk_6_3 h_a0) rfl) h d_Re_take_484 (fun x_5 h => ?_)
            refine upf G hP hD hS h 0 putV h_a0 iRe tRe tRe_ok nRe rfl (by decide) rfl q585 rfl rfl fV rfl rfl d_Re_take_485 (fun s_6 H locs h hP hD hS => ?_)
            exact J_488 s_6 x1j455 x3j455 x6j455 H locs h hP hD hS ls (lv_sub hl [0, 1, 2, 3] rfl)
      by_cases e51_36 : x1j48 = 36
      · skip
        have h := h.1 e51_36
        refine lv_lookup (off := 113) (tgt := 164) G.1 G.2.1 d_Re_take_51 (by decide) (by rw [e51_36]; rfl) (by decide) ?_
        refine lv_iload_n G.1 G.2.1 d_Re_take_164 rfl (lv_at hl 3 rfl) ?_
        have J_173 : ∀ (s_j173 : St) (x1j173 : Int32) (x3j173 : Int32) (z0j173 : Int32) (H : Heap) (locs : List Loc), wj_Re_take_173 y Post a0 s_j173 x1j173 x3j173 z0j173 → va_P D CL (ws g ad y s_j173) H → va_D A (ws g ad y s_j173) → va_S A s.heap H locs → ∀ ls, lv_has ls 7 [(0, .ref (ad a0)), (1, .int x1j173), (3, .int x3j173)] → W p l e ru_Re_take s m args below meth c H locs 0 0 Q (F0 m 173 ls [.int z0j173]) := by
          intro s_j173 x1j173 x3j173 z0j173 H locs h hP hD hS ls hl
          unfold wj_Re_take_173 at h
          refine lv_istore (lv' := [(6, .int z0j173), (0, .ref (ad a0)), (1, .int x1j173), (3, .int x3j173)]) G.1 G.2.1 d_Re_take_173 hl (by decide) rfl (fun ls hl => ?_)
          refine lv_goto (tgt := 455) G.1 G.2.1 d_Re_take_175 (by decide) ?_
          exact J_455 s_j173 x1j173 x3j173 z0j173 H locs h hP hD hS ls (lv_sub hl [1, 2, 3, 0] rfl)
        refine lv_if_ne (tgt := 172) G.1 G.2.1 d_Re_take_165 (by decide) (fun c165 => ?_) (fun c165 => ?_)
        · skip
          have h := h.1 c165
          refine lv_iconst (v := 0) G.1 G.2.1 d_Re_take_172 (by decide) ?_
          exact J_173 s_j48 x1j48 x3j48 0 H locs h hP hD hS ls (lv_sub hl [1, 2, 4] rfl)
        · skip
          have h := h.2 c165
          refine lv_iconst (v := 1) G.1 G.2.1 d_Re_take_168 (by decide) ?_
          refine lv_goto (tgt := 173) G.1 G.2.1 d_Re_take_169 (by decide) ?_
          exact J_173 s_j48 x1j48 x3j48 1 H locs h hP hD hS ls (lv_sub hl [1, 2, 4] rfl)
      replace h := h.2 e51_36
      by_cases e51_75 : x1j48 = 75
      · skip
        have h := h.1 e51_75
        refine lv_lookup (off := 277) (tgt := 328) G.1 G.2.1 d_Re_take_51 (by decide) (by rw [e51_75]; rfl) (by decide) ?_
        refine lv_iload G.1 G.2.1 d_Re_take_328 (lv_at hl 5 rfl) ?_
        have J_349 : ∀ (s_j349 : St) (x1j349 : Int32) (x3j349 : Int32) (z0j349 : Int32) (H : Heap) (locs : List Loc), wj_Re_take_349 y Post a0 s_j349 x1j349 x3j349 z0j349 → va_P D CL (ws g ad y s_j349) H → va_D A (ws g ad y s_j349) → va_S A s.heap H locs → ∀ ls, lv_has ls 7 [(0, .ref (ad a0)), (1, .int x1j349), (3, .int x3j349)] → W p l e ru_Re_take s m args below meth c H locs 0 0 Q (F0 m 349 ls [.int z0j349]) := by
          intro s_j349 x1j349 x3j349 z0j349 H locs h hP hD hS ls hl
          unfold wj_Re_take_349 at h
          refine lv_istore (lv' := [(6, .int z0j349), (0, .ref (ad a0)), (1, .int x1j349), (3, .int x3j349)]) G.1 G.2.1 d_Re_take_349 hl (by decide) rfl (fun ls hl => ?_)
          refine lv_goto (tgt := 455) G.1 G.2.1 d_Re_take_351 (by decide) ?_
          exact J_455 s_j349 x1j349 x3j349 z0j349 H locs h hP hD hS ls (lv_sub hl [1, 2, 3, 0] rfl)
        have J_348 : ∀ (s_j348 : St) (x1j348 : Int32) (x3j348 : Int32) (H : Heap) (locs : List Loc), wj_Re_take_348 y Post a0 s_j348 x1j348 x3j348 → va_P D CL (ws g ad y s_j348) H → va_D A (ws g ad y s_j348) → va_S A s.heap H locs → ∀ ls, lv_has ls 7 [(0, .ref (ad a0)), (1, .int x1j348), (3, .int x3j348)] → W p l e ru_Re_take s m args below meth c H locs 0 0 Q (F0 m 348 ls []) := by
          intro s_j348 x1j348 x3j348 H locs h hP hD hS ls hl
          unfold wj_Re_take_348 at h
          refine lv_iconst (v := 0) G.1 G.2.1 d_Re_take_348 (by decide) ?_
          exact J_349 s_j348 x1j348 x3j348 0 H locs h hP hD hS ls (lv_sub hl [0, 1, 2] rfl)
        refine lv_if_eq (tgt := 348) G.1 G.2.1 d_Re_take_330 (by decide) (fun c330 => ?_) (fun c330 => ?_)
        · skip
          have h := h.1 c330
          exact J_348 s_j48 x1j48 x3j48 H locs h hP hD hS ls (lv_sub hl [1, 2, 4] rfl)
        · skip
          have h := h.2 c330
          refine lv_iload_n G.1 G.2.1 d_Re_take_333 rfl (lv_at hl 4 rfl) ?_
          refine lv_iconst (v := 4) G.1 G.2.1 d_Re_take_334 (by decide) ?_
          have J_344 : ∀ (s_j344 : St) (x1j344 : Int32) (x3j344 : Int32) (H : Heap) (locs : List Loc), wj_Re_take_344 y Post a0 s_j344 x1j344 x3j344 → va_P D CL (ws g ad y s_j344) H → va_D A (ws g ad y s_j344) → va_S A s.heap H locs → ∀ ls, lv_has ls 7 [(0, .ref (ad a0)), (1, .int x1j344), (3, .int x3j344)] → W p l e ru_Re_take s m args below meth c H locs 0 0 Q (F0 m 344 ls []) := by
            intro s_j344 x1j344 x3j344 H locs h hP hD hS ls hl
            unfold wj_Re_take_344 at h
            refine lv_iconst (v := 1) G.1 G.2.1 d_Re_take_344 (by decide) ?_
            refine lv_goto (tgt := 349) G.1 G.2.1 d_Re_take_345 (by decide) ?_
            exact J_349 s_j344 x1j344 x3j344 1 H locs h hP hD hS ls (lv_sub hl [0, 1, 2] rfl)
          refine lv_icmp_le (tgt := 344) G.1 G.2.1 d_Re_take_335 (by decide) (fun c335 => ?_) (fun c335 => ?_)
          · skip
            have h := h.1 c335
            exact J_344 s_j48 x1j48 x3j48 H locs h hP hD hS ls (lv_sub hl [1, 2, 4] rfl)
          · skip
            have h := h.2 c335
            refine lv_iload_n G.1 G.2.1 d_Re_take_338 rfl (lv_at hl 4 rfl) ?_
            refine lv_bipush (v := 9) G.1 G.2.1 d_Re_take_339 (by decide) ?_
            refine lv_icmp_lt (tgt := 348) G.1 G.2.1 d_Re_take_341 (by decide) (fun c341 => ?_) (fun c341 => ?_)
            · skip
              have h := h.1 c341
              exact J_348 s_j48 x1j48 x3j48 H locs h hP hD hS ls (lv_sub hl [1, 2, 4] rfl)
            · skip
              have h := h.2 c341
              exact J_344 s_j48 x1j48 x3j48 H locs h hP hD hS ls (lv_sub hl [1, 2, 4] rfl)
      replace h := h.2 e51_75
      by_cases e51_77 : x1j48 = 77
      · skip
        have h := h.1 e51_77
        refine lv_lookup (off := 154) (tgt := 205) G.1 G.2.1 d_Re_take_51 (by decide) (by rw [e51_77]; rfl) (by decide) ?_
        refine lv_iload G.1 G.2.1 d_Re_take_205 (lv_at hl 5 rfl) ?_
        have J_226 : ∀ (s_j226 : St) (x1j226 : Int32) (x3j226 : Int32) (z0j226 : Int32) (H : Heap) (locs : List Loc), wj_Re_take_226 y Post a0 s_j226 x1j226 x3j226 z0j226 → va_P D CL (ws g ad y s_j226) H → va_D A (ws g ad y s_j226) → va_S A s.heap H locs → ∀ ls, lv_has ls 7 [(0, .ref (ad a0)), (1, .int x1j226), (3, .int x3j226)] → W p l e ru_Re_take s m args below meth c H locs 0 0 Q (F0 m 226 ls [.int z0j226]) := by
          intro s_j226 x1j226 x3j226 z0j226 H locs h hP hD hS ls hl
          unfold wj_Re_take_226 at h
          refine lv_istore (lv' := [(6, .int z0j226), (0, .ref (ad a0)), (1, .int x1j226), (3, .int x3j226)]) G.1 G.2.1 d_Re_take_226 hl (by decide) rfl (fun ls hl => ?_)
          refine lv_goto (tgt := 455) G.1 G.2.1 d_Re_take_228 (by decide) ?_
          exact J_455 s_j226 x1j226 x3j226 z0j226 H locs h hP hD hS ls (lv_sub hl [1, 2, 3, 0] rfl)
        have J_221 : ∀ (s_j221 : St) (x1j221 : Int32) (x3j221 : Int32) (H : Heap) (locs : List Loc), wj_Re_take_221 y Post a0 s_j221 x1j221 x3j221 → va_P D CL (ws g ad y s_j221) H → va_D A (ws g ad y s_j221) → va_S A s.heap H locs → ∀ ls, lv_has ls 7 [(0, .ref (ad a0)), (1, .int x1j221), (3, .int x3j221)] → W p l e ru_Re_take s m args below meth c H locs 0 0 Q (F0 m 221 ls []) := by
          intro s_j221 x1j221 x3j221 H locs h hP hD hS ls hl
          unfold wj_Re_take_221 at h
          refine lv_iconst (v := 1) G.1 G.2.1 d_Re_take_221 (by decide) ?_
          refine lv_goto (tgt := 226) G.1 G.2.1 d_Re_take_222 (by decide) ?_
          exact J_226 s_j221 x1j221 x3j221 1 H locs h hP hD hS ls (lv_sub hl [0, 1, 2] rfl)
        refine lv_if_ne (tgt := 221) G.1 G.2.1 d_Re_take_207 (by decide) (fun c207 => ?_) (fun c207 => ?_)
        · skip
          have h := h.1 c207
          exact J_221 s_j48 x1j48 x3j48 H locs h hP hD hS ls (lv_sub hl [1, 2, 4] rfl)
        · skip
          have h := h.2 c207
          refine lv_iload_n G.1 G.2.1 d_Re_take_210 rfl (lv_at hl 3 rfl) ?_
          refine lv_iconst (v := 4) G.1 G.2.1 d_Re_take_211 (by decide) ?_
          have J_225 : ∀ (s_j225 : St) (x1j225 : Int32) (x3j225 : Int32) (H : Heap) (locs : List Loc), wj_Re_take_225 y Post a0 s_j225 x1j225 x3j225 → va_P D CL (ws g ad y s_j225) H → va_D A (ws g ad y s_j225) → va_S A s.heap H locs → ∀ ls, lv_has ls 7 [(0, .ref (ad a0)), (1, .int x1j225), (3, .int x3j225)] → W p l e ru_Re_take s m args below meth c H locs 0 0 Q (F0 m 225 ls []) := by
            intro s_j225 x1j225 x3j225 H locs h hP hD hS ls hl
            unfold wj_Re_take_225 at h
            refine lv_iconst (v := 0) G.1 G.2.1 d_Re_take_225 (by decide) ?_
            exact J_226 s_j225 x1j225 x3j225 0 H locs h hP hD hS ls (lv_sub hl [0, 1, 2] rfl)
          refine lv_icmp_ne (tgt := 225) G.1 G.2.1 d_Re_take_212 (by decide) (fun c212 => ?_) (fun c212 => ?_)
          · skip
            have h := h.1 c212
            exact J_225 s_j48 x1j48 x3j48 H locs h hP hD hS ls (lv_sub hl [1, 2, 4] rfl)
          · skip
            have h := h.2 c212
            refine lv_iload_n G.1 G.2.1 d_Re_take_215 rfl (lv_at hl 4 rfl) ?_
            refine lv_bipush (v := 7) G.1 G.2.1 d_Re_take_216 (by decide) ?_
            refine lv_icmp_ne (tgt := 225) G.1 G.2.1 d_Re_take_218 (by decide) (fun c218 => ?_) (fun c218 => ?_)
            · skip
              have h := h.1 c218
              exact J_225 s_j48 x1j48 x3j48 H locs h hP hD hS ls (lv_sub hl [1, 2, 4] rfl)
            · skip
              have h := h.2 c218
              exact J_221 s_j48 x1j48 x3j48 H locs h hP hD hS ls (lv_sub hl [1, 2, 4] rfl)
      replace h := h.2 e51_77
      by_cases e51_78 : x1j48 = 78
      · skip
        have h := h.1 e51_78
        refine lv_lookup (off := 201) (tgt := 252) G.1 G.2.1 d_Re_take_51 (by decide) (by rw [e51_78]; rfl) (by decide) ?_
        refine lv_iload G.1 G.2.1 d_Re_take_252 (lv_at hl 5 rfl) ?_
        have J_266 : ∀ (s_j266 : St) (x1j266 : Int32) (x3j266 : Int32) (z0j266 : Int32) (H : Heap) (locs : List Loc), wj_Re_take_266 y Post a0 s_j266 x1j266 x3j266 z0j266 → va_P D CL (ws g ad y s_j266) H → va_D A (ws g ad y s_j266) → va_S A s.heap H locs → ∀ ls, lv_has ls 7 [(0, .ref (ad a0)), (1, .int x1j266), (3, .int x3j266)] → W p l e ru_Re_take s m args below meth c H locs 0 0 Q (F0 m 266 ls [.int z0j266]) := by
          intro s_j266 x1j266 x3j266 z0j266 H locs h hP hD hS ls hl
          unfold wj_Re_take_266 at h
          refine lv_istore (lv' := [(6, .int z0j266), (0, .ref (ad a0)), (1, .int x1j266), (3, .int x3j266)]) G.1 G.2.1 d_Re_take_266 hl (by decide) rfl (fun ls hl => ?_)
          refine lv_goto (tgt := 455) G.1 G.2.1 d_Re_take_268 (by decide) ?_
          exact J_455 s_j266 x1j266 x3j266 z0j266 H locs h hP hD hS ls (lv_sub hl [1, 2, 3, 0] rfl)
        have J_265 : ∀ (s_j265 : St) (x1j265 : Int32) (x3j265 : Int32) (H : Heap) (locs : List Loc), wj_Re_take_265 y Post a0 s_j265 x1j265 x3j265 → va_P D CL (ws g ad y s_j265) H → va_D A (ws g ad y s_j265) → va_S A s.heap H locs → ∀ ls, lv_has ls 7 [(0, .ref (ad a0)), (1, .int x1j265), (3, .int x3j265)] → W p l e ru_Re_take s m args below meth c H locs 0 0 Q (F0 m 265 ls []) := by
          intro s_j265 x1j265 x3j265 H locs h hP hD hS ls hl
          unfold wj_Re_take_265 at h
          refine lv_iconst (v := 0) G.1 G.2.1 d_Re_take_265 (by decide) ?_
          exact J_266 s_j265 x1j265 x3j265 0 H locs h hP hD hS ls (lv_sub hl [0, 1, 2] rfl)
        refine lv_if_eq (tgt := 265) G.1 G.2.1 d_Re_take_254 (by decide) (fun c254 => ?_) (fun c254 => ?_)
        · skip
          have h := h.1 c254
          exact J_265 s_j48 x1j48 x3j48 H locs h hP hD hS ls (lv_sub hl [1, 2, 4] rfl)
        · skip
          have h := h.2 c254
          refine lv_iload_n G.1 G.2.1 d_Re_take_257 rfl (lv_at hl 4 rfl) ?_
          refine lv_if_ne (tgt := 265) G.1 G.2.1 d_Re_take_258 (by decide) (fun c258 => ?_) (fun c258 => ?_)
          · skip
            have h := h.1 c258
            exact J_265 s_j48 x1j48 x3j48 H locs h hP hD hS ls (lv_sub hl [1, 2, 4] rfl)
          · skip
            have h := h.2 c258
            refine lv_iconst (v := 1) G.1 G.2.1 d_Re_take_261 (by decide) ?_
            refine lv_goto (tgt := 266) G.1 G.2.1 d_Re_take_262 (by decide) ?_
            exact J_266 s_j48 x1j48 x3j48 1 H locs h hP hD hS ls (lv_sub hl [1, 2, 4] rfl)
      replace h := h.2 e51_78
      by_cases e51_82 : x1j48 = 82
      · skip
        have h := h.1 e51_82
        refine lv_lookup (off := 246) (tgt := 297) G.1 G.2.1 d_Re_take_51 (by decide) (by rw [e51_82]; rfl) (by decide) ?_
        refine lv_iload G.1 G.2.1 d_Re_take_297 (lv_at hl 5 rfl) ?_
        have J_323 : ∀ (s_j323 : St) (x1j323 : Int32) (x3j323 : Int32) (z0j323 : Int32) (H : Heap) (locs : List Loc), wj_Re_take_323 y Post a0 s_j323 x1j323 x3j323 z0j323 → va_P D CL (ws g ad y s_j323) H → va_D A (ws g ad y s_j323) → va_S A s.heap H locs → ∀ ls, lv_has ls 7 [(0, .ref (ad a0)), (1, .int x1j323), (3, .int x3j323)] → W p l e ru_Re_take s m args below meth c H locs 0 0 Q (F0 m 323 ls [.int z0j323]) := by
          intro s_j323 x1j323 x3j323 z0j323 H locs h hP hD hS ls hl
          unfold wj_Re_take_323 at h
          refine lv_istore (lv' := [(6, .int z0j323), (0, .ref (ad a0)), (1, .int x1j323), (3, .int x3j323)]) G.1 G.2.1 d_Re_take_323 hl (by decide) rfl (fun ls hl => ?_)
          refine lv_goto (tgt := 455) G.1 G.2.1 d_Re_take_325 (by decide) ?_
          exact J_455 s_j323 x1j323 x3j323 z0j323 H locs h hP hD hS ls (lv_sub hl [1, 2, 3, 0] rfl)
        have J_322 : ∀ (s_j322 : St) (x1j322 : Int32) (x3j322 : Int32) (H : Heap) (locs : List Loc), wj_Re_take_322 y Post a0 s_j322 x1j322 x3j322 → va_P D CL (ws g ad y s_j322) H → va_D A (ws g ad y s_j322) → va_S A s.heap H locs → ∀ ls, lv_has ls 7 [(0, .ref (ad a0)), (1, .int x1j322), (3, .int x3j322)] → W p l e ru_Re_take s m args below meth c H locs 0 0 Q (F0 m 322 ls []) := by
          intro s_j322 x1j322 x3j322 H locs h hP hD hS ls hl
          unfold wj_Re_take_322 at h
          refine lv_iconst (v := 0) G.1 G.2.1 d_Re_take_322 (by decide) ?_
          exact J_323 s_j322 x1j322 x3j322 0 H locs h hP hD hS ls (lv_sub hl [0, 1, 2] rfl)
        refine lv_if_eq (tgt := 322) G.1 G.2.1 d_Re_take_299 (by decide) (fun c299 => ?_) (fun c299 => ?_)
        · skip
          have h := h.1 c299
          exact J_322 s_j48 x1j48 x3j48 H locs h hP hD hS ls (lv_sub hl [1, 2, 4] rfl)
        · skip
          have h := h.2 c299
          refine lv_iload_n G.1 G.2.1 d_Re_take_302 rfl (lv_at hl 4 rfl) ?_
          refine lv_iconst (v := 1) G.1 G.2.1 d_Re_take_303 (by decide) ?_
          have J_318 : ∀ (s_j318 : St) (x1j318 : Int32) (x3j318 : Int32) (H : Heap) (locs : List Loc), wj_Re_take_318 y Post a0 s_j318 x1j318 x3j318 → va_P D CL (ws g ad y s_j318) H → va_D A (ws g ad y s_j318) → va_S A s.heap H locs → ∀ ls, lv_has ls 7 [(0, .ref (ad a0)), (1, .int x1j318), (3, .int x3j318)] → W p l e ru_Re_take s m args below meth c H locs 0 0 Q (F0 m 318 ls []) := by
            intro s_j318 x1j318 x3j318 H locs h hP hD hS ls hl
            unfold wj_Re_take_318 at h
            refine lv_iconst (v := 1) G.1 G.2.1 d_Re_take_318 (by decide) ?_
            refine lv_goto (tgt := 323) G.1 G.2.1 d_Re_take_319 (by decide) ?_
            exact J_323 s_j318 x1j318 x3j318 1 H locs h hP hD hS ls (lv_sub hl [0, 1, 2] rfl)
          refine lv_icmp_le (tgt := 318) G.1 G.2.1 d_Re_take_304 (by decide) (fun c304 => ?_) (fun c304 => ?_)
          · skip
            have h := h.1 c304
            exact J_318 s_j48 x1j48 x3j48 H locs h hP hD hS ls (lv_sub hl [1, 2, 4] rfl)
          · skip
            have h := h.2 c304
            refine lv_iload_n G.1 G.2.1 d_Re_take_307 rfl (lv_at hl 4 rfl) ?_
            refine lv_iconst (v := 5) G.1 G.2.1 d_Re_take_308 (by decide) ?_
            refine lv_icmp_eq (tgt := 318) G.1 G.2.1 d_Re_take_309 (by decide) (fun c309 => ?_) (fun c309 => ?_)
            · skip
              have h := h.1 c309
              exact J_318 s_j48 x1j48 x3j48 H locs h hP hD hS ls (lv_sub hl [1, 2, 4] rfl)
            · skip
              have h := h.2 c309
              refine W.eq (g2 := F0 m 312 ls []) rfl ?_
              refine lv_iload_n G.1 G.2.1 d_Re_take_312 rfl (lv_at hl 4 rfl) ?_
              refine lv_bipush (v := 9) G.1 G.2.1 d_Re_take_313 (by decide) ?_
              refine lv_icmp_lt (tgt := 322) G.1 G.2.1 d_Re_take_315 (by decide) (fun c315 => ?_) (fun c315 => ?_)
              · skip
                have h := h.1 c315
                exact J_322 s_j48 x1j48 x3j48 H locs h hP hD hS ls (lv_sub hl [1, 2, 4] rfl)
              · skip
                have h := h.2 c315
                exact J_318 s_j48 x1j48 x3j48 H locs h hP hD hS ls (lv_sub hl [1, 2, 4] rfl)
      replace h := h.2 e51_82
      by_cases e51_84 : x1j48 = 84
      · skip
        have h := h.1 e51_84
        refine lv_lookup (off := 220) (tgt := 271) G.1 G.2.1 d_Re_take_51 (by decide) (by rw [e51_84]; rfl) (by decide) ?_
        refine lv_iload G.1 G.2.1 d_Re_take_271 (lv_at hl 5 rfl) ?_
        have J_292 : ∀ (s_j292 : St) (x1j292 : Int32) (x3j292 : Int32) (z0j292 : Int32) (H : Heap) (locs : List Loc), wj_Re_take_292 y Post a0 s_j292 x1j292 x3j292 z0j292 → va_P D CL (ws g ad y s_j292) H → va_D A (ws g ad y s_j292) → va_S A s.heap H locs → ∀ ls, lv_has ls 7 [(0, .ref (ad a0)), (1, .int x1j292), (3, .int x3j292)] → W p l e ru_Re_take s m args below meth c H locs 0 0 Q (F0 m 292 ls [.int z0j292]) := by
          intro s_j292 x1j292 x3j292 z0j292 H locs h hP hD hS ls hl
          unfold wj_Re_take_292 at h
          refine lv_istore (lv' := [(6, .int z0j292), (0, .ref (ad a0)), (1, .int x1j292), (3, .int x3j292)]) G.1 G.2.1 d_Re_take_292 hl (by decide) rfl (fun ls hl => ?_)
          refine lv_goto (tgt := 455) G.1 G.2.1 d_Re_take_294 (by decide) ?_
          exact J_455 s_j292 x1j292 x3j292 z0j292 H locs h hP hD hS ls (lv_sub hl [1, 2, 3, 0] rfl)
        have J_291 : ∀ (s_j291 : St) (x1j291 : Int32) (x3j291 : Int32) (H : Heap) (locs : List Loc), wj_Re_take_291 y Post a0 s_j291 x1j291 x3j291 → va_P D CL (ws g ad y s_j291) H → va_D A (ws g ad y s_j291) → va_S A s.heap H locs → ∀ ls, lv_has ls 7 [(0, .ref (ad a0)), (1, .int x1j291), (3, .int x3j291)] → W p l e ru_Re_take s m args below meth c H locs 0 0 Q (F0 m 291 ls []) := by
          intro s_j291 x1j291 x3j291 H locs h hP hD hS ls hl
          unfold wj_Re_take_291 at h
          refine lv_iconst (v := 0) G.1 G.2.1 d_Re_take_291 (by decide) ?_
          exact J_292 s_j291 x1j291 x3j291 0 H locs h hP hD hS ls (lv_sub hl [0, 1, 2] rfl)
        refine lv_if_eq (tgt := 291) G.1 G.2.1 d_Re_take_273 (by decide) (fun c273 => ?_) (fun c273 => ?_)
        · skip
          have h := h.1 c273
          exact J_291 s_j48 x1j48 x3j48 H locs h hP hD hS ls (lv_sub hl [1, 2, 4] rfl)
        · skip
          have h := h.2 c273
          refine lv_iload_n G.1 G.2.1 d_Re_take_276 rfl (lv_at hl 4 rfl) ?_
          refine lv_iconst (v := 1) G.1 G.2.1 d_Re_take_277 (by decide) ?_
          have J_287 : ∀ (s_j287 : St) (x1j287 : Int32) (x3j287 : Int32) (H : Heap) (locs : List Loc), wj_Re_take_287 y Post a0 s_j287 x1j287 x3j287 → va_P D CL (ws g ad y s_j287) H → va_D A (ws g ad y s_j287) → va_S A s.heap H locs → ∀ ls, lv_has ls 7 [(0, .ref (ad a0)), (1, .int x1j287), (3, .int x3j287)] → W p l e ru_Re_take s m args below meth c H locs 0 0 Q (F0 m 287 ls []) := by
            intro s_j287 x1j287 x3j287 H locs h hP hD hS ls hl
            unfold wj_Re_take_287 at h
            refine lv_iconst (v := 1) G.1 G.2.1 d_Re_take_287 (by decide) ?_
            refine lv_goto (tgt := 292) G.1 G.2.1 d_Re_take_288 (by decide) ?_
            exact J_292 s_j287 x1j287 x3j287 1 H locs h hP hD hS ls (lv_sub hl [0, 1, 2] rfl)
          refine lv_icmp_le (tgt := 287) G.1 G.2.1 d_Re_take_278 (by decide) (fun c278 => ?_) (fun c278 => ?_)
          · skip
            have h := h.1 c278
            exact J_287 s_j48 x1j48 x3j48 H locs h hP hD hS ls (lv_sub hl [1, 2, 4] rfl)
          · skip
            have h := h.2 c278
            refine lv_iload_n G.1 G.2.1 d_Re_take_281 rfl (lv_at hl 4 rfl) ?_
            refine lv_bipush (v := 9) G.1 G.2.1 d_Re_take_282 (by decide) ?_
            refine lv_icmp_lt (tgt := 291) G.1 G.2.1 d_Re_take_284 (by decide) (fun c284 => ?_) (fun c284 => ?_)
            · skip
              have h := h.1 c284
              exact J_291 s_j48 x1j48 x3j48 H locs h hP hD hS ls (lv_sub hl [1, 2, 4] rfl)
            · skip
              have h := h.2 c284
              exact J_287 s_j48 x1j48 x3j48 H locs h hP hD hS ls (lv_sub hl [1, 2, 4] rfl)
      replace h := h.2 e51_84
      by_cases e51_99 : x1j48 = 99
      · skip
        have h := h.1 e51_99
        refine lv_lookup (off := 180) (tgt := 231) G.1 G.2.1 d_Re_take_51 (by decide) (by rw [e51_99]; rfl) (by decide) ?_
        refine lv_iload G.1 G.2.1 d_Re_take_231 (lv_at hl 5 rfl) ?_
        have J_247 : ∀ (s_j247 : St) (x1j247 : Int32) (x3j247 : Int32) (z0j247 : Int32) (H : Heap) (locs : List Loc), wj_Re_take_247 y Post a0 s_j247 x1j247 x3j247 z0j247 → va_P D CL (ws g ad y s_j247) H → va_D A (ws g ad y s_j247) → va_S A s.heap H locs → ∀ ls, lv_has ls 7 [(0, .ref (ad a0)), (1, .int x1j247), (3, .int x3j247)] → W p l e ru_Re_take s m args below meth c H locs 0 0 Q (F0 m 247 ls [.int z0j247]) := by
          intro s_j247 x1j247 x3j247 z0j247 H locs h hP hD hS ls hl
          unfold wj_Re_take_247 at h
          refine lv_istore (lv' := [(6, .int z0j247), (0, .ref (ad a0)), (1, .int x1j247), (3, .int x3j247)]) G.1 G.2.1 d_Re_take_247 hl (by decide) rfl (fun ls hl => ?_)
          refine lv_goto (tgt := 455) G.1 G.2.1 d_Re_take_249 (by decide) ?_
          exact J_455 s_j247 x1j247 x3j247 z0j247 H locs h hP hD hS ls (lv_sub hl [1, 2, 3, 0] rfl)
        have J_246 : ∀ (s_j246 : St) (x1j246 : Int32) (x3j246 : Int32) (H : Heap) (locs : List Loc), wj_Re_take_246 y Post a0 s_j246 x1j246 x3j246 → va_P D CL (ws g ad y s_j246) H → va_D A (ws g ad y s_j246) → va_S A s.heap H locs → ∀ ls, lv_has ls 7 [(0, .ref (ad a0)), (1, .int x1j246), (3, .int x3j246)] → W p l e ru_Re_take s m args below meth c H locs 0 0 Q (F0 m 246 ls []) := by
          intro s_j246 x1j246 x3j246 H locs h hP hD hS ls hl
          unfold wj_Re_take_246 at h
          refine lv_iconst (v := 0) G.1 G.2.1 d_Re_take_246 (by decide) ?_
          exact J_247 s_j246 x1j246 x3j246 0 H locs h hP hD hS ls (lv_sub hl [0, 1, 2] rfl)
        refine lv_if_eq (tgt := 246) G.1 G.2.1 d_Re_take_233 (by decide) (fun c233 => ?_) (fun c233 => ?_)
        · skip
          have h := h.1 c233
          exact J_246 s_j48 x1j48 x3j48 H locs h hP hD hS ls (lv_sub hl [1, 2, 4] rfl)
        · skip
          have h := h.2 c233
          refine lv_iload_n G.1 G.2.1 d_Re_take_236 rfl (lv_at hl 4 rfl) ?_
          refine lv_bipush (v := 9) G.1 G.2.1 d_Re_take_237 (by decide) ?_
          refine lv_icmp_lt (tgt := 246) G.1 G.2.1 d_Re_take_239 (by decide) (fun c239 => ?_) (fun c239 => ?_)
          · skip
            have h := h.1 c239
            exact J_246 s_j48 x1j48 x3j48 H locs h hP hD hS ls (lv_sub hl [1, 2, 4] rfl)
          · skip
            have h := h.2 c239
            refine lv_iconst (v := 1) G.1 G.2.1 d_Re_take_242 (by decide) ?_
            refine lv_goto (tgt := 247) G.1 G.2.1 d_Re_take_243 (by decide) ?_
            exact J_247 s_j48 x1j48 x3j48 1 H locs h hP hD hS ls (lv_sub hl [1, 2, 4] rfl)
      replace h := h.2 e51_99
      by_cases e51_104 : x1j48 = 104
      · skip
        have h := h.1 e51_104
        refine lv_lookup (off := 303) (tgt := 354) G.1 G.2.1 d_Re_take_51 (by decide) (by rw [e51_104]; rfl) (by decide) ?_
        refine lv_iload G.1 G.2.1 d_Re_take_354 (lv_at hl 5 rfl) ?_
        have J_376 : ∀ (s_j376 : St) (x1j376 : Int32) (x3j376 : Int32) (z0j376 : Int32) (H : Heap) (locs : List Loc), wj_Re_take_376 y Post a0 s_j376 x1j376 x3j376 z0j376 → va_P D CL (ws g ad y s_j376) H → va_D A (ws g ad y s_j376) → va_S A s.heap H locs → ∀ ls, lv_has ls 7 [(0, .ref (ad a0)), (1, .int x1j376), (3, .int x3j376)] → W p l e ru_Re_take s m args below meth c H locs 0 0 Q (F0 m 376 ls [.int z0j376]) := by
          intro s_j376 x1j376 x3j376 z0j376 H locs h hP hD hS ls hl
          unfold wj_Re_take_376 at h
          refine lv_istore (lv' := [(6, .int z0j376), (0, .ref (ad a0)), (1, .int x1j376), (3, .int x3j376)]) G.1 G.2.1 d_Re_take_376 hl (by decide) rfl (fun ls hl => ?_)
          refine lv_goto (tgt := 455) G.1 G.2.1 d_Re_take_378 (by decide) ?_
          exact J_455 s_j376 x1j376 x3j376 z0j376 H locs h hP hD hS ls (lv_sub hl [1, 2, 3, 0] rfl)
        have J_375 : ∀ (s_j375 : St) (x1j375 : Int32) (x3j375 : Int32) (H : Heap) (locs : List Loc), wj_Re_take_375 y Post a0 s_j375 x1j375 x3j375 → va_P D CL (ws g ad y s_j375) H → va_D A (ws g ad y s_j375) → va_S A s.heap H locs → ∀ ls, lv_has ls 7 [(0, .ref (ad a0)), (1, .int x1j375), (3, .int x3j375)] → W p l e ru_Re_take s m args below meth c H locs 0 0 Q (F0 m 375 ls []) := by
          intro s_j375 x1j375 x3j375 H locs h hP hD hS ls hl
          unfold wj_Re_take_375 at h
          refine lv_iconst (v := 0) G.1 G.2.1 d_Re_take_375 (by decide) ?_
          exact J_376 s_j375 x1j375 x3j375 0 H locs h hP hD hS ls (lv_sub hl [0, 1, 2] rfl)
        refine lv_if_eq (tgt := 375) G.1 G.2.1 d_Re_take_356 (by decide) (fun c356 => ?_) (fun c356 => ?_)
        · skip
          have h := h.1 c356
          exact J_375 s_j48 x1j48 x3j48 H locs h hP hD hS ls (lv_sub hl [1, 2, 4] rfl)
        · skip
          have h := h.2 c356
          refine lv_iload_n G.1 G.2.1 d_Re_take_359 rfl (lv_at hl 4 rfl) ?_
          refine lv_bipush (v := 6) G.1 G.2.1 d_Re_take_360 (by decide) ?_
          have J_371 : ∀ (s_j371 : St) (x1j371 : Int32) (x3j371 : Int32) (H : Heap) (locs : List Loc), wj_Re_take_371 y Post a0 s_j371 x1j371 x3j371 → va_P D CL (ws g ad y s_j371) H → va_D A (ws g ad y s_j371) → va_S A s.heap H locs → ∀ ls, lv_has ls 7 [(0, .ref (ad a0)), (1, .int x1j371), (3, .int x3j371)] → W p l e ru_Re_take s m args below meth c H locs 0 0 Q (F0 m 371 ls []) := by
            intro s_j371 x1j371 x3j371 H locs h hP hD hS ls hl
            unfold wj_Re_take_371 at h
            refine lv_iconst (v := 1) G.1 G.2.1 d_Re_take_371 (by decide) ?_
            refine lv_goto (tgt := 376) G.1 G.2.1 d_Re_take_372 (by decide) ?_
            exact J_376 s_j371 x1j371 x3j371 1 H locs h hP hD hS ls (lv_sub hl [0, 1, 2] rfl)
          refine lv_icmp_eq (tgt := 371) G.1 G.2.1 d_Re_take_362 (by decide) (fun c362 => ?_) (fun c362 => ?_)
          · skip
            have h := h.1 c362
            exact J_371 s_j48 x1j48 x3j48 H locs h hP hD hS ls (lv_sub hl [1, 2, 4] rfl)
          · skip
            have h := h.2 c362
            refine lv_iload_n G.1 G.2.1 d_Re_take_365 rfl (lv_at hl 4 rfl) ?_
            refine lv_bipush (v := 9) G.1 G.2.1 d_Re_take_366 (by decide) ?_
            refine lv_icmp_lt (tgt := 375) G.1 G.2.1 d_Re_take_368 (by decide) (fun c368 => ?_) (fun c368 => ?_)
            · skip
              have h := h.1 c368
              exact J_375 s_j48 x1j48 x3j48 H locs h hP hD hS ls (lv_sub hl [1, 2, 4] rfl)
            · skip
              have h := h.2 c368
              exact J_371 s_j48 x1j48 x3j48 H locs h hP hD hS ls (lv_sub hl [1, 2, 4] rfl)
      replace h := h.2 e51_104
      by_cases e51_105 : x1j48 = 105
      · skip
        have h := h.1 e51_105
        refine lv_lookup (off := 362) (tgt := 413) G.1 G.2.1 d_Re_take_51 (by decide) (by rw [e51_105]; rfl) (by decide) ?_
        refine lv_iload G.1 G.2.1 d_Re_take_413 (lv_at hl 0 rfl) ?_
        have J_433 : ∀ (s_j433 : St) (x1j433 : Int32) (x3j433 : Int32) (z0j433 : Int32) (H : Heap) (locs : List Loc), wj_Re_take_433 y Post a0 s_j433 x1j433 x3j433 z0j433 → va_P D CL (ws g ad y s_j433) H → va_D A (ws g ad y s_j433) → va_S A s.heap H locs → ∀ ls, lv_has ls 7 [(0, .ref (ad a0)), (1, .int x1j433), (3, .int x3j433)] → W p l e ru_Re_take s m args below meth c H locs 0 0 Q (F0 m 433 ls [.int z0j433]) := by
          intro s_j433 x1j433 x3j433 z0j433 H locs h hP hD hS ls hl
          unfold wj_Re_take_433 at h
          refine lv_istore (lv' := [(6, .int z0j433), (0, .ref (ad a0)), (1, .int x1j433), (3, .int x3j433)]) G.1 G.2.1 d_Re_take_433 hl (by decide) rfl (fun ls hl => ?_)
          refine lv_goto (tgt := 455) G.1 G.2.1 d_Re_take_435 (by decide) ?_
          exact J_455 s_j433 x1j433 x3j433 z0j433 H locs h hP hD hS ls (lv_sub hl [1, 2, 3, 0] rfl)
        have J_432 : ∀ (s_j432 : St) (x1j432 : Int32) (x3j432 : Int32) (H : Heap) (locs : List Loc), wj_Re_take_432 y Post a0 s_j432 x1j432 x3j432 → va_P D CL (ws g ad y s_j432) H → va_D A (ws g ad y s_j432) → va_S A s.heap H locs → ∀ ls, lv_has ls 7 [(0, .ref (ad a0)), (1, .int x1j432), (3, .int x3j432)] → W p l e ru_Re_take s m args below meth c H locs 0 0 Q (F0 m 432 ls []) := by
          intro s_j432 x1j432 x3j432 H locs h hP hD hS ls hl
          unfold wj_Re_take_432 at h
          refine lv_iconst (v := 0) G.1 G.2.1 d_Re_take_432 (by decide) ?_
          exact J_433 s_j432 x1j432 x3j432 0 H locs h hP hD hS ls (lv_sub hl [0, 1, 2] rfl)
        refine lv_if_eq (tgt := 432) G.1 G.2.1 d_Re_take_415 (by decide) (fun c415 => ?_) (fun c415 => ?_)
        · skip
          have h := h.1 c415
          exact J_432 s_j48 x1j48 x3j48 H locs h hP hD hS ls (lv_sub hl [1, 2, 4] rfl)
        · skip
          have h := h.2 c415
          refine lv_iload_n G.1 G.2.1 d_Re_take_418 rfl (lv_at hl 4 rfl) ?_
          refine lv_if_lt (tgt := 432) G.1 G.2.1 d_Re_take_419 (by decide) (fun c419 => ?_) (fun c419 => ?_)
          · skip
            have h := h.1 c419
            exact J_432 s_j48 x1j48 x3j48 H locs h hP hD hS ls (lv_sub hl [1, 2, 4] rfl)
          · skip
            have h := h.2 c419
            refine lv_iload_n G.1 G.2.1 d_Re_take_422 rfl (lv_at hl 4 rfl) ?_
            refine lv_bipush (v := 20) G.1 G.2.1 d_Re_take_423 (by decide) ?_
            refine lv_icmp_ge (tgt := 432) G.1 G.2.1 d_Re_take_425 (by decide) (fun c425 => ?_) (fun c425 => ?_)
            · skip
              have h := h.1 c425
              exact J_432 s_j48 x1j48 x3j48 H locs h hP hD hS ls (lv_sub hl [1, 2, 4] rfl)
            · skip
              have h := h.2 c425
              refine lv_iconst (v := 1) G.1 G.2.1 d_Re_take_428 (by decide) ?_
              refine W.eq (g2 := F0 m 429 ls [.int 1]) rfl ?_
              refine lv_goto (tgt := 433) G.1 G.2.1 d_Re_take_429 (by decide) ?_
              exact J_433 s_j48 x1j48 x3j48 1 H locs h hP hD hS ls (lv_sub hl [1, 2, 4] rfl)
      replace h := h.2 e51_105
      by_cases e51_107 : x1j48 = 107
      · skip
        have h := h.1 e51_107
        refine lv_lookup (off := 330) (tgt := 381) G.1 G.2.1 d_Re_take_51 (by decide) (by rw [e51_107]; rfl) (by decide) ?_
        refine lv_iload G.1 G.2.1 d_Re_take_381 (lv_at hl 0 rfl) ?_
        refine lv_istore (lv' := [(6, .int z0j48), (5, .int z0j48), (0, .ref (ad a0)), (1, .int x1j48), (2, .int x2j48), (3, .int x3j48), (4, .int x4j48)]) G.1 G.2.1 d_Re_take_383 hl (by decide) rfl (fun ls hl => ?_)
        refine lv_goto (tgt := 455) G.1 G.2.1 d_Re_take_385 (by decide) ?_
        exact J_455 s_j48 x1j48 x3j48 z0j48 H locs h hP hD hS ls (lv_sub hl [2, 3, 5, 0] rfl)
      replace h := h.2 e51_107
      by_cases e51_109 : x1j48 = 109
      · skip
        have h := h.1 e51_109
        refine lv_lookup (off := 134) (tgt := 185) G.1 G.2.1 d_Re_take_51 (by decide) (by rw [e51_109]; rfl) (by decide) ?_
        refine lv_iload G.1 G.2.1 d_Re_take_185 (lv_at hl 5 rfl) ?_
        have J_200 : ∀ (s_j200 : St) (x1j200 : Int32) (x3j200 : Int32) (z0j200 : Int32) (H : Heap) (locs : List Loc), wj_Re_take_200 y Post a0 s_j200 x1j200 x3j200 z0j200 → va_P D CL (ws g ad y s_j200) H → va_D A (ws g ad y s_j200) → va_S A s.heap H locs → ∀ ls, lv_has ls 7 [(0, .ref (ad a0)), (1, .int x1j200), (3, .int x3j200)] → W p l e ru_Re_take s m args below meth c H locs 0 0 Q (F0 m 200 ls [.int z0j200]) := by
          intro s_j200 x1j200 x3j200 z0j200 H locs h hP hD hS ls hl
          unfold wj_Re_take_200 at h
          refine lv_istore (lv' := [(6, .int z0j200), (0, .ref (ad a0)), (1, .int x1j200), (3, .int x3j200)]) G.1 G.2.1 d_Re_take_200 hl (by decide) rfl (fun ls hl => ?_)
          refine lv_goto (tgt := 455) G.1 G.2.1 d_Re_take_202 (by decide) ?_
          exact J_455 s_j200 x1j200 x3j200 z0j200 H locs h hP hD hS ls (lv_sub hl [1, 2, 3, 0] rfl)
        have J_195 : ∀ (s_j195 : St) (x1j195 : Int32) (x3j195 : Int32) (H : Heap) (locs : List Loc), wj_Re_take_195 y Post a0 s_j195 x1j195 x3j195 → va_P D CL (ws g ad y s_j195) H → va_D A (ws g ad y s_j195) → va_S A s.heap H locs → ∀ ls, lv_has ls 7 [(0, .ref (ad a0)), (1, .int x1j195), (3, .int x3j195)] → W p l e ru_Re_take s m args below meth c H locs 0 0 Q (F0 m 195 ls []) := by
          intro s_j195 x1j195 x3j195 H locs h hP hD hS ls hl
          unfold wj_Re_take_195 at h
          refine lv_iconst (v := 1) G.1 G.2.1 d_Re_take_195 (by decide) ?_
          refine lv_goto (tgt := 200) G.1 G.2.1 d_Re_take_196 (by decide) ?_
          exact J_200 s_j195 x1j195 x3j195 1 H locs h hP hD hS ls (lv_sub hl [0, 1, 2] rfl)
        refine lv_if_ne (tgt := 195) G.1 G.2.1 d_Re_take_187 (by decide) (fun c187 => ?_) (fun c187 => ?_)
        · skip
          have h := h.1 c187
          exact J_195 s_j48 x1j48 x3j48 H locs h hP hD hS ls (lv_sub hl [1, 2, 4] rfl)
        · skip
          have h := h.2 c187
          refine lv_iload_n G.1 G.2.1 d_Re_take_190 rfl (lv_at hl 3 rfl) ?_
          refine lv_iconst (v := 4) G.1 G.2.1 d_Re_take_191 (by decide) ?_
          refine lv_icmp_ne (tgt := 199) G.1 G.2.1 d_Re_take_192 (by decide) (fun c192 => ?_) (fun c192 => ?_)
          · skip
            have h := h.1 c192
            refine lv_iconst (v := 0) G.1 G.2.1 d_Re_take_199 (by decide) ?_
            exact J_200 s_j48 x1j48 x3j48 0 H locs h hP hD hS ls (lv_sub hl [1, 2, 4] rfl)
          · skip
            have h := h.2 c192
            exact J_195 s_j48 x1j48 x3j48 H locs h hP hD hS ls (lv_sub hl [1, 2, 4] rfl)
      replace h := h.2 e51_109
      by_cases e51_110 : x1j48 = 110
      · skip
        have h := h.1 e51_110
        refine lv_lookup (off := 127) (tgt := 178) G.1 G.2.1 d_Re_take_51 (by decide) (by rw [e51_110]; rfl) (by decide) ?_
        refine lv_iload G.1 G.2.1 d_Re_take_178 (lv_at hl 5 rfl) ?_
        refine lv_istore (lv' := [(6, .int x4j48), (5, .int z0j48), (0, .ref (ad a0)), (1, .int x1j48), (2, .int x2j48), (3, .int x3j48), (4, .int x4j48)]) G.1 G.2.1 d_Re_take_180 hl (by decide) rfl (fun ls hl => ?_)
        refine lv_goto (tgt := 455) G.1 G.2.1 d_Re_take_182 (by decide) ?_
        exact J_455 s_j48 x1j48 x3j48 x4j48 H locs h hP hD hS ls (lv_sub hl [2, 3, 5, 0] rfl)
      replace h := h.2 e51_110
      by_cases e51_112 : x1j48 = 112
      · skip
        have h := h.1 e51_112
        refine lv_lookup (off := 337) (tgt := 388) G.1 G.2.1 d_Re_take_51 (by decide) (by rw [e51_112]; rfl) (by decide) ?_
        refine lv_iload G.1 G.2.1 d_Re_take_388 (lv_at hl 0 rfl) ?_
        have J_408 : ∀ (s_j408 : St) (x1j408 : Int32) (x3j408 : Int32) (z0j408 : Int32) (H : Heap) (locs : List Loc), wj_Re_take_408 y Post a0 s_j408 x1j408 x3j408 z0j408 → va_P D CL (ws g ad y s_j408) H → va_D A (ws g ad y s_j408) → va_S A s.heap H locs → ∀ ls, lv_has ls 7 [(0, .ref (ad a0)), (1, .int x1j408), (3, .int x3j408)] → W p l e ru_Re_take s m args below meth c H locs 0 0 Q (F0 m 408 ls [.int z0j408]) := by
          intro s_j408 x1j408 x3j408 z0j408 H locs h hP hD hS ls hl
          unfold wj_Re_take_408 at h
          refine lv_istore (lv' := [(6, .int z0j408), (0, .ref (ad a0)), (1, .int x1j408), (3, .int x3j408)]) G.1 G.2.1 d_Re_take_408 hl (by decide) rfl (fun ls hl => ?_)
          refine lv_goto (tgt := 455) G.1 G.2.1 d_Re_take_410 (by decide) ?_
          exact J_455 s_j408 x1j408 x3j408 z0j408 H locs h hP hD hS ls (lv_sub hl [1, 2, 3, 0] rfl)
        have J_407 : ∀ (s_j407 : St) (x1j407 : Int32) (x3j407 : Int32) (H : Heap) (locs : List Loc), wj_Re_take_407 y Post a0 s_j407 x1j407 x3j407 → va_P D CL (ws g ad y s_j407) H → va_D A (ws g ad y s_j407) → va_S A s.heap H locs → ∀ ls, lv_has ls 7 [(0, .ref (ad a0)), (1, .int x1j407), (3, .int x3j407)] → W p l e ru_Re_take s m args below meth c H locs 0 0 Q (F0 m 407 ls []) := by
          intro s_j407 x1j407 x3j407 H locs h hP hD hS ls hl
          unfold wj_Re_take_407 at h
          refine lv_iconst (v := 0) G.1 G.2.1 d_Re_take_407 (by decide) ?_
          exact J_408 s_j407 x1j407 x3j407 0 H locs h hP hD hS ls (lv_sub hl [0, 1, 2] rfl)
        refine lv_if_eq (tgt := 407) G.1 G.2.1 d_Re_take_390 (by decide) (fun c390 => ?_) (fun c390 => ?_)
        · skip
          have h := h.1 c390
          exact J_407 s_j48 x1j48 x3j48 H locs h hP hD hS ls (lv_sub hl [1, 2, 4] rfl)
        · skip
          have h := h.2 c390
          refine lv_iload_n G.1 G.2.1 d_Re_take_393 rfl (lv_at hl 4 rfl) ?_
          refine lv_if_lt (tgt := 407) G.1 G.2.1 d_Re_take_394 (by decide) (fun c394 => ?_) (fun c394 => ?_)
          · skip
            have h := h.1 c394
            exact J_407 s_j48 x1j48 x3j48 H locs h hP hD hS ls (lv_sub hl [1, 2, 4] rfl)
          · skip
            have h := h.2 c394
            refine lv_iload_n G.1 G.2.1 d_Re_take_397 rfl (lv_at hl 4 rfl) ?_
            refine lv_bipush (v := 20) G.1 G.2.1 d_Re_take_398 (by decide) ?_
            refine lv_icmp_gt (tgt := 407) G.1 G.2.1 d_Re_take_400 (by decide) (fun c400 => ?_) (fun c400 => ?_)
            · skip
              have h := h.1 c400
              exact J_407 s_j48 x1j48 x3j48 H locs h hP hD hS ls (lv_sub hl [1, 2, 4] rfl)
            · skip
              have h := h.2 c400
              refine lv_iconst (v := 1) G.1 G.2.1 d_Re_take_403 (by decide) ?_
              refine W.eq (g2 := F0 m 404 ls [.int 1]) rfl ?_
              refine lv_goto (tgt := 408) G.1 G.2.1 d_Re_take_404 (by decide) ?_
              exact J_408 s_j48 x1j48 x3j48 1 H locs h hP hD hS ls (lv_sub hl [1, 2, 4] rfl)
      replace h := h.2 e51_112
      refine lv_lookup (off := 387) (tgt := 438) G.1 G.2.1 d_Re_take_51 (by decide) (by show Op.lookupswitch.offset [(36, 113), (75, 277), (77, 154), (78, 201), (82, 246), (84, 220), (99, 180), (104, 303), (105, 362), (107, 330), (109, 134), (110, 127), (112, 337)] _ _ = _; rw [lv_osw e51_36 (by decide), lv_osw e51_75 (by decide), lv_osw e51_77 (by decide), lv_osw e51_78 (by decide), lv_osw e51_82 (by decide), lv_osw e51_84 (by decide), lv_osw e51_99 (by decide), lv_osw e51_104 (by decide), lv_osw e51_105 (by decide), lv_osw e51_107 (by decide), lv_osw e51_109 (by decide), lv_osw e51_110 (by decide), lv_osw e51_112 (by decide)]; rfl) (by decide) ?_
      refine lv_iload_n G.1 G.2.1 d_Re_take_438 rfl (lv_at hl 3 rfl) ?_
      refine lv_iconst (v := 3) G.1 G.2.1 d_Re_take_439 (by decide) ?_
      have J_453 : ∀ (s_j453 : St) (x1j453 : Int32) (x3j453 : Int32) (z0j453 : Int32) (H : Heap) (locs : List Loc), wj_Re_take_453 y Post a0 s_j453 x1j453 x3j453 z0j453 → va_P D CL (ws g ad y s_j453) H → va_D A (ws g ad y s_j453) → va_S A s.heap H locs → ∀ ls, lv_has ls 7 [(0, .ref (ad a0)), (1, .int x1j453), (3, .int x3j453)] → W p l e ru_Re_take s m args below meth c H locs 0 0 Q (F0 m 453 ls [.int z0j453]) := by
        intro s_j453 x1j453 x3j453 z0j453 H locs h hP hD hS ls hl
        unfold wj_Re_take_453 at h
        refine lv_istore (lv' := [(6, .int z0j453), (0, .ref (ad a0)), (1, .int x1j453), (3, .int x3j453)]) G.1 G.2.1 d_Re_take_453 hl (by decide) rfl (fun ls hl => ?_)
        exact J_455 s_j453 x1j453 x3j453 z0j453 H locs h hP hD hS ls (lv_sub hl [1, 2, 3, 0] rfl)
      have J_452 : ∀ (s_j452 : St) (x1j452 : Int32) (x3j452 : Int32) (H : Heap) (locs : List Loc), wj_Re_take_452 y Post a0 s_j452 x1j452 x3j452 → va_P D CL (ws g ad y s_j452) H → va_D A (ws g ad y s_j452) → va_S A s.heap H locs → ∀ ls, lv_has ls 7 [(0, .ref (ad a0)), (1, .int x1j452), (3, .int x3j452)] → W p l e ru_Re_take s m args below meth c H locs 0 0 Q (F0 m 452 ls []) := by
        intro s_j452 x1j452 x3j452 H locs h hP hD hS ls hl
        unfold wj_Re_take_452 at h
        refine lv_iconst (v := 0) G.1 G.2.1 d_Re_take_452 (by decide) ?_
        exact J_453 s_j452 x1j452 x3j452 0 H locs h hP hD hS ls (lv_sub hl [0, 1, 2] rfl)
      refine lv_icmp_ne (tgt := 452) G.1 G.2.1 d_Re_take_440 (by decide) (fun c440 => ?_) (fun c440 => ?_)
      · skip
        have h := h.1 c440
        exact J_452 s_j48 x1j48 x3j48 H locs h hP hD hS ls (lv_sub hl [1, 2, 4] rfl)
      · skip
        have h := h.2 c440
        refine lv_iload_n G.1 G.2.1 d_Re_take_443 rfl (lv_at hl 4 rfl) ?_
        refine lv_iload_n G.1 G.2.1 d_Re_take_444 rfl (lv_at hl 2 rfl) ?_
        refine lv_icmp_ne (tgt := 452) G.1 G.2.1 d_Re_take_445 (by decide) (fun c445 => ?_) (fun c445 => ?_)
        · skip
          have h := h.1 c445
          exact J_452 s_j48 x1j48 x3j48 H locs h hP hD hS ls (lv_sub hl [1, 2, 4] rfl)
        · skip
          have h := h.2 c445
          refine lv_iconst (v := 1) G.1 G.2.1 d_Re_take_448 (by decide) ?_
          refine lv_goto (tgt := 453) G.1 G.2.1 d_Re_take_449 (by decide) ?_
          exact J_453 s_j48 x1j48 x3j48 1 H locs h hP hD hS ls (lv_sub hl [1, 2, 4] rfl)
    refine lv_icmp_ne (tgt := 47) G.1 G.2.1 d_Re_take_40 (by decide) (fun c40 => ?_) (fun c40 => ?_)
    · skip
      have h := h.1 c40
      refine lv_iconst (v := 0) G.1 G.2.1 d_Re_take_47 (by decide) ?_
      exact J_48 s_j36 x1j36 x2j36 x3j36 z0j36 0 H locs h hP hD hS ls (lv_sub hl [1, 2, 3, 4, 0] rfl)
    · skip
      have h := h.2 c40
      refine lv_iconst (v := 1) G.1 G.2.1 d_Re_take_43 (by decide) ?_
      refine lv_goto (tgt := 48) G.1 G.2.1 d_Re_take_44 (by decide) ?_
      exact J_48 s_j36 x1j36 x2j36 x3j36 z0j36 1 H locs h hP hD hS ls (lv_sub hl [1, 2, 3, 4, 0] rfl)
  refine lv_icmp_ne (tgt := 35) G.1 G.2.1 d_Re_take_28 (by decide) (fun c28 => ?_) (fun c28 => ?_)
  · skip
    have h := h.1 c28
    refine lv_iconst (v := 0) G.1 G.2.1 d_Re_take_35 (by decide) ?_
    exact J_36 σ v1 x_1 x_2 0 H locs h hP hD hS ls (lv_sub hl [2, 3, 1, 0] rfl)
  · skip
    have h := h.2 c28
    refine lv_iconst (v := 1) G.1 G.2.1 d_Re_take_31 (by decide) ?_
    refine lv_goto (tgt := 36) G.1 G.2.1 d_Re_take_32 (by decide) ?_
    exact J_36 σ v1 x_1 x_2 1 H locs h hP hD hS ls (lv_sub hl [2, 3, 1, 0] rfl)
