def y_Mo_type : MethodName := ⟨"ClassWorksModel", "type", "()I"⟩
abbrev b_Mo_type : ByteArray := prog_14_method_29_code
theorem d_Mo_type_0 : decode b_Mo_type 0 = .ok (.aload_n 0, 1) := by decide +kernel
theorem d_Mo_type_1 : decode b_Mo_type 1 = .ok (.aload_n 0, 1) := by decide +kernel
theorem d_Mo_type_2 : decode b_Mo_type 2 = .ok (.getfield 245, 3) := by decide +kernel
theorem d_Mo_type_5 : decode b_Mo_type 5 = .ok (.invokevirtual 541, 3) := by decide +kernel
theorem d_Mo_type_8 : decode b_Mo_type 8 = .ok (.ifCond .eq 5, 3) := by decide +kernel
theorem d_Mo_type_11 : decode b_Mo_type 11 = .ok (.iconst 1, 1) := by decide +kernel
theorem d_Mo_type_12 : decode b_Mo_type 12 = .ok (.ireturn, 1) := by decide +kernel
theorem d_Mo_type_13 : decode b_Mo_type 13 = .ok (.aload_n 0, 1) := by decide +kernel
theorem d_Mo_type_14 : decode b_Mo_type 14 = .ok (.aload_n 0, 1) := by decide +kernel
theorem d_Mo_type_15 : decode b_Mo_type 15 = .ok (.getfield 212, 3) := by decide +kernel
theorem d_Mo_type_18 : decode b_Mo_type 18 = .ok (.invokevirtual 541, 3) := by decide +kernel
theorem d_Mo_type_21 : decode b_Mo_type 21 = .ok (.ifCond .eq 7, 3) := by decide +kernel
theorem d_Mo_type_24 : decode b_Mo_type 24 = .ok (.iconst 2, 1) := by decide +kernel
theorem d_Mo_type_25 : decode b_Mo_type 25 = .ok (.goto 10, 3) := by decide +kernel
theorem d_Mo_type_28 : decode b_Mo_type 28 = .ok (.bipush 16, 2) := by decide +kernel
theorem d_Mo_type_30 : decode b_Mo_type 30 = .ok (.aload_n 0, 1) := by decide +kernel
theorem d_Mo_type_31 : decode b_Mo_type 31 = .ok (.invokevirtual 554, 3) := by decide +kernel
theorem d_Mo_type_34 : decode b_Mo_type 34 = .ok (.iadd, 1) := by decide +kernel
theorem d_Mo_type_35 : decode b_Mo_type 35 = .ok (.ireturn, 1) := by decide +kernel
abbrev ra_Mo_type (mc ms : Nat) : Room := { frames := 4, cells := mc, slots := ms, locals := 82 }
def wja_Mo_type_35 (mc ms : Nat) (Post : Ly → St → Int32 → Nat → Nat → Prop) (PX : Ly → St → Nat → Nat → Prop) (a0 : Nat) (y_j35 : Ly) (s_j35 : St) (d_j35 e_j35 : Nat) (z0j35 : Int32) : Prop := (d_j35 ≤ mc ∧ e_j35 ≤ ms) ∧ Post y_j35 s_j35 z0j35 d_j35 e_j35
def wx_Mo_type (mc ms : Nat) (y : Ly) (Post : Ly → St → Int32 → Nat → Nat → Prop) (PX : Ly → St → Nat → Nat → Prop) (σ : St) (a0 : Nat) : Prop := wu_Mo_takes y (fun (s_2 : St) (r_1 : Int32) => ((r_1 = 0 → wu_Mo_takes y (fun (s_4 : St) (r_3 : Int32) => ((r_3 = 0 → ∃ mc_10 ms_11 : Nat, (0 + mc_10 ≤ mc ∧ 0 + ms_11 ≤ ms) ∧ wx_Mo_className mc_10 ms_11 y (fun (y_7 : Ly) (s_6 : St) (r_5 : Int32) (d_8 e_9 : Nat) => (0 + d_8 ≤ mc ∧ 0 + e_9 ≤ ms) ∧ wja_Mo_type_35 mc ms Post PX a0 y_7 s_6 (0 + d_8) (0 + e_9) (16 + r_5)) (fun (y_7 : Ly) (s_6 : St) (d_8 e_9 : Nat) => ((0 + d_8 ≤ mc ∧ 0 + e_9 ≤ ms) ∧ PX y_7 s_6 (0 + d_8) (0 + e_9))) s_4 a0) ∧ (¬ (r_3 = 0) → wja_Mo_type_35 mc ms Post PX a0 y s_4 0 0 2))) s_2 a0 (sV s_2 a0 20)) ∧ (¬ (r_1 = 0) → Post y s_2 1 0 0))) σ a0 (sV σ a0 27)
set_option maxHeartbeats 4000000 in
set_option maxRecDepth 100000 in
theorem cx_Mo_type (l : Launch) (D : va_G) (g : Nat → ClassId) (ad : Nat → Nat) (mc ms : Nat) (y : Ly) (Post : Ly → St → Int32 → Nat → Nat → Prop) (PX : Ly → St → Nat → Nat → Prop) (σ : St) (a0 : Nat) (sz uz : Nat) (h_a0 : cl a0 = 14) (h : wx_Mo_type mc ms y Post PX σ a0) : vx_Met l y_Mo_type (mw y_Mo_type b_Mo_type 1 (some .int)) (ra_Mo_type mc ms) (PCu g D [] [.ref (ad a0)] sz uz (ws g ad y σ)) (va_Qi (fun (r : Int32) (u : Ly × St × Nat × Nat) => Post u.1 u.2.1 r u.2.2.1 u.2.2.2) (QU D (va_A (ws g ad y σ) sz) (fun u => ws g ad u.1 u.2.1) sz uz (fun u => u.2.2.1) (fun u => u.2.2.2)) (va_A (ws g ad y σ) sz)) (XQ D g ad (va_A (ws g ad y σ) sz) sz uz PX) mc ms (va_A (ws g ad y σ) sz) := by
  refine ofIx (by decide +kernel) (Nat.le_of_ble_eq_true rfl) ?_
  intro p e s m args below meth c A Q ls H locs G hsz hP hD hS hl hret hretX
  subst hsz
  have hl : lv_has ls 1 [(0, .ref (ad a0))] := hl
  have hd : 0 ≤ mc ∧ 0 ≤ ms := ⟨Nat.zero_le _, Nat.zero_le _⟩
  unfold wx_Mo_type at h
  refine lv_aload_n G.1 G.2.1 d_Mo_type_0 rfl (lv_at hl 0 rfl) ?_
  refine lv_aload_n G.1 G.2.1 d_Mo_type_1 rfl (lv_at hl 0 rfl) ?_
  refine ugf (v := .int (sV σ a0 27)) G hP h_a0 iMo rfl 27 (by decide) rfl q3091 rfl rfl d_Mo_type_2 ?_
  refine ucVi (As := [.int (sV σ a0 27)]) (rest := []) G hP hD hS (cu_Mo_takes l D g ad y _ σ a0 (sV σ a0 27) H.size h_a0 h) w9_Mo_takes q3547 ⟨Nat.le_of_ble_eq_true rfl, Nat.le_of_ble_eq_true rfl⟩ rfl rfl h_a0 (q := (RMo, TMo, 131)) rfl rfl hl.1 rfl (Nat.le_of_ble_eq_true rfl) rfl hd d_Mo_type_5 (fun r_1 s_2 H locs h hP hD hS => ?_)
  refine lv_if_eq (tgt := 13) G.1 G.2.1 d_Mo_type_8 (by decide) (fun c8 => ?_) (fun c8 => ?_)
  · skip
    have h := h.1 c8
    refine lv_aload_n G.1 G.2.1 d_Mo_type_13 rfl (lv_at hl 0 rfl) ?_
    refine lv_aload_n G.1 G.2.1 d_Mo_type_14 rfl (lv_at hl 0 rfl) ?_
    refine ugf (v := .int (sV s_2 a0 20)) G hP h_a0 iMo rfl 20 (by decide) rfl q3084 rfl rfl d_Mo_type_15 ?_
    refine ucVi (As := [.int (sV s_2 a0 20)]) (rest := []) G hP hD hS (cu_Mo_takes l D g ad y _ s_2 a0 (sV s_2 a0 20) H.size h_a0 h) w9_Mo_takes q3547 ⟨Nat.le_of_ble_eq_true rfl, Nat.le_of_ble_eq_true rfl⟩ rfl rfl h_a0 (q := (RMo, TMo, 131)) rfl rfl hl.1 rfl (Nat.le_of_ble_eq_true rfl) rfl hd d_Mo_type_18 (fun r_3 s_4 H locs h hP hD hS => ?_)
    have J_35 : ∀ (y_j35 : Ly) (s_j35 : St) (d_j35 e_j35 : Nat) (z0j35 : Int32) (H : Heap) (locs : List Loc), wja_Mo_type_35 mc ms Post PX a0 y_j35 s_j35 d_j35 e_j35 z0j35 → va_P D CL (ws g ad y_j35 s_j35) H → va_D A (ws g ad y_j35 s_j35) → va_S A s.heap H locs → ∀ ls, lv_has ls 1 [] → W p l e (ra_Mo_type mc ms) s m args below meth c H locs d_j35 e_j35 Q (F0 m 35 ls [.int z0j35]) := by
      intro y_j35 s_j35 d_j35 e_j35 z0j35 H locs h hP hD hS ls hl
      unfold wja_Mo_type_35 at h
      obtain ⟨hd, h⟩ := h
      exact hret _ (y_j35, s_j35, d_j35, e_j35) _ _ _ _ _ ls h hP hD hS (Nat.le_refl _) (Nat.le_refl _) hd.1 hd.2 d_Mo_type_35
    refine lv_if_eq (tgt := 28) G.1 G.2.1 d_Mo_type_21 (by decide) (fun c21 => ?_) (fun c21 => ?_)
    · skip
      have h := h.1 c21
      refine lv_bipush (v := 16) G.1 G.2.1 d_Mo_type_28 (by decide) ?_
      refine W.eq (g2 := F0 m 30 ls [.int 16]) rfl ?_
      refine lv_aload_n G.1 G.2.1 d_Mo_type_30 rfl (lv_at hl 0 rfl) ?_
      obtain ⟨mc_10, ms_11, hr_12, h⟩ := h
      refine uxVi (As := []) (rest := [.int 16]) G hP hD hS (cx_Mo_className l D g ad mc_10 ms_11 y _ _ s_4 a0 H.size (us H) h_a0 h) (fun _ h => absurd h List.not_mem_nil) w9_Mo_className q3555 ⟨Nat.le_of_ble_eq_true rfl, Nat.le_of_ble_eq_true rfl⟩ rfl rfl h_a0 (q := (RMo, TMo, 131)) rfl rfl hl.1 rfl (Nat.le_of_ble_eq_true rfl) rfl hr_12 d_Mo_type_31 (fun y_7 s_6 d_8 e_9 H locs q9 ce h hP hD hS hce hcv hcl => ?_) (fun r_5 y_7 s_6 d_8 e_9 H locs h hP hD hS => ?_)
      · skip
        obtain ⟨hd, h⟩ := h
        exact hretX h hP hD hS hd.1 hd.2 hce hcv hcl
      have hl := lv_sub (l' := []) hl [] rfl
      obtain ⟨hd, h⟩ := h
      refine lv_iadd G.1 G.2.1 d_Mo_type_34 ?_
      exact J_35 y_7 s_6 (0 + d_8) (0 + e_9) (16 + r_5) H locs h hP hD hS ls (lv_sub hl [] rfl)
    · skip
      have h := h.2 c21
      refine lv_iconst (v := 2) G.1 G.2.1 d_Mo_type_24 (by decide) ?_
      refine W.eq (g2 := F0 m 25 ls [.int 2]) rfl ?_
      refine lv_goto (tgt := 35) G.1 G.2.1 d_Mo_type_25 (by decide) ?_
      exact J_35 y s_4 0 0 2 H locs h hP hD hS ls (lv_sub hl [] rfl)
  · skip
    have h := h.2 c8
    refine lv_iconst (v := 1) G.1 G.2.1 d_Mo_type_11 (by decide) ?_
    exact hret _ (y, s_2, 0, 0) _ _ _ _ _ ls h hP hD hS (Nat.le_refl _) (Nat.le_refl _) hd.1 hd.2 d_Mo_type_12
def y_Mo_numberIn : MethodName := ⟨"ClassWorksModel", "numberIn", "(II)I"⟩
abbrev b_Mo_numberIn : ByteArray := prog_14_method_32_code
theorem d_Mo_numberIn_0 : decode b_Mo_numberIn 0 = .ok (.aload_n 0, 1) := by decide +kernel
theorem d_Mo_numberIn_1 : decode b_Mo_numberIn 1 = .ok (.getfield 92, 3) := by decide +kernel
theorem d_Mo_numberIn_4 : decode b_Mo_numberIn 4 = .ok (.aload_n 0, 1) := by decide +kernel
theorem d_Mo_numberIn_5 : decode b_Mo_numberIn 5 = .ok (.getfield 104, 3) := by decide +kernel
theorem d_Mo_numberIn_8 : decode b_Mo_numberIn 8 = .ok (.baload, 1) := by decide +kernel
theorem d_Mo_numberIn_9 : decode b_Mo_numberIn 9 = .ok (.iconst 4, 1) := by decide +kernel
theorem d_Mo_numberIn_10 : decode b_Mo_numberIn 10 = .ok (.if_icmp .ne 29, 3) := by decide +kernel
theorem d_Mo_numberIn_13 : decode b_Mo_numberIn 13 = .ok (.aload_n 0, 1) := by decide +kernel
theorem d_Mo_numberIn_14 : decode b_Mo_numberIn 14 = .ok (.getfield 98, 3) := by decide +kernel
theorem d_Mo_numberIn_17 : decode b_Mo_numberIn 17 = .ok (.aload_n 0, 1) := by decide +kernel
theorem d_Mo_numberIn_18 : decode b_Mo_numberIn 18 = .ok (.getfield 104, 3) := by decide +kernel
theorem d_Mo_numberIn_21 : decode b_Mo_numberIn 21 = .ok (.iaload, 1) := by decide +kernel
theorem d_Mo_numberIn_22 : decode b_Mo_numberIn 22 = .ok (.iload_n 1, 1) := by decide +kernel
theorem d_Mo_numberIn_23 : decode b_Mo_numberIn 23 = .ok (.if_icmp .lt 16, 3) := by decide +kernel
theorem d_Mo_numberIn_26 : decode b_Mo_numberIn 26 = .ok (.aload_n 0, 1) := by decide +kernel
theorem d_Mo_numberIn_27 : decode b_Mo_numberIn 27 = .ok (.getfield 98, 3) := by decide +kernel
theorem d_Mo_numberIn_30 : decode b_Mo_numberIn 30 = .ok (.aload_n 0, 1) := by decide +kernel
theorem d_Mo_numberIn_31 : decode b_Mo_numberIn 31 = .ok (.getfield 104, 3) := by decide +kernel
theorem d_Mo_numberIn_34 : decode b_Mo_numberIn 34 = .ok (.iaload, 1) := by decide +kernel
theorem d_Mo_numberIn_35 : decode b_Mo_numberIn 35 = .ok (.iload_n 2, 1) := by decide +kernel
theorem d_Mo_numberIn_36 : decode b_Mo_numberIn 36 = .ok (.if_icmp .le 7, 3) := by decide +kernel
theorem d_Mo_numberIn_39 : decode b_Mo_numberIn 39 = .ok (.aload_n 0, 1) := by decide +kernel
theorem d_Mo_numberIn_40 : decode b_Mo_numberIn 40 = .ok (.invokevirtual 535, 3) := by decide +kernel
theorem d_Mo_numberIn_43 : decode b_Mo_numberIn 43 = .ok (.aload_n 0, 1) := by decide +kernel
theorem d_Mo_numberIn_44 : decode b_Mo_numberIn 44 = .ok (.dup, 1) := by decide +kernel
theorem d_Mo_numberIn_45 : decode b_Mo_numberIn 45 = .ok (.getfield 104, 3) := by decide +kernel
theorem d_Mo_numberIn_48 : decode b_Mo_numberIn 48 = .ok (.iconst 1, 1) := by decide +kernel
theorem d_Mo_numberIn_49 : decode b_Mo_numberIn 49 = .ok (.iadd, 1) := by decide +kernel
theorem d_Mo_numberIn_50 : decode b_Mo_numberIn 50 = .ok (.putfield 104, 3) := by decide +kernel
theorem d_Mo_numberIn_53 : decode b_Mo_numberIn 53 = .ok (.aload_n 0, 1) := by decide +kernel
theorem d_Mo_numberIn_54 : decode b_Mo_numberIn 54 = .ok (.getfield 98, 3) := by decide +kernel
theorem d_Mo_numberIn_57 : decode b_Mo_numberIn 57 = .ok (.aload_n 0, 1) := by decide +kernel
theorem d_Mo_numberIn_58 : decode b_Mo_numberIn 58 = .ok (.getfield 104, 3) := by decide +kernel
theorem d_Mo_numberIn_61 : decode b_Mo_numberIn 61 = .ok (.iconst 1, 1) := by decide +kernel
theorem d_Mo_numberIn_62 : decode b_Mo_numberIn 62 = .ok (.isub, 1) := by decide +kernel
theorem d_Mo_numberIn_63 : decode b_Mo_numberIn 63 = .ok (.iaload, 1) := by decide +kernel
theorem d_Mo_numberIn_64 : decode b_Mo_numberIn 64 = .ok (.ireturn, 1) := by decide +kernel
abbrev ra_Mo_numberIn (mc ms : Nat) : Room := { frames := 1, cells := mc, slots := ms, locals := 20 }
def wja_Mo_numberIn_43 (mc ms : Nat) (Post : Ly → St → Int32 → Nat → Nat → Prop) (PX : Ly → St → Nat → Nat → Prop) (a0 : Nat) (y_j43 : Ly) (s_j43 : St) (d_j43 e_j43 : Nat) : Prop := (d_j43 ≤ mc ∧ e_j43 ≤ ms) ∧ xP (uV s_j43 a0 43 ((sV s_j43 a0 43) + 1)) (fun s_2 : St => xA y_j43 s_2 a0 40 ((sV s_2 a0 43) - 1) (fun x_3 : Int32 => Post y_j43 s_2 x_3 d_j43 e_j43))
def wja_Mo_numberIn_39 (mc ms : Nat) (Post : Ly → St → Int32 → Nat → Nat → Prop) (PX : Ly → St → Nat → Nat → Prop) (a0 : Nat) (y_j39 : Ly) (s_j39 : St) (d_j39 e_j39 : Nat) : Prop := (d_j39 ≤ mc ∧ e_j39 ≤ ms) ∧ ∃ mc_9 ms_10 : Nat, (d_j39 + mc_9 ≤ mc ∧ e_j39 + ms_10 ≤ ms) ∧ wx_Mo_wrong mc_9 ms_10 y_j39 (fun (y_6 : Ly) (s_5 : St) (d_7 e_8 : Nat) => (d_j39 + d_7 ≤ mc ∧ e_j39 + e_8 ≤ ms) ∧ wja_Mo_numberIn_43 mc ms Post PX a0 y_6 s_5 (d_j39 + d_7) (e_j39 + e_8)) (fun (y_6 : Ly) (s_5 : St) (d_7 e_8 : Nat) => ((d_j39 + d_7 ≤ mc ∧ e_j39 + e_8 ≤ ms) ∧ PX y_6 s_5 (d_j39 + d_7) (e_j39 + e_8))) s_j39 a0
def wx_Mo_numberIn (mc ms : Nat) (y : Ly) (Post : Ly → St → Int32 → Nat → Nat → Prop) (PX : Ly → St → Nat → Nat → Prop) (σ : St) (a0 : Nat) (v1 : Int32) (v2 : Int32) : Prop := xA y σ a0 39 (sV σ a0 43) (fun x_1 : Int32 => ((¬ x_1 = 4 → wja_Mo_numberIn_39 mc ms Post PX a0 y σ 0 0) ∧ (x_1 = 4 → xA y σ a0 40 (sV σ a0 43) (fun x_12 : Int32 => ((x_12 < v1 → wja_Mo_numberIn_39 mc ms Post PX a0 y σ 0 0) ∧ (¬ (x_12 < v1) → xA y σ a0 40 (sV σ a0 43) (fun x_13 : Int32 => ((x_13 ≤ v2 → wja_Mo_numberIn_43 mc ms Post PX a0 y σ 0 0) ∧ (¬ (x_13 ≤ v2) → wja_Mo_numberIn_39 mc ms Post PX a0 y σ 0 0)))))))))
set_option maxHeartbeats 4000000 in
set_option maxRecDepth 100000 in
theorem cx_Mo_numberIn (l : Launch) (D : va_G) (g : Nat → ClassId) (ad : Nat → Nat) (mc ms : Nat) (y : Ly) (Post : Ly → St → Int32 → Nat → Nat → Prop) (PX : Ly → St → Nat → Nat → Prop) (σ : St) (a0 : Nat) (v1 : Int32) (v2 : Int32) (sz uz : Nat) (h_a0 : cl a0 = 14) (h : wx_Mo_numberIn mc ms y Post PX σ a0 v1 v2) : vx_Met l y_Mo_numberIn (mw y_Mo_numberIn b_Mo_numberIn 3 (some .int)) (ra_Mo_numberIn mc ms) (PCu g D [] [.ref (ad a0), .int v1, .int v2] sz uz (ws g ad y σ)) (va_Qi (fun (r : Int32) (u : Ly × St × Nat × Nat) => Post u.1 u.2.1 r u.2.2.1 u.2.2.2) (QU D (va_A (ws g ad y σ) sz) (fun u => ws g ad u.1 u.2.1) sz uz (fun u => u.2.2.1) (fun u => u.2.2.2)) (va_A (ws g ad y σ) sz)) (XQ D g ad (va_A (ws g ad y σ) sz) sz uz PX) mc ms (va_A (ws g ad y σ) sz) := by
  refine ofIx (by decide +kernel) (Nat.le_of_ble_eq_true rfl) ?_
  intro p e s m args below meth c A Q ls H locs G hsz hP hD hS hl hret hretX
  subst hsz
  have hl : lv_has ls 3 [(0, .ref (ad a0)), (1, .int v1), (2, .int v2)] := hl
  have hd : 0 ≤ mc ∧ 0 ≤ ms := ⟨Nat.zero_le _, Nat.zero_le _⟩
  unfold wx_Mo_numberIn at h
  refine lv_aload_n G.1 G.2.1 d_Mo_numberIn_0 rfl (lv_at hl 0 rfl) ?_
  refine ugf (v := .ref (yP y a0 39)) G hP h_a0 iMo rfl 39 (by decide) rfl q3103 rfl rfl d_Mo_numberIn_1 ?_
  refine lv_aload_n G.1 G.2.1 d_Mo_numberIn_4 rfl (lv_at hl 0 rfl) ?_
  refine ugf (v := .int (sV σ a0 43)) G hP h_a0 iMo rfl 43 (by decide) rfl q3107 rfl rfl d_Mo_numberIn_5 ?_
  refine ubald G hP (kdp h_a0 rfl) (typ h_a0 rfl) h d_Mo_numberIn_8 (fun x_1 h => ?_)
  refine lv_iconst (v := 4) G.1 G.2.1 d_Mo_numberIn_9 (by decide) ?_
  have J_43 : ∀ (y_j43 : Ly) (s_j43 : St) (d_j43 e_j43 : Nat) (H : Heap) (locs : List Loc), wja_Mo_numberIn_43 mc ms Post PX a0 y_j43 s_j43 d_j43 e_j43 → va_P D CL (ws g ad y_j43 s_j43) H → va_D A (ws g ad y_j43 s_j43) → va_S A s.heap H locs → ∀ ls, lv_has ls 3 [(0, .ref (ad a0))] → W p l e (ra_Mo_numberIn mc ms) s m args below meth c H locs d_j43 e_j43 Q (F0 m 43 ls []) := by
    intro y_j43 s_j43 d_j43 e_j43 H locs h hP hD hS ls hl
    unfold wja_Mo_numberIn_43 at h
    obtain ⟨hd, h⟩ := h
    refine lv_aload_n G.1 G.2.1 d_Mo_numberIn_43 rfl (lv_at hl 0 rfl) ?_
    refine lv_dup G.1 G.2.1 d_Mo_numberIn_44 rfl ?_
    refine ugf (v := .int (sV s_j43 a0 43)) G hP h_a0 iMo rfl 43 (by decide) rfl q3107 rfl rfl d_Mo_numberIn_45 ?_
    refine lv_iconst (v := 1) G.1 G.2.1 d_Mo_numberIn_48 (by decide) ?_
    refine lv_iadd G.1 G.2.1 d_Mo_numberIn_49 ?_
    refine upf G hP hD hS h 43 putV h_a0 iMo tMo tMo_ok nMo rfl (by decide) rfl q3107 rfl rfl fV rfl rfl d_Mo_numberIn_50 (fun s_2 H locs h hP hD hS => ?_)
    refine lv_aload_n G.1 G.2.1 d_Mo_numberIn_53 rfl (lv_at hl 0 rfl) ?_
    refine ugf (v := .ref (yP y_j43 a0 40)) G hP h_a0 iMo rfl 40 (by decide) rfl q3104 rfl rfl d_Mo_numberIn_54 ?_
    refine lv_aload_n G.1 G.2.1 d_Mo_numberIn_57 rfl (lv_at hl 0 rfl) ?_
    refine ugf (v := .int (sV s_2 a0 43)) G hP h_a0 iMo rfl 43 (by decide) rfl q3107 rfl rfl d_Mo_numberIn_58 ?_
    refine lv_iconst (v := 1) G.1 G.2.1 d_Mo_numberIn_61 (by decide) ?_
    refine W.eq (g2 := F0 m 62 ls [.int 1, .int (sV s_2 a0 43), .ref (yP y_j43 a0 40)]) rfl ?_
    refine lv_isub G.1 G.2.1 d_Mo_numberIn_62 ?_
    refine uiald G hP (kdp h_a0 rfl) (typ h_a0 rfl) h d_Mo_numberIn_63 (fun x_3 h => ?_)
    exact hret _ (y_j43, s_2, d_j43, e_j43) _ _ _ _ _ ls h hP hD hS (Nat.le_refl _) (Nat.le_refl _) hd.1 hd.2 d_Mo_numberIn_64
  have J_39 : ∀ (y_j39 : Ly) (s_j39 : St) (d_j39 e_j39 : Nat) (H : Heap) (locs : List Loc), wja_Mo_numberIn_39 mc ms Post PX a0 y_j39 s_j39 d_j39 e_j39 → va_P D CL (ws g ad y_j39 s_j39) H → va_D A (ws g ad y_j39 s_j39) → va_S A s.heap H locs → ∀ ls, lv_has ls 3 [(0, .ref (ad a0))] → W p l e (ra_Mo_numberIn mc ms) s m args below meth c H locs d_j39 e_j39 Q (F0 m 39 ls []) := by
    intro y_j39 s_j39 d_j39 e_j39 H locs h hP hD hS ls hl
    unfold wja_Mo_numberIn_39 at h
    obtain ⟨hd, h⟩ := h
    refine lv_aload_n G.1 G.2.1 d_Mo_numberIn_39 rfl (lv_at hl 0 rfl) ?_
    obtain ⟨mc_9, ms_10, hr_11, h⟩ := h
    refine uxVv (As := []) (rest := []) G hP hD hS (cx_Mo_wrong l D g ad mc_9 ms_10 y_j39 _ _ s_j39 a0 H.size (us H) h_a0 h) (fun _ h => absurd h List.not_mem_nil) w9_Mo_wrong q3551 ⟨Nat.le_of_ble_eq_true rfl, Nat.le_of_ble_eq_true rfl⟩ rfl rfl h_a0 (q := (RMo, TMo, 131)) rfl rfl hl.1 rfl (Nat.le_of_ble_eq_true rfl) rfl hr_11 d_Mo_numberIn_40 (fun y_6 s_5 d_7 e_8 H locs q9 ce h hP hD hS hce hcv hcl => ?_) (fun y_6 s_5 d_7 e_8 H locs h hP hD hS => ?_)
    · skip
      obtain ⟨hd, h⟩ := h
      exact hretX h hP hD hS hd.1 hd.2 hce hcv hcl
    obtain ⟨hd, h⟩ := h
    exact J_43 y_6 s_5 (d_j39 + d_7) (e_j39 + e_8) H locs h hP hD hS ls (lv_sub hl [0] rfl)
  refine lv_icmp_ne (tgt := 39) G.1 G.2.1 d_Mo_numberIn_10 (by decide) (fun c10 => ?_) (fun c10 => ?_)
  · skip
    have h := h.1 c10
    exact J_39 y σ 0 0 H locs h hP hD hS ls (lv_sub hl [0] rfl)
  · skip
    have h := h.2 c10
    refine lv_aload_n G.1 G.2.1 d_Mo_numberIn_13 rfl (lv_at hl 0 rfl) ?_
    refine ugf (v := .ref (yP y a0 40)) G hP h_a0 iMo rfl 40 (by decide) rfl q3104 rfl rfl d_Mo_numberIn_14 ?_
    refine lv_aload_n G.1 G.2.1 d_Mo_numberIn_17 rfl (lv_at hl 0 rfl) ?_
    refine ugf (v := .int (sV σ a0 43)) G hP h_a0 iMo rfl 43 (by decide) rfl q3107 rfl rfl d_Mo_numberIn_18 ?_
    refine W.eq (g2 := F0 m 21 ls [.int (sV σ a0 43), .ref (yP y a0 40)]) rfl ?_
    refine uiald G hP (kdp h_a0 rfl) (typ h_a0 rfl) h d_Mo_numberIn_21 (fun x_12 h => ?_)
    refine lv_iload_n G.1 G.2.1 d_Mo_numberIn_22 rfl (lv_at hl 1 rfl) ?_
    refine lv_icmp_lt (tgt := 39) G.1 G.2.1 d_Mo_numberIn_23 (by decide) (fun c23 => ?_) (fun c23 => ?_)
    · skip
      have h := h.1 c23
      exact J_39 y σ 0 0 H locs h hP hD hS ls (lv_sub hl [0] rfl)
    · skip
      have h := h.2 c23
      refine lv_aload_n G.1 G.2.1 d_Mo_numberIn_26 rfl (lv_at hl 0 rfl) ?_
      refine ugf (v := .ref (yP y a0 40)) G hP h_a0 iMo rfl 40 (by decide) rfl q3104 rfl rfl d_Mo_numberIn_27 ?_
      refine lv_aload_n G.1 G.2.1 d_Mo_numberIn_30 rfl (lv_at hl 0 rfl) ?_
      refine ugf (v := .int (sV σ a0 43)) G hP h_a0 iMo rfl 43 (by decide) rfl q3107 rfl rfl d_Mo_numberIn_31 ?_
      refine uiald G hP (kdp h_a0 rfl) (typ h_a0 rfl) h d_Mo_numberIn_34 (fun x_13 h => ?_)
      refine lv_iload_n G.1 G.2.1 d_Mo_numberIn_35 rfl (lv_at hl 2 rfl) ?_
      refine lv_icmp_le (tgt := 43) G.1 G.2.1 d_Mo_numberIn_36 (by decide) (fun c36 => ?_) (fun c36 => ?_)
      · skip
        have h := h.1 c36
        exact J_43 y σ 0 0 H locs h hP hD hS ls (lv_sub hl [0] rfl)
      · skip
        have h := h.2 c36
        exact J_39 y σ 0 0 H locs h hP hD hS ls (lv_sub hl [0] rfl)
theorem q3587 : Cond.methodLink "ClassWorksModel" 563 y_Mo_type ∈ lw_ok := lw_okmem (List.mem_of_getElem? (i := 3587) (by decide +kernel)) rfl
theorem q3590 : Cond.code y_Mo_type b_Mo_type 1 (some .int) ∈ lw_ok := lw_okmem (List.mem_of_getElem? (i := 3590) (by decide +kernel)) rfl
theorem q3589 : Cond.instanceMethod y_Mo_type ∈ lw_ok := lw_okmem (List.mem_of_getElem? (i := 3589) (by decide +kernel)) rfl
theorem q200 : Cond.selects y_Mo_type.cls y_Mo_type y_Mo_type ∈ lw_ok := lw_okmem (List.mem_of_getElem? (i := 200) (by decide +kernel)) rfl
theorem w9_Mo_type : CWv y_Mo_type b_Mo_type 1 (some .int) 0 ∧ Cond.instanceMethod y_Mo_type ∈ lw_ok ∧ Cond.selects y_Mo_type.cls y_Mo_type y_Mo_type ∈ lw_ok := ⟨⟨q3590, q348, by decide +kernel, by decide +kernel, by decide +kernel⟩, q3589, q200⟩
theorem q3591 : Cond.constant "ClassWorksModel" 617 (2147483647) ∈ lw_ok := lw_okmem (List.mem_of_getElem? (i := 3591) (by decide +kernel)) rfl
theorem q3592 : Cond.methodLink "ClassWorksModel" 618 y_Mo_numberIn ∈ lw_ok := lw_okmem (List.mem_of_getElem? (i := 3592) (by decide +kernel)) rfl
theorem q3595 : Cond.code y_Mo_numberIn b_Mo_numberIn 3 (some .int) ∈ lw_ok := lw_okmem (List.mem_of_getElem? (i := 3595) (by decide +kernel)) rfl
theorem q3594 : Cond.instanceMethod y_Mo_numberIn ∈ lw_ok := lw_okmem (List.mem_of_getElem? (i := 3594) (by decide +kernel)) rfl
theorem q201 : Cond.selects y_Mo_numberIn.cls y_Mo_numberIn y_Mo_numberIn ∈ lw_ok := lw_okmem (List.mem_of_getElem? (i := 201) (by decide +kernel)) rfl
theorem w9_Mo_numberIn : CWv y_Mo_numberIn b_Mo_numberIn 3 (some .int) 2 ∧ Cond.instanceMethod y_Mo_numberIn ∈ lw_ok ∧ Cond.selects y_Mo_numberIn.cls y_Mo_numberIn y_Mo_numberIn ∈ lw_ok := ⟨⟨q3595, q348, by decide +kernel, by decide +kernel, by decide +kernel⟩, q3594, q201⟩
def y_Mo_fieldLine : MethodName := ⟨"ClassWorksModel", "fieldLine", "()V"⟩
abbrev b_Mo_fieldLine : ByteArray := prog_14_method_36_code
theorem q3093 : Cond.fieldLink "ClassWorksModel" 251 "ClassWorksModel" "kStatic" "I" ∈ lw_ok := lw_okmem (List.mem_of_getElem? (i := 3093) (by decide +kernel)) rfl
theorem q3079 : Cond.fieldLink "ClassWorksModel" 188 "ClassWorksModel" "kPrivate" "I" ∈ lw_ok := lw_okmem (List.mem_of_getElem? (i := 3079) (by decide +kernel)) rfl
theorem d_Mo_fieldLine_0 : decode b_Mo_fieldLine 0 = .ok (.iconst 0, 1) := by decide +kernel
theorem d_Mo_fieldLine_1 : decode b_Mo_fieldLine 1 = .ok (.istore_n 1, 1) := by decide +kernel
theorem d_Mo_fieldLine_2 : decode b_Mo_fieldLine 2 = .ok (.iconst 1, 1) := by decide +kernel
theorem d_Mo_fieldLine_3 : decode b_Mo_fieldLine 3 = .ok (.istore_n 2, 1) := by decide +kernel
theorem d_Mo_fieldLine_4 : decode b_Mo_fieldLine 4 = .ok (.iload_n 2, 1) := by decide +kernel
theorem d_Mo_fieldLine_5 : decode b_Mo_fieldLine 5 = .ok (.ifCond .eq 99, 3) := by decide +kernel
theorem d_Mo_fieldLine_8 : decode b_Mo_fieldLine 8 = .ok (.aload_n 0, 1) := by decide +kernel
theorem d_Mo_fieldLine_9 : decode b_Mo_fieldLine 9 = .ok (.aload_n 0, 1) := by decide +kernel
theorem d_Mo_fieldLine_10 : decode b_Mo_fieldLine 10 = .ok (.getfield 251, 3) := by decide +kernel
theorem d_Mo_fieldLine_13 : decode b_Mo_fieldLine 13 = .ok (.invokevirtual 538, 3) := by decide +kernel
theorem d_Mo_fieldLine_16 : decode b_Mo_fieldLine 16 = .ok (.ifCond .eq 7, 3) := by decide +kernel
theorem d_Mo_fieldLine_19 : decode b_Mo_fieldLine 19 = .ok (.iconst 1, 1) := by decide +kernel
theorem d_Mo_fieldLine_20 : decode b_Mo_fieldLine 20 = .ok (.goto 34, 3) := by decide +kernel
theorem d_Mo_fieldLine_23 : decode b_Mo_fieldLine 23 = .ok (.aload_n 0, 1) := by decide +kernel
theorem d_Mo_fieldLine_24 : decode b_Mo_fieldLine 24 = .ok (.aload_n 0, 1) := by decide +kernel
theorem d_Mo_fieldLine_25 : decode b_Mo_fieldLine 25 = .ok (.getfield 163, 3) := by decide +kernel
theorem d_Mo_fieldLine_28 : decode b_Mo_fieldLine 28 = .ok (.invokevirtual 538, 3) := by decide +kernel
theorem d_Mo_fieldLine_31 : decode b_Mo_fieldLine 31 = .ok (.ifCond .eq 7, 3) := by decide +kernel
theorem d_Mo_fieldLine_34 : decode b_Mo_fieldLine 34 = .ok (.iconst 2, 1) := by decide +kernel
theorem d_Mo_fieldLine_35 : decode b_Mo_fieldLine 35 = .ok (.goto 19, 3) := by decide +kernel
theorem d_Mo_fieldLine_38 : decode b_Mo_fieldLine 38 = .ok (.aload_n 0, 1) := by decide +kernel
theorem d_Mo_fieldLine_39 : decode b_Mo_fieldLine 39 = .ok (.aload_n 0, 1) := by decide +kernel
theorem d_Mo_fieldLine_40 : decode b_Mo_fieldLine 40 = .ok (.getfield 188, 3) := by decide +kernel
theorem d_Mo_fieldLine_43 : decode b_Mo_fieldLine 43 = .ok (.invokevirtual 538, 3) := by decide +kernel
theorem d_Mo_fieldLine_46 : decode b_Mo_fieldLine 46 = .ok (.ifCond .eq 7, 3) := by decide +kernel
theorem d_Mo_fieldLine_49 : decode b_Mo_fieldLine 49 = .ok (.iconst 4, 1) := by decide +kernel
theorem d_Mo_fieldLine_50 : decode b_Mo_fieldLine 50 = .ok (.goto 4, 3) := by decide +kernel
theorem d_Mo_fieldLine_53 : decode b_Mo_fieldLine 53 = .ok (.iconst 0, 1) := by decide +kernel
theorem d_Mo_fieldLine_54 : decode b_Mo_fieldLine 54 = .ok (.istore_n 3, 1) := by decide +kernel
theorem d_Mo_fieldLine_55 : decode b_Mo_fieldLine 55 = .ok (.iload_n 3, 1) := by decide +kernel
theorem d_Mo_fieldLine_56 : decode b_Mo_fieldLine 56 = .ok (.ifCond .eq 13, 3) := by decide +kernel
theorem d_Mo_fieldLine_59 : decode b_Mo_fieldLine 59 = .ok (.iload_n 1, 1) := by decide +kernel
theorem d_Mo_fieldLine_60 : decode b_Mo_fieldLine 60 = .ok (.iload_n 3, 1) := by decide +kernel
theorem d_Mo_fieldLine_61 : decode b_Mo_fieldLine 61 = .ok (.iand, 1) := by decide +kernel
theorem d_Mo_fieldLine_62 : decode b_Mo_fieldLine 62 = .ok (.ifCond .ne 7, 3) := by decide +kernel
theorem d_Mo_fieldLine_65 : decode b_Mo_fieldLine 65 = .ok (.iconst 1, 1) := by decide +kernel
theorem d_Mo_fieldLine_66 : decode b_Mo_fieldLine 66 = .ok (.goto 4, 3) := by decide +kernel
theorem d_Mo_fieldLine_69 : decode b_Mo_fieldLine 69 = .ok (.iconst 0, 1) := by decide +kernel
theorem d_Mo_fieldLine_70 : decode b_Mo_fieldLine 70 = .ok (.istore_n 2, 1) := by decide +kernel
theorem d_Mo_fieldLine_71 : decode b_Mo_fieldLine 71 = .ok (.iload_n 1, 1) := by decide +kernel
theorem d_Mo_fieldLine_72 : decode b_Mo_fieldLine 72 = .ok (.iload_n 2, 1) := by decide +kernel
theorem d_Mo_fieldLine_73 : decode b_Mo_fieldLine 73 = .ok (.ifCond .eq 7, 3) := by decide +kernel
theorem d_Mo_fieldLine_76 : decode b_Mo_fieldLine 76 = .ok (.iload_n 3, 1) := by decide +kernel
theorem d_Mo_fieldLine_77 : decode b_Mo_fieldLine 77 = .ok (.goto 4, 3) := by decide +kernel
theorem d_Mo_fieldLine_80 : decode b_Mo_fieldLine 80 = .ok (.iconst 0, 1) := by decide +kernel
theorem d_Mo_fieldLine_81 : decode b_Mo_fieldLine 81 = .ok (.ior, 1) := by decide +kernel
theorem d_Mo_fieldLine_82 : decode b_Mo_fieldLine 82 = .ok (.istore_n 1, 1) := by decide +kernel
theorem d_Mo_fieldLine_83 : decode b_Mo_fieldLine 83 = .ok (.aload_n 0, 1) := by decide +kernel
theorem d_Mo_fieldLine_84 : decode b_Mo_fieldLine 84 = .ok (.dup, 1) := by decide +kernel
theorem d_Mo_fieldLine_85 : decode b_Mo_fieldLine 85 = .ok (.getfield 104, 3) := by decide +kernel
theorem d_Mo_fieldLine_88 : decode b_Mo_fieldLine 88 = .ok (.iload_n 2, 1) := by decide +kernel
theorem d_Mo_fieldLine_89 : decode b_Mo_fieldLine 89 = .ok (.ifCond .eq 7, 3) := by decide +kernel
theorem d_Mo_fieldLine_92 : decode b_Mo_fieldLine 92 = .ok (.iconst 1, 1) := by decide +kernel
theorem d_Mo_fieldLine_93 : decode b_Mo_fieldLine 93 = .ok (.goto 4, 3) := by decide +kernel
theorem d_Mo_fieldLine_96 : decode b_Mo_fieldLine 96 = .ok (.iconst 0, 1) := by decide +kernel
theorem d_Mo_fieldLine_97 : decode b_Mo_fieldLine 97 = .ok (.iadd, 1) := by decide +kernel
theorem d_Mo_fieldLine_98 : decode b_Mo_fieldLine 98 = .ok (.putfield 104, 3) := by decide +kernel
theorem d_Mo_fieldLine_101 : decode b_Mo_fieldLine 101 = .ok (.goto (-97), 3) := by decide +kernel
theorem d_Mo_fieldLine_104 : decode b_Mo_fieldLine 104 = .ok (.aload_n 0, 1) := by decide +kernel
theorem d_Mo_fieldLine_105 : decode b_Mo_fieldLine 105 = .ok (.invokevirtual 551, 3) := by decide +kernel
theorem d_Mo_fieldLine_108 : decode b_Mo_fieldLine 108 = .ok (.istore_n 3, 1) := by decide +kernel
theorem d_Mo_fieldLine_109 : decode b_Mo_fieldLine 109 = .ok (.aload_n 0, 1) := by decide +kernel
theorem d_Mo_fieldLine_110 : decode b_Mo_fieldLine 110 = .ok (.invokevirtual 563, 3) := by decide +kernel
theorem d_Mo_fieldLine_113 : decode b_Mo_fieldLine 113 = .ok (.istore 4, 2) := by decide +kernel
theorem d_Mo_fieldLine_115 : decode b_Mo_fieldLine 115 = .ok (.aload_n 0, 1) := by decide +kernel
theorem d_Mo_fieldLine_116 : decode b_Mo_fieldLine 116 = .ok (.getfield 92, 3) := by decide +kernel
theorem d_Mo_fieldLine_119 : decode b_Mo_fieldLine 119 = .ok (.aload_n 0, 1) := by decide +kernel
theorem d_Mo_fieldLine_120 : decode b_Mo_fieldLine 120 = .ok (.getfield 104, 3) := by decide +kernel
theorem d_Mo_fieldLine_123 : decode b_Mo_fieldLine 123 = .ok (.baload, 1) := by decide +kernel
theorem d_Mo_fieldLine_124 : decode b_Mo_fieldLine 124 = .ok (.bipush 61, 2) := by decide +kernel
theorem d_Mo_fieldLine_126 : decode b_Mo_fieldLine 126 = .ok (.if_icmp .ne 7, 3) := by decide +kernel
theorem d_Mo_fieldLine_129 : decode b_Mo_fieldLine 129 = .ok (.iconst 1, 1) := by decide +kernel
theorem d_Mo_fieldLine_130 : decode b_Mo_fieldLine 130 = .ok (.goto 4, 3) := by decide +kernel
theorem d_Mo_fieldLine_133 : decode b_Mo_fieldLine 133 = .ok (.iconst 0, 1) := by decide +kernel
theorem d_Mo_fieldLine_134 : decode b_Mo_fieldLine 134 = .ok (.istore 5, 2) := by decide +kernel
theorem d_Mo_fieldLine_136 : decode b_Mo_fieldLine 136 = .ok (.iconst 0, 1) := by decide +kernel
theorem d_Mo_fieldLine_137 : decode b_Mo_fieldLine 137 = .ok (.istore 6, 2) := by decide +kernel
theorem d_Mo_fieldLine_139 : decode b_Mo_fieldLine 139 = .ok (.iload 5, 2) := by decide +kernel
theorem d_Mo_fieldLine_141 : decode b_Mo_fieldLine 141 = .ok (.ifCond .eq 25, 3) := by decide +kernel
theorem d_Mo_fieldLine_144 : decode b_Mo_fieldLine 144 = .ok (.aload_n 0, 1) := by decide +kernel
theorem d_Mo_fieldLine_145 : decode b_Mo_fieldLine 145 = .ok (.dup, 1) := by decide +kernel
theorem d_Mo_fieldLine_146 : decode b_Mo_fieldLine 146 = .ok (.getfield 104, 3) := by decide +kernel
theorem d_Mo_fieldLine_149 : decode b_Mo_fieldLine 149 = .ok (.iconst 1, 1) := by decide +kernel
theorem d_Mo_fieldLine_150 : decode b_Mo_fieldLine 150 = .ok (.iadd, 1) := by decide +kernel
theorem d_Mo_fieldLine_151 : decode b_Mo_fieldLine 151 = .ok (.putfield 104, 3) := by decide +kernel
theorem d_Mo_fieldLine_154 : decode b_Mo_fieldLine 154 = .ok (.aload_n 0, 1) := by decide +kernel
theorem d_Mo_fieldLine_155 : decode b_Mo_fieldLine 155 = .ok (.ldc_w 616, 3) := by decide +kernel
theorem d_Mo_fieldLine_158 : decode b_Mo_fieldLine 158 = .ok (.ldc_w 617, 3) := by decide +kernel
theorem d_Mo_fieldLine_161 : decode b_Mo_fieldLine 161 = .ok (.invokevirtual 618, 3) := by decide +kernel
theorem d_Mo_fieldLine_164 : decode b_Mo_fieldLine 164 = .ok (.istore 6, 2) := by decide +kernel
theorem d_Mo_fieldLine_166 : decode b_Mo_fieldLine 166 = .ok (.aload_n 0, 1) := by decide +kernel
theorem d_Mo_fieldLine_167 : decode b_Mo_fieldLine 167 = .ok (.iconst 0, 1) := by decide +kernel
theorem d_Mo_fieldLine_168 : decode b_Mo_fieldLine 168 = .ok (.invokevirtual 544, 3) := by decide +kernel
theorem d_Mo_fieldLine_171 : decode b_Mo_fieldLine 171 = .ok (.aload_n 0, 1) := by decide +kernel
theorem d_Mo_fieldLine_172 : decode b_Mo_fieldLine 172 = .ok (.getfield 522, 3) := by decide +kernel
theorem d_Mo_fieldLine_175 : decode b_Mo_fieldLine 175 = .ok (.getfield 435, 3) := by decide +kernel
theorem d_Mo_fieldLine_178 : decode b_Mo_fieldLine 178 = .ok (.aload_n 0, 1) := by decide +kernel
theorem d_Mo_fieldLine_179 : decode b_Mo_fieldLine 179 = .ok (.getfield 615, 3) := by decide +kernel
theorem d_Mo_fieldLine_182 : decode b_Mo_fieldLine 182 = .ok (.iaload, 1) := by decide +kernel
theorem d_Mo_fieldLine_183 : decode b_Mo_fieldLine 183 = .ok (.istore 7, 2) := by decide +kernel
theorem d_Mo_fieldLine_185 : decode b_Mo_fieldLine 185 = .ok (.bipush 8, 2) := by decide +kernel
theorem d_Mo_fieldLine_187 : decode b_Mo_fieldLine 187 = .ok (.aload_n 0, 1) := by decide +kernel
theorem d_Mo_fieldLine_188 : decode b_Mo_fieldLine 188 = .ok (.getfield 615, 3) := by decide +kernel
theorem d_Mo_fieldLine_191 : decode b_Mo_fieldLine 191 = .ok (.imul, 1) := by decide +kernel
theorem d_Mo_fieldLine_192 : decode b_Mo_fieldLine 192 = .ok (.istore 8, 2) := by decide +kernel
theorem d_Mo_fieldLine_194 : decode b_Mo_fieldLine 194 = .ok (.iconst 0, 1) := by decide +kernel
theorem d_Mo_fieldLine_195 : decode b_Mo_fieldLine 195 = .ok (.istore 9, 2) := by decide +kernel
theorem d_Mo_fieldLine_197 : decode b_Mo_fieldLine 197 = .ok (.iload 9, 2) := by decide +kernel
theorem d_Mo_fieldLine_199 : decode b_Mo_fieldLine 199 = .ok (.iload 7, 2) := by decide +kernel
theorem d_Mo_fieldLine_201 : decode b_Mo_fieldLine 201 = .ok (.if_icmp .ge 36, 3) := by decide +kernel
theorem d_Mo_fieldLine_204 : decode b_Mo_fieldLine 204 = .ok (.aload_n 0, 1) := by decide +kernel
theorem d_Mo_fieldLine_205 : decode b_Mo_fieldLine 205 = .ok (.iconst 3, 1) := by decide +kernel
theorem d_Mo_fieldLine_206 : decode b_Mo_fieldLine 206 = .ok (.aload_n 0, 1) := by decide +kernel
theorem d_Mo_fieldLine_207 : decode b_Mo_fieldLine 207 = .ok (.getfield 522, 3) := by decide +kernel
theorem d_Mo_fieldLine_210 : decode b_Mo_fieldLine 210 = .ok (.getfield 621, 3) := by decide +kernel
theorem d_Mo_fieldLine_213 : decode b_Mo_fieldLine 213 = .ok (.iload 8, 2) := by decide +kernel
theorem d_Mo_fieldLine_215 : decode b_Mo_fieldLine 215 = .ok (.iload 9, 2) := by decide +kernel
theorem d_Mo_fieldLine_217 : decode b_Mo_fieldLine 217 = .ok (.iadd, 1) := by decide +kernel
theorem d_Mo_fieldLine_218 : decode b_Mo_fieldLine 218 = .ok (.iaload, 1) := by decide +kernel
theorem d_Mo_fieldLine_219 : decode b_Mo_fieldLine 219 = .ok (.iload_n 3, 1) := by decide +kernel
theorem d_Mo_fieldLine_220 : decode b_Mo_fieldLine 220 = .ok (.if_icmp .ne 7, 3) := by decide +kernel
theorem d_Mo_fieldLine_223 : decode b_Mo_fieldLine 223 = .ok (.iconst 1, 1) := by decide +kernel
theorem d_Mo_fieldLine_224 : decode b_Mo_fieldLine 224 = .ok (.goto 4, 3) := by decide +kernel
theorem d_Mo_fieldLine_227 : decode b_Mo_fieldLine 227 = .ok (.iconst 0, 1) := by decide +kernel
theorem d_Mo_fieldLine_228 : decode b_Mo_fieldLine 228 = .ok (.invokevirtual 605, 3) := by decide +kernel
theorem d_Mo_fieldLine_231 : decode b_Mo_fieldLine 231 = .ok (.iinc 9 1, 3) := by decide +kernel
theorem d_Mo_fieldLine_234 : decode b_Mo_fieldLine 234 = .ok (.goto (-37), 3) := by decide +kernel
theorem d_Mo_fieldLine_237 : decode b_Mo_fieldLine 237 = .ok (.aload_n 0, 1) := by decide +kernel
theorem d_Mo_fieldLine_238 : decode b_Mo_fieldLine 238 = .ok (.getfield 522, 3) := by decide +kernel
theorem d_Mo_fieldLine_241 : decode b_Mo_fieldLine 241 = .ok (.getfield 429, 3) := by decide +kernel
theorem d_Mo_fieldLine_244 : decode b_Mo_fieldLine 244 = .ok (.aload_n 0, 1) := by decide +kernel
theorem d_Mo_fieldLine_245 : decode b_Mo_fieldLine 245 = .ok (.getfield 615, 3) := by decide +kernel
theorem d_Mo_fieldLine_248 : decode b_Mo_fieldLine 248 = .ok (.iaload, 1) := by decide +kernel
theorem d_Mo_fieldLine_249 : decode b_Mo_fieldLine 249 = .ok (.iconst 4, 1) := by decide +kernel
theorem d_Mo_fieldLine_250 : decode b_Mo_fieldLine 250 = .ok (.iand, 1) := by decide +kernel
theorem d_Mo_fieldLine_251 : decode b_Mo_fieldLine 251 = .ok (.ifCond .eq 7, 3) := by decide +kernel
theorem d_Mo_fieldLine_254 : decode b_Mo_fieldLine 254 = .ok (.iconst 1, 1) := by decide +kernel
theorem d_Mo_fieldLine_255 : decode b_Mo_fieldLine 255 = .ok (.goto 4, 3) := by decide +kernel
theorem d_Mo_fieldLine_258 : decode b_Mo_fieldLine 258 = .ok (.iconst 0, 1) := by decide +kernel
theorem d_Mo_fieldLine_259 : decode b_Mo_fieldLine 259 = .ok (.istore 9, 2) := by decide +kernel
theorem d_Mo_fieldLine_261 : decode b_Mo_fieldLine 261 = .ok (.aload_n 0, 1) := by decide +kernel
theorem d_Mo_fieldLine_262 : decode b_Mo_fieldLine 262 = .ok (.iconst 5, 1) := by decide +kernel
theorem d_Mo_fieldLine_263 : decode b_Mo_fieldLine 263 = .ok (.iload 9, 2) := by decide +kernel
theorem d_Mo_fieldLine_265 : decode b_Mo_fieldLine 265 = .ok (.ifCond .eq 22, 3) := by decide +kernel
theorem d_Mo_fieldLine_268 : decode b_Mo_fieldLine 268 = .ok (.aload_n 0, 1) := by decide +kernel
theorem d_Mo_fieldLine_269 : decode b_Mo_fieldLine 269 = .ok (.iconst 1, 1) := by decide +kernel
theorem d_Mo_fieldLine_270 : decode b_Mo_fieldLine 270 = .ok (.invokevirtual 609, 3) := by decide +kernel
theorem d_Mo_fieldLine_273 : decode b_Mo_fieldLine 273 = .ok (.ifCond .ne 14, 3) := by decide +kernel
theorem d_Mo_fieldLine_276 : decode b_Mo_fieldLine 276 = .ok (.iload_n 1, 1) := by decide +kernel
theorem d_Mo_fieldLine_277 : decode b_Mo_fieldLine 277 = .ok (.iconst 3, 1) := by decide +kernel
theorem d_Mo_fieldLine_278 : decode b_Mo_fieldLine 278 = .ok (.iand, 1) := by decide +kernel
theorem d_Mo_fieldLine_279 : decode b_Mo_fieldLine 279 = .ok (.iconst 3, 1) := by decide +kernel
theorem d_Mo_fieldLine_280 : decode b_Mo_fieldLine 280 = .ok (.if_icmp .eq 7, 3) := by decide +kernel
theorem d_Mo_fieldLine_283 : decode b_Mo_fieldLine 283 = .ok (.iconst 1, 1) := by decide +kernel
theorem d_Mo_fieldLine_284 : decode b_Mo_fieldLine 284 = .ok (.goto 4, 3) := by decide +kernel
theorem d_Mo_fieldLine_287 : decode b_Mo_fieldLine 287 = .ok (.iconst 0, 1) := by decide +kernel
theorem d_Mo_fieldLine_288 : decode b_Mo_fieldLine 288 = .ok (.invokevirtual 605, 3) := by decide +kernel
theorem d_Mo_fieldLine_291 : decode b_Mo_fieldLine 291 = .ok (.aload_n 0, 1) := by decide +kernel
theorem d_Mo_fieldLine_292 : decode b_Mo_fieldLine 292 = .ok (.bipush 12, 2) := by decide +kernel
theorem d_Mo_fieldLine_294 : decode b_Mo_fieldLine 294 = .ok (.iload 7, 2) := by decide +kernel
theorem d_Mo_fieldLine_296 : decode b_Mo_fieldLine 296 = .ok (.bipush 8, 2) := by decide +kernel
theorem d_Mo_fieldLine_298 : decode b_Mo_fieldLine 298 = .ok (.if_icmp .ne 7, 3) := by decide +kernel
theorem d_Mo_fieldLine_301 : decode b_Mo_fieldLine 301 = .ok (.iconst 1, 1) := by decide +kernel
theorem d_Mo_fieldLine_302 : decode b_Mo_fieldLine 302 = .ok (.goto 4, 3) := by decide +kernel
theorem d_Mo_fieldLine_305 : decode b_Mo_fieldLine 305 = .ok (.iconst 0, 1) := by decide +kernel
theorem d_Mo_fieldLine_306 : decode b_Mo_fieldLine 306 = .ok (.invokevirtual 605, 3) := by decide +kernel
theorem d_Mo_fieldLine_309 : decode b_Mo_fieldLine 309 = .ok (.aload_n 0, 1) := by decide +kernel
theorem d_Mo_fieldLine_310 : decode b_Mo_fieldLine 310 = .ok (.bipush 14, 2) := by decide +kernel
theorem d_Mo_fieldLine_312 : decode b_Mo_fieldLine 312 = .ok (.iload 5, 2) := by decide +kernel
theorem d_Mo_fieldLine_314 : decode b_Mo_fieldLine 314 = .ok (.ifCond .eq 19, 3) := by decide +kernel
theorem d_Mo_fieldLine_317 : decode b_Mo_fieldLine 317 = .ok (.iload_n 1, 1) := by decide +kernel
theorem d_Mo_fieldLine_318 : decode b_Mo_fieldLine 318 = .ok (.iconst 1, 1) := by decide +kernel
theorem d_Mo_fieldLine_319 : decode b_Mo_fieldLine 319 = .ok (.iand, 1) := by decide +kernel
theorem d_Mo_fieldLine_320 : decode b_Mo_fieldLine 320 = .ok (.ifCond .eq 9, 3) := by decide +kernel
theorem d_Mo_fieldLine_323 : decode b_Mo_fieldLine 323 = .ok (.iload 4, 2) := by decide +kernel
theorem d_Mo_fieldLine_325 : decode b_Mo_fieldLine 325 = .ok (.iconst 1, 1) := by decide +kernel
theorem d_Mo_fieldLine_326 : decode b_Mo_fieldLine 326 = .ok (.if_icmp .eq 7, 3) := by decide +kernel
theorem d_Mo_fieldLine_329 : decode b_Mo_fieldLine 329 = .ok (.iconst 1, 1) := by decide +kernel
theorem d_Mo_fieldLine_330 : decode b_Mo_fieldLine 330 = .ok (.goto 4, 3) := by decide +kernel
theorem d_Mo_fieldLine_333 : decode b_Mo_fieldLine 333 = .ok (.iconst 0, 1) := by decide +kernel
theorem d_Mo_fieldLine_334 : decode b_Mo_fieldLine 334 = .ok (.invokevirtual 605, 3) := by decide +kernel
theorem d_Mo_fieldLine_337 : decode b_Mo_fieldLine 337 = .ok (.aload_n 0, 1) := by decide +kernel
theorem d_Mo_fieldLine_338 : decode b_Mo_fieldLine 338 = .ok (.getfield 532, 3) := by decide +kernel
theorem d_Mo_fieldLine_341 : decode b_Mo_fieldLine 341 = .ok (.bipush 99, 2) := by decide +kernel
theorem d_Mo_fieldLine_343 : decode b_Mo_fieldLine 343 = .ok (.if_icmp .ge 4, 3) := by decide +kernel
theorem d_Mo_fieldLine_346 : decode b_Mo_fieldLine 346 = .ok (.return_, 1) := by decide +kernel
theorem d_Mo_fieldLine_347 : decode b_Mo_fieldLine 347 = .ok (.aload_n 0, 1) := by decide +kernel
theorem d_Mo_fieldLine_348 : decode b_Mo_fieldLine 348 = .ok (.getfield 522, 3) := by decide +kernel
theorem d_Mo_fieldLine_351 : decode b_Mo_fieldLine 351 = .ok (.getfield 621, 3) := by decide +kernel
theorem d_Mo_fieldLine_354 : decode b_Mo_fieldLine 354 = .ok (.iload 8, 2) := by decide +kernel
theorem d_Mo_fieldLine_356 : decode b_Mo_fieldLine 356 = .ok (.iload 7, 2) := by decide +kernel
theorem d_Mo_fieldLine_358 : decode b_Mo_fieldLine 358 = .ok (.iadd, 1) := by decide +kernel
theorem d_Mo_fieldLine_359 : decode b_Mo_fieldLine 359 = .ok (.iload_n 3, 1) := by decide +kernel
theorem d_Mo_fieldLine_360 : decode b_Mo_fieldLine 360 = .ok (.iastore, 1) := by decide +kernel
theorem d_Mo_fieldLine_361 : decode b_Mo_fieldLine 361 = .ok (.aload_n 0, 1) := by decide +kernel
theorem d_Mo_fieldLine_362 : decode b_Mo_fieldLine 362 = .ok (.getfield 522, 3) := by decide +kernel
theorem d_Mo_fieldLine_365 : decode b_Mo_fieldLine 365 = .ok (.getfield 624, 3) := by decide +kernel
theorem d_Mo_fieldLine_368 : decode b_Mo_fieldLine 368 = .ok (.iload 8, 2) := by decide +kernel
theorem d_Mo_fieldLine_370 : decode b_Mo_fieldLine 370 = .ok (.iload 7, 2) := by decide +kernel
theorem d_Mo_fieldLine_372 : decode b_Mo_fieldLine 372 = .ok (.iadd, 1) := by decide +kernel
theorem d_Mo_fieldLine_373 : decode b_Mo_fieldLine 373 = .ok (.iload 4, 2) := by decide +kernel
theorem d_Mo_fieldLine_375 : decode b_Mo_fieldLine 375 = .ok (.iastore, 1) := by decide +kernel
theorem d_Mo_fieldLine_376 : decode b_Mo_fieldLine 376 = .ok (.aload_n 0, 1) := by decide +kernel
theorem d_Mo_fieldLine_377 : decode b_Mo_fieldLine 377 = .ok (.getfield 522, 3) := by decide +kernel
theorem d_Mo_fieldLine_380 : decode b_Mo_fieldLine 380 = .ok (.getfield 627, 3) := by decide +kernel
theorem d_Mo_fieldLine_383 : decode b_Mo_fieldLine 383 = .ok (.iload 8, 2) := by decide +kernel
theorem d_Mo_fieldLine_385 : decode b_Mo_fieldLine 385 = .ok (.iload 7, 2) := by decide +kernel
theorem d_Mo_fieldLine_387 : decode b_Mo_fieldLine 387 = .ok (.iadd, 1) := by decide +kernel
theorem d_Mo_fieldLine_388 : decode b_Mo_fieldLine 388 = .ok (.iload_n 1, 1) := by decide +kernel
theorem d_Mo_fieldLine_389 : decode b_Mo_fieldLine 389 = .ok (.iastore, 1) := by decide +kernel
theorem d_Mo_fieldLine_390 : decode b_Mo_fieldLine 390 = .ok (.aload_n 0, 1) := by decide +kernel
theorem d_Mo_fieldLine_391 : decode b_Mo_fieldLine 391 = .ok (.getfield 522, 3) := by decide +kernel
theorem d_Mo_fieldLine_394 : decode b_Mo_fieldLine 394 = .ok (.getfield 630, 3) := by decide +kernel
theorem d_Mo_fieldLine_397 : decode b_Mo_fieldLine 397 = .ok (.iload 8, 2) := by decide +kernel
theorem d_Mo_fieldLine_399 : decode b_Mo_fieldLine 399 = .ok (.iload 7, 2) := by decide +kernel
theorem d_Mo_fieldLine_401 : decode b_Mo_fieldLine 401 = .ok (.iadd, 1) := by decide +kernel
theorem d_Mo_fieldLine_402 : decode b_Mo_fieldLine 402 = .ok (.iload 6, 2) := by decide +kernel
theorem d_Mo_fieldLine_404 : decode b_Mo_fieldLine 404 = .ok (.iastore, 1) := by decide +kernel
theorem d_Mo_fieldLine_405 : decode b_Mo_fieldLine 405 = .ok (.aload_n 0, 1) := by decide +kernel
theorem d_Mo_fieldLine_406 : decode b_Mo_fieldLine 406 = .ok (.getfield 522, 3) := by decide +kernel
theorem d_Mo_fieldLine_409 : decode b_Mo_fieldLine 409 = .ok (.getfield 633, 3) := by decide +kernel
theorem d_Mo_fieldLine_412 : decode b_Mo_fieldLine 412 = .ok (.iload 8, 2) := by decide +kernel
theorem d_Mo_fieldLine_414 : decode b_Mo_fieldLine 414 = .ok (.iload 7, 2) := by decide +kernel
theorem d_Mo_fieldLine_416 : decode b_Mo_fieldLine 416 = .ok (.iadd, 1) := by decide +kernel
theorem d_Mo_fieldLine_417 : decode b_Mo_fieldLine 417 = .ok (.iload 5, 2) := by decide +kernel
theorem d_Mo_fieldLine_419 : decode b_Mo_fieldLine 419 = .ok (.bastore, 1) := by decide +kernel
theorem d_Mo_fieldLine_420 : decode b_Mo_fieldLine 420 = .ok (.aload_n 0, 1) := by decide +kernel
theorem d_Mo_fieldLine_421 : decode b_Mo_fieldLine 421 = .ok (.getfield 522, 3) := by decide +kernel
theorem d_Mo_fieldLine_424 : decode b_Mo_fieldLine 424 = .ok (.getfield 636, 3) := by decide +kernel
theorem d_Mo_fieldLine_427 : decode b_Mo_fieldLine 427 = .ok (.iload 8, 2) := by decide +kernel
theorem d_Mo_fieldLine_429 : decode b_Mo_fieldLine 429 = .ok (.iload 7, 2) := by decide +kernel
theorem d_Mo_fieldLine_431 : decode b_Mo_fieldLine 431 = .ok (.iadd, 1) := by decide +kernel
theorem d_Mo_fieldLine_432 : decode b_Mo_fieldLine 432 = .ok (.iconst 0, 1) := by decide +kernel
theorem d_Mo_fieldLine_433 : decode b_Mo_fieldLine 433 = .ok (.iastore, 1) := by decide +kernel
theorem d_Mo_fieldLine_434 : decode b_Mo_fieldLine 434 = .ok (.aload_n 0, 1) := by decide +kernel
theorem d_Mo_fieldLine_435 : decode b_Mo_fieldLine 435 = .ok (.getfield 522, 3) := by decide +kernel
theorem d_Mo_fieldLine_438 : decode b_Mo_fieldLine 438 = .ok (.getfield 435, 3) := by decide +kernel
theorem d_Mo_fieldLine_441 : decode b_Mo_fieldLine 441 = .ok (.aload_n 0, 1) := by decide +kernel
theorem d_Mo_fieldLine_442 : decode b_Mo_fieldLine 442 = .ok (.getfield 615, 3) := by decide +kernel
theorem d_Mo_fieldLine_445 : decode b_Mo_fieldLine 445 = .ok (.dup2, 1) := by decide +kernel
theorem d_Mo_fieldLine_446 : decode b_Mo_fieldLine 446 = .ok (.iaload, 1) := by decide +kernel
theorem d_Mo_fieldLine_447 : decode b_Mo_fieldLine 447 = .ok (.iconst 1, 1) := by decide +kernel
theorem d_Mo_fieldLine_448 : decode b_Mo_fieldLine 448 = .ok (.iadd, 1) := by decide +kernel
theorem d_Mo_fieldLine_449 : decode b_Mo_fieldLine 449 = .ok (.iastore, 1) := by decide +kernel
theorem d_Mo_fieldLine_450 : decode b_Mo_fieldLine 450 = .ok (.return_, 1) := by decide +kernel
abbrev ra_Mo_fieldLine (mc ms : Nat) : Room := { frames := 5, cells := mc, slots := ms, locals := 102 }
def wja_Mo_fieldLine_334 (mc ms : Nat) (Post : Ly → St → Nat → Nat → Prop) (PX : Ly → St → Nat → Nat → Prop) (a0 : Nat) (y_j334 : Ly) (s_j334 : St) (d_j334 e_j334 : Nat) (x1j334 : Int32) (x3j334 : Int32) (x4j334 : Int32) (x5j334 : Int32) (x6j334 : Int32) (x7j334 : Int32) (x8j334 : Int32) (z1j334 : Int32) (z2j334 : Int32) : Prop := (d_j334 ≤ mc ∧ e_j334 ≤ ms) ∧ wu_Mo_asks y_j334 (fun (s_39 : St) => ((99 ≤ (sV s_39 a0 51) → ∃ b_40 : Nat, sO s_39 a0 45 = some b_40 ∧ cl b_40 = 13 ∧ xS y_j334 s_39 b_40 12 (x8j334 + x7j334) x3j334 (fun s_43 : St => ∃ b_44 : Nat, sO s_43 a0 45 = some b_44 ∧ cl b_44 = 13 ∧ xS y_j334 s_43 b_44 13 (x8j334 + x7j334) x4j334 (fun s_47 : St => ∃ b_48 : Nat, sO s_47 a0 45 = some b_48 ∧ cl b_48 = 13 ∧ xS y_j334 s_47 b_48 14 (x8j334 + x7j334) x1j334 (fun s_51 : St => ∃ b_52 : Nat, sO s_51 a0 45 = some b_52 ∧ cl b_52 = 13 ∧ xS y_j334 s_51 b_52 15 (x8j334 + x7j334) x6j334 (fun s_55 : St => ∃ b_56 : Nat, sO s_55 a0 45 = some b_56 ∧ cl b_56 = 13 ∧ xS y_j334 s_55 b_56 16 (x8j334 + x7j334) (vp_nar .boolean x5j334) (fun s_59 : St => ∃ b_60 : Nat, sO s_59 a0 45 = some b_60 ∧ cl b_60 = 13 ∧ xS y_j334 s_59 b_60 17 (x8j334 + x7j334) 0 (fun s_63 : St => ∃ b_64 : Nat, sO s_63 a0 45 = some b_64 ∧ cl b_64 = 13 ∧ xA y_j334 s_63 b_64 8 (sV s_63 a0 53) (fun x_67 : Int32 => xS y_j334 s_63 b_64 8 (sV s_63 a0 53) (x_67 + 1) (fun s_68 : St => Post y_j334 s_68 d_j334 e_j334))))))))) ∧ (¬ (99 ≤ (sV s_39 a0 51)) → Post y_j334 s_39 d_j334 e_j334))) s_j334 a0 z1j334 z2j334
def wja_Mo_fieldLine_333 (mc ms : Nat) (Post : Ly → St → Nat → Nat → Prop) (PX : Ly → St → Nat → Nat → Prop) (a0 : Nat) (y_j333 : Ly) (s_j333 : St) (d_j333 e_j333 : Nat) (x1j333 : Int32) (x3j333 : Int32) (x4j333 : Int32) (x5j333 : Int32) (x6j333 : Int32) (x7j333 : Int32) (x8j333 : Int32) (z1j333 : Int32) : Prop := (d_j333 ≤ mc ∧ e_j333 ≤ ms) ∧ wja_Mo_fieldLine_334 mc ms Post PX a0 y_j333 s_j333 d_j333 e_j333 x1j333 x3j333 x4j333 x5j333 x6j333 x7j333 x8j333 z1j333 0
def wja_Mo_fieldLine_329 (mc ms : Nat) (Post : Ly → St → Nat → Nat → Prop) (PX : Ly → St → Nat → Nat → Prop) (a0 : Nat) (y_j329 : Ly) (s_j329 : St) (d_j329 e_j329 : Nat) (x1j329 : Int32) (x3j329 : Int32) (x4j329 : Int32) (x5j329 : Int32) (x6j329 : Int32) (x7j329 : Int32) (x8j329 : Int32) (z1j329 : Int32) : Prop := (d_j329 ≤ mc ∧ e_j329 ≤ ms) ∧ wja_Mo_fieldLine_334 mc ms Post PX a0 y_j329 s_j329 d_j329 e_j329 x1j329 x3j329 x4j329 x5j329 x6j329 x7j329 x8j329 z1j329 1
def wja_Mo_fieldLine_306 (mc ms : Nat) (Post : Ly → St → Nat → Nat → Prop) (PX : Ly → St → Nat → Nat → Prop) (a0 : Nat) (y_j306 : Ly) (s_j306 : St) (d_j306 e_j306 : Nat) (x1j306 : Int32) (x3j306 : Int32) (x4j306 : Int32) (x5j306 : Int32) (x6j306 : Int32) (x7j306 : Int32) (x8j306 : Int32) (z1j306 : Int32) (z2j306 : Int32) : Prop := (d_j306 ≤ mc ∧ e_j306 ≤ ms) ∧ wu_Mo_asks y_j306 (fun (s_37 : St) => ((x5j306 = 0 → wja_Mo_fieldLine_333 mc ms Post PX a0 y_j306 s_37 d_j306 e_j306 x1j306 x3j306 x4j306 x5j306 x6j306 x7j306 x8j306 14) ∧ (¬ (x5j306 = 0) → (((x1j306 &&& 1) = 0 → wja_Mo_fieldLine_329 mc ms Post PX a0 y_j306 s_37 d_j306 e_j306 x1j306 x3j306 x4j306 x5j306 x6j306 x7j306 x8j306 14) ∧ (¬ ((x1j306 &&& 1) = 0) → ((x4j306 = 1 → wja_Mo_fieldLine_333 mc ms Post PX a0 y_j306 s_37 d_j306 e_j306 x1j306 x3j306 x4j306 x5j306 x6j306 x7j306 x8j306 14) ∧ (¬ (x4j306 = 1) → wja_Mo_fieldLine_329 mc ms Post PX a0 y_j306 s_37 d_j306 e_j306 x1j306 x3j306 x4j306 x5j306 x6j306 x7j306 x8j306 14))))))) s_j306 a0 z1j306 z2j306
def wja_Mo_fieldLine_288 (mc ms : Nat) (Post : Ly → St → Nat → Nat → Prop) (PX : Ly → St → Nat → Nat → Prop) (a0 : Nat) (y_j288 : Ly) (s_j288 : St) (d_j288 e_j288 : Nat) (x1j288 : Int32) (x3j288 : Int32) (x4j288 : Int32) (x5j288 : Int32) (x6j288 : Int32) (x7j288 : Int32) (x8j288 : Int32) (z1j288 : Int32) (z2j288 : Int32) : Prop := (d_j288 ≤ mc ∧ e_j288 ≤ ms) ∧ wu_Mo_asks y_j288 (fun (s_35 : St) => ((¬ x7j288 = 8 → wja_Mo_fieldLine_306 mc ms Post PX a0 y_j288 s_35 d_j288 e_j288 x1j288 x3j288 x4j288 x5j288 x6j288 x7j288 x8j288 12 0) ∧ (x7j288 = 8 → wja_Mo_fieldLine_306 mc ms Post PX a0 y_j288 s_35 d_j288 e_j288 x1j288 x3j288 x4j288 x5j288 x6j288 x7j288 x8j288 12 1))) s_j288 a0 z1j288 z2j288
def wja_Mo_fieldLine_287 (mc ms : Nat) (Post : Ly → St → Nat → Nat → Prop) (PX : Ly → St → Nat → Nat → Prop) (a0 : Nat) (y_j287 : Ly) (s_j287 : St) (d_j287 e_j287 : Nat) (x1j287 : Int32) (x3j287 : Int32) (x4j287 : Int32) (x5j287 : Int32) (x6j287 : Int32) (x7j287 : Int32) (x8j287 : Int32) (z1j287 : Int32) : Prop := (d_j287 ≤ mc ∧ e_j287 ≤ ms) ∧ wja_Mo_fieldLine_288 mc ms Post PX a0 y_j287 s_j287 d_j287 e_j287 x1j287 x3j287 x4j287 x5j287 x6j287 x7j287 x8j287 z1j287 0
def wja_Mo_fieldLine_259 (mc ms : Nat) (Post : Ly → St → Nat → Nat → Prop) (PX : Ly → St → Nat → Nat → Prop) (a0 : Nat) (y_j259 : Ly) (s_j259 : St) (d_j259 e_j259 : Nat) (x1j259 : Int32) (x3j259 : Int32) (x4j259 : Int32) (x5j259 : Int32) (x6j259 : Int32) (x7j259 : Int32) (x8j259 : Int32) (z0j259 : Int32) : Prop := (d_j259 ≤ mc ∧ e_j259 ≤ ms) ∧ ((z0j259 = 0 → wja_Mo_fieldLine_287 mc ms Post PX a0 y_j259 s_j259 d_j259 e_j259 x1j259 x3j259 x4j259 x5j259 x6j259 x7j259 x8j259 5) ∧ (¬ (z0j259 = 0) → wu_Mo_isOff y_j259 (fun (s_70 : St) (r_69 : Int32) => ((¬ r_69 = 0 → wja_Mo_fieldLine_287 mc ms Post PX a0 y_j259 s_70 d_j259 e_j259 x1j259 x3j259 x4j259 x5j259 x6j259 x7j259 x8j259 5) ∧ (r_69 = 0 → (((x1j259 &&& 3) = 3 → wja_Mo_fieldLine_287 mc ms Post PX a0 y_j259 s_70 d_j259 e_j259 x1j259 x3j259 x4j259 x5j259 x6j259 x7j259 x8j259 5) ∧ (¬ ((x1j259 &&& 3) = 3) → wja_Mo_fieldLine_288 mc ms Post PX a0 y_j259 s_70 d_j259 e_j259 x1j259 x3j259 x4j259 x5j259 x6j259 x7j259 x8j259 5 1))))) s_j259 a0 1))
def wja_Mo_fieldLine_228 (mc ms : Nat) (Post : Ly → St → Nat → Nat → Prop) (PX : Ly → St → Nat → Nat → Prop) (K_197 : Ly → St → Nat → Nat → Int32 → Int32 → Int32 → Int32 → Int32 → Int32 → Int32 → Int32 → Prop) (a0 : Nat) (y_j228 : Ly) (s_j228 : St) (d_j228 e_j228 : Nat) (x1j228 : Int32) (x3j228 : Int32) (x4j228 : Int32) (x5j228 : Int32) (x6j228 : Int32) (x7j228 : Int32) (x8j228 : Int32) (x9j228 : Int32) (z1j228 : Int32) (z2j228 : Int32) : Prop := (d_j228 ≤ mc ∧ e_j228 ≤ ms) ∧ wu_Mo_asks y_j228 (fun (s_76 : St) => K_197 y_j228 s_76 d_j228 e_j228 x1j228 x3j228 x4j228 x5j228 x6j228 x7j228 x8j228 (x9j228 + 1)) s_j228 a0 z1j228 z2j228
def wba_Mo_fieldLine_197 (mc ms : Nat) (Post : Ly → St → Nat → Nat → Prop) (PX : Ly → St → Nat → Nat → Prop) (K_197 : Ly → St → Nat → Nat → Int32 → Int32 → Int32 → Int32 → Int32 → Int32 → Int32 → Int32 → Prop) (a0 : Nat) (y_h197 : Ly) (s_h197 : St) (d_h197 e_h197 : Nat) (x1h197 : Int32) (x3h197 : Int32) (x4h197 : Int32) (x5h197 : Int32) (x6h197 : Int32) (x7h197 : Int32) (x8h197 : Int32) (x9h197 : Int32) : Prop := (d_h197 ≤ mc ∧ e_h197 ≤ ms) ∧ ((x7h197 ≤ x9h197 → ∃ b_30 : Nat, sO s_h197 a0 45 = some b_30 ∧ cl b_30 = 13 ∧ xA y_h197 s_h197 b_30 5 (sV s_h197 a0 53) (fun x_33 : Int32 => (((x_33 &&& 4) = 0 → wja_Mo_fieldLine_259 mc ms Post PX a0 y_h197 s_h197 d_h197 e_h197 x1h197 x3h197 x4h197 x5h197 x6h197 x7h197 x8h197 0) ∧ (¬ ((x_33 &&& 4) = 0) → wja_Mo_fieldLine_259 mc ms Post PX a0 y_h197 s_h197 d_h197 e_h197 x1h197 x3h197 x4h197 x5h197 x6h197 x7h197 x8h197 1)))) ∧ (¬ (x7h197 ≤ x9h197) → ∃ b_71 : Nat, sO s_h197 a0 45 = some b_71 ∧ cl b_71 = 13 ∧ xA y_h197 s_h197 b_71 12 (x8h197 + x9h197) (fun x_74 : Int32 => ((¬ x_74 = x3h197 → wja_Mo_fieldLine_228 mc ms Post PX K_197 a0 y_h197 s_h197 d_h197 e_h197 x1h197 x3h197 x4h197 x5h197 x6h197 x7h197 x8h197 x9h197 3 0) ∧ (x_74 = x3h197 → wja_Mo_fieldLine_228 mc ms Post PX K_197 a0 y_h197 s_h197 d_h197 e_h197 x1h197 x3h197 x4h197 x5h197 x6h197 x7h197 x8h197 x9h197 3 1)))))
def wla_Mo_fieldLine_197 (mc ms : Nat) (Post : Ly → St → Nat → Nat → Prop) (PX : Ly → St → Nat → Nat → Prop) (a0 : Nat) (y_h197 : Ly) (s_h197 : St) (d_h197 e_h197 : Nat) (x1h197 : Int32) (x3h197 : Int32) (x4h197 : Int32) (x5h197 : Int32) (x6h197 : Int32) (x7h197 : Int32) (x8h197 : Int32) (x9h197 : Int32) : Prop := ∃ (I : Ly → St → Nat → Nat → Int32 → Int32 → Int32 → Int32 → Int32 → Int32 → Int32 → Int32 → Prop) (μ : Ly → St → Nat → Nat → Int32 → Int32 → Int32 → Int32 → Int32 → Int32 → Int32 → Int32 → Nat), I y_h197 s_h197 d_h197 e_h197 x1h197 x3h197 x4h197 x5h197 x6h197 x7h197 x8h197 x9h197 ∧ ∀ (u1 : Ly) (u2 : St) (u3 u4 : Nat) (t0 : Int32) (t1 : Int32) (t2 : Int32) (t3 : Int32) (t4 : Int32) (t5 : Int32) (t6 : Int32) (t7 : Int32), I u1 u2 u3 u4 t0 t1 t2 t3 t4 t5 t6 t7 → wba_Mo_fieldLine_197 mc ms Post PX (fun z1 z2 z3 z4 t0q t1q t2q t3q t4q t5q t6q t7q => I z1 z2 z3 z4 t0q t1q t2q t3q t4q t5q t6q t7q ∧ μ z1 z2 z3 z4 t0q t1q t2q t3q t4q t5q t6q t7q < μ u1 u2 u3 u4 t0 t1 t2 t3 t4 t5 t6 t7) a0 u1 u2 u3 u4 t0 t1 t2 t3 t4 t5 t6 t7
def wja_Mo_fieldLine_166 (mc ms : Nat) (Post : Ly → St → Nat → Nat → Prop) (PX : Ly → St → Nat → Nat → Prop) (a0 : Nat) (y_j166 : Ly) (s_j166 : St) (d_j166 e_j166 : Nat) (x1j166 : Int32) (x3j166 : Int32) (x4j166 : Int32) (x5j166 : Int32) (x6j166 : Int32) : Prop := (d_j166 ≤ mc ∧ e_j166 ≤ ms) ∧ ∃ mc_23 ms_24 : Nat, (d_j166 + mc_23 ≤ mc ∧ e_j166 + ms_24 ≤ ms) ∧ wx_Mo_need mc_23 ms_24 y_j166 (fun (y_20 : Ly) (s_19 : St) (d_21 e_22 : Nat) => (d_j166 + d_21 ≤ mc ∧ e_j166 + e_22 ≤ ms) ∧ ∃ b_26 : Nat, sO s_19 a0 45 = some b_26 ∧ cl b_26 = 13 ∧ xA y_20 s_19 b_26 8 (sV s_19 a0 53) (fun x_29 : Int32 => wla_Mo_fieldLine_197 mc ms Post PX a0 y_20 s_19 (d_j166 + d_21) (e_j166 + e_22) x1j166 x3j166 x4j166 x5j166 x6j166 x_29 (8 * (sV s_19 a0 53)) 0)) (fun (y_20 : Ly) (s_19 : St) (d_21 e_22 : Nat) => ((d_j166 + d_21 ≤ mc ∧ e_j166 + e_22 ≤ ms) ∧ PX y_20 s_19 (d_j166 + d_21) (e_j166 + e_22))) s_j166 a0 0
def wja_Mo_fieldLine_134 (mc ms : Nat) (Post : Ly → St → Nat → Nat → Prop) (PX : Ly → St → Nat → Nat → Prop) (a0 : Nat) (y_j134 : Ly) (s_j134 : St) (d_j134 e_j134 : Nat) (x1j134 : Int32) (x3j134 : Int32) (x4j134 : Int32) (z0j134 : Int32) : Prop := (d_j134 ≤ mc ∧ e_j134 ≤ ms) ∧ ((z0j134 = 0 → wja_Mo_fieldLine_166 mc ms Post PX a0 y_j134 s_j134 d_j134 e_j134 x1j134 x3j134 x4j134 z0j134 0) ∧ (¬ (z0j134 = 0) → xP (uV s_j134 a0 43 ((sV s_j134 a0 43) + 1)) (fun s_77 : St => ∃ mc_83 ms_84 : Nat, (d_j134 + mc_83 ≤ mc ∧ e_j134 + ms_84 ≤ ms) ∧ wx_Mo_numberIn mc_83 ms_84 y_j134 (fun (y_80 : Ly) (s_79 : St) (r_78 : Int32) (d_81 e_82 : Nat) => (d_j134 + d_81 ≤ mc ∧ e_j134 + e_82 ≤ ms) ∧ wja_Mo_fieldLine_166 mc ms Post PX a0 y_80 s_79 (d_j134 + d_81) (e_j134 + e_82) x1j134 x3j134 x4j134 z0j134 r_78) (fun (y_80 : Ly) (s_79 : St) (d_81 e_82 : Nat) => ((d_j134 + d_81 ≤ mc ∧ e_j134 + e_82 ≤ ms) ∧ PX y_80 s_79 (d_j134 + d_81) (e_j134 + e_82))) s_77 a0 (-2147483648) 2147483647)))
def wja_Mo_fieldLine_97 (mc ms : Nat) (Post : Ly → St → Nat → Nat → Prop) (PX : Ly → St → Nat → Nat → Prop) (K_4 : Ly → St → Nat → Nat → Int32 → Int32 → Prop) (a0 : Nat) (y_j97 : Ly) (s_j97 : St) (d_j97 e_j97 : Nat) (x1j97 : Int32) (x2j97 : Int32) (z1j97 : Int32) (z2j97 : Int32) : Prop := (d_j97 ≤ mc ∧ e_j97 ≤ ms) ∧ xP (uV s_j97 a0 43 (z1j97 + z2j97)) (fun s_88 : St => K_4 y_j97 s_88 d_j97 e_j97 x1j97 x2j97)
def wja_Mo_fieldLine_81 (mc ms : Nat) (Post : Ly → St → Nat → Nat → Prop) (PX : Ly → St → Nat → Nat → Prop) (K_4 : Ly → St → Nat → Nat → Int32 → Int32 → Prop) (a0 : Nat) (y_j81 : Ly) (s_j81 : St) (d_j81 e_j81 : Nat) (x2j81 : Int32) (z0j81 : Int32) (z1j81 : Int32) : Prop := (d_j81 ≤ mc ∧ e_j81 ≤ ms) ∧ ((x2j81 = 0 → wja_Mo_fieldLine_97 mc ms Post PX K_4 a0 y_j81 s_j81 d_j81 e_j81 (z0j81 ||| z1j81) x2j81 (sV s_j81 a0 43) 0) ∧ (¬ (x2j81 = 0) → wja_Mo_fieldLine_97 mc ms Post PX K_4 a0 y_j81 s_j81 d_j81 e_j81 (z0j81 ||| z1j81) x2j81 (sV s_j81 a0 43) 1))
def wja_Mo_fieldLine_70 (mc ms : Nat) (Post : Ly → St → Nat → Nat → Prop) (PX : Ly → St → Nat → Nat → Prop) (K_4 : Ly → St → Nat → Nat → Int32 → Int32 → Prop) (a0 : Nat) (y_j70 : Ly) (s_j70 : St) (d_j70 e_j70 : Nat) (x1j70 : Int32) (x3j70 : Int32) (z0j70 : Int32) : Prop := (d_j70 ≤ mc ∧ e_j70 ≤ ms) ∧ ((z0j70 = 0 → wja_Mo_fieldLine_81 mc ms Post PX K_4 a0 y_j70 s_j70 d_j70 e_j70 z0j70 x1j70 0) ∧ (¬ (z0j70 = 0) → wja_Mo_fieldLine_81 mc ms Post PX K_4 a0 y_j70 s_j70 d_j70 e_j70 z0j70 x1j70 x3j70))
def wja_Mo_fieldLine_69 (mc ms : Nat) (Post : Ly → St → Nat → Nat → Prop) (PX : Ly → St → Nat → Nat → Prop) (K_4 : Ly → St → Nat → Nat → Int32 → Int32 → Prop) (a0 : Nat) (y_j69 : Ly) (s_j69 : St) (d_j69 e_j69 : Nat) (x1j69 : Int32) (x3j69 : Int32) : Prop := (d_j69 ≤ mc ∧ e_j69 ≤ ms) ∧ wja_Mo_fieldLine_70 mc ms Post PX K_4 a0 y_j69 s_j69 d_j69 e_j69 x1j69 x3j69 0
def wja_Mo_fieldLine_54 (mc ms : Nat) (Post : Ly → St → Nat → Nat → Prop) (PX : Ly → St → Nat → Nat → Prop) (K_4 : Ly → St → Nat → Nat → Int32 → Int32 → Prop) (a0 : Nat) (y_j54 : Ly) (s_j54 : St) (d_j54 e_j54 : Nat) (x1j54 : Int32) (z0j54 : Int32) : Prop := (d_j54 ≤ mc ∧ e_j54 ≤ ms) ∧ ((z0j54 = 0 → wja_Mo_fieldLine_69 mc ms Post PX K_4 a0 y_j54 s_j54 d_j54 e_j54 x1j54 z0j54) ∧ (¬ (z0j54 = 0) → ((¬ (x1j54 &&& z0j54) = 0 → wja_Mo_fieldLine_69 mc ms Post PX K_4 a0 y_j54 s_j54 d_j54 e_j54 x1j54 z0j54) ∧ ((x1j54 &&& z0j54) = 0 → wja_Mo_fieldLine_70 mc ms Post PX K_4 a0 y_j54 s_j54 d_j54 e_j54 x1j54 z0j54 1))))
def wba_Mo_fieldLine_4 (mc ms : Nat) (Post : Ly → St → Nat → Nat → Prop) (PX : Ly → St → Nat → Nat → Prop) (K_4 : Ly → St → Nat → Nat → Int32 → Int32 → Prop) (a0 : Nat) (y_h4 : Ly) (s_h4 : St) (d_h4 e_h4 : Nat) (x1h4 : Int32) (x2h4 : Int32) : Prop := (d_h4 ≤ mc ∧ e_h4 ≤ ms) ∧ ((x2h4 = 0 → ∃ mc_6 ms_7 : Nat, (d_h4 + mc_6 ≤ mc ∧ e_h4 + ms_7 ≤ ms) ∧ wx_Mo_plainName mc_6 ms_7 y_h4 (fun (y_3 : Ly) (s_2 : St) (r_1 : Int32) (d_4 e_5 : Nat) => (d_h4 + d_4 ≤ mc ∧ e_h4 + e_5 ≤ ms) ∧ ∃ mc_14 ms_15 : Nat, (d_h4 + d_4 + mc_14 ≤ mc ∧ e_h4 + e_5 + ms_15 ≤ ms) ∧ wx_Mo_type mc_14 ms_15 y_3 (fun (y_11 : Ly) (s_10 : St) (r_9 : Int32) (d_12 e_13 : Nat) => (d_h4 + d_4 + d_12 ≤ mc ∧ e_h4 + e_5 + e_13 ≤ ms) ∧ xA y_11 s_10 a0 39 (sV s_10 a0 43) (fun x_17 : Int32 => ((¬ x_17 = 61 → wja_Mo_fieldLine_134 mc ms Post PX a0 y_11 s_10 (d_h4 + d_4 + d_12) (e_h4 + e_5 + e_13) x1h4 r_1 r_9 0) ∧ (x_17 = 61 → wja_Mo_fieldLine_134 mc ms Post PX a0 y_11 s_10 (d_h4 + d_4 + d_12) (e_h4 + e_5 + e_13) x1h4 r_1 r_9 1)))) (fun (y_11 : Ly) (s_10 : St) (d_12 e_13 : Nat) => ((d_h4 + d_4 + d_12 ≤ mc ∧ e_h4 + e_5 + e_13 ≤ ms) ∧ PX y_11 s_10 (d_h4 + d_4 + d_12) (e_h4 + e_5 + e_13))) s_2 a0) (fun (y_3 : Ly) (s_2 : St) (d_4 e_5 : Nat) => ((d_h4 + d_4 ≤ mc ∧ e_h4 + e_5 ≤ ms) ∧ PX y_3 s_2 (d_h4 + d_4) (e_h4 + e_5))) s_h4 a0) ∧ (¬ (x2h4 = 0) → wu_Mo_isWord y_h4 (fun (s_87 : St) (r_86 : Int32) => ((r_86 = 0 → wu_Mo_isWord y_h4 (fun (s_90 : St) (r_89 : Int32) => ((r_89 = 0 → wu_Mo_isWord y_h4 (fun (s_92 : St) (r_91 : Int32) => ((r_91 = 0 → wja_Mo_fieldLine_54 mc ms Post PX K_4 a0 y_h4 s_92 d_h4 e_h4 x1h4 0) ∧ (¬ (r_91 = 0) → wja_Mo_fieldLine_54 mc ms Post PX K_4 a0 y_h4 s_92 d_h4 e_h4 x1h4 4))) s_90 a0 (sV s_90 a0 15)) ∧ (¬ (r_89 = 0) → wja_Mo_fieldLine_54 mc ms Post PX K_4 a0 y_h4 s_90 d_h4 e_h4 x1h4 2))) s_87 a0 (sV s_87 a0 10)) ∧ (¬ (r_86 = 0) → wja_Mo_fieldLine_54 mc ms Post PX K_4 a0 y_h4 s_87 d_h4 e_h4 x1h4 1))) s_h4 a0 (sV s_h4 a0 29)))
def wla_Mo_fieldLine_4 (mc ms : Nat) (Post : Ly → St → Nat → Nat → Prop) (PX : Ly → St → Nat → Nat → Prop) (a0 : Nat) (y_h4 : Ly) (s_h4 : St) (d_h4 e_h4 : Nat) (x1h4 : Int32) (x2h4 : Int32) : Prop := ∃ (I : Ly → St → Nat → Nat → Int32 → Int32 → Prop) (μ : Ly → St → Nat → Nat → Int32 → Int32 → Nat), I y_h4 s_h4 d_h4 e_h4 x1h4 x2h4 ∧ ∀ (u1 : Ly) (u2 : St) (u3 u4 : Nat) (t0 : Int32) (t1 : Int32), I u1 u2 u3 u4 t0 t1 → wba_Mo_fieldLine_4 mc ms Post PX (fun z1 z2 z3 z4 t0q t1q => I z1 z2 z3 z4 t0q t1q ∧ μ z1 z2 z3 z4 t0q t1q < μ u1 u2 u3 u4 t0 t1) a0 u1 u2 u3 u4 t0 t1
def wx_Mo_fieldLine (mc ms : Nat) (y : Ly) (Post : Ly → St → Nat → Nat → Prop) (PX : Ly → St → Nat → Nat → Prop) (σ : St) (a0 : Nat) : Prop := wla_Mo_fieldLine_4 mc ms Post PX a0 y σ 0 0 0 1
set_option maxHeartbeats 4000000 in
set_option maxRecDepth 100000 in
theorem cx_Mo_fieldLine (l : Launch) (D : va_G) (g : Nat → ClassId) (ad : Nat → Nat) (mc ms : Nat) (y : Ly) (Post : Ly → St → Nat → Nat → Prop) (PX : Ly → St → Nat → Nat → Prop) (σ : St) (a0 : Nat) (sz uz : Nat) (h_a0 : cl a0 = 14) (h : wx_Mo_fieldLine mc ms y Post PX σ a0) : vx_Met l y_Mo_fieldLine (mw y_Mo_fieldLine b_Mo_fieldLine 10 (none)) (ra_Mo_fieldLine mc ms) (PCu g D [] [.ref (ad a0)] sz uz (ws g ad y σ)) (va_Qv (fun (u : Ly × St × Nat × Nat) => Post u.1 u.2.1 u.2.2.1 u.2.2.2) (QU D (va_A (ws g ad y σ) sz) (fun u => ws g ad u.1 u.2.1) sz uz (fun u => u.2.2.1) (fun u => u.2.2.2)) (va_A (ws g ad y σ) sz)) (XQ D g ad (va_A (ws g ad y σ) sz) sz uz PX) mc ms (va_A (ws g ad y σ) sz) := by
  refine ofVx (by decide +kernel) (Nat.le_of_ble_eq_true rfl) ?_
  intro p e s m args below meth c A Q ls H locs G hsz hP hD hS hl hret hretX
  subst hsz
  have hl : lv_has ls 10 [(0, .ref (ad a0))] := hl
  have hd : 0 ≤ mc ∧ 0 ≤ ms := ⟨Nat.zero_le _, Nat.zero_le _⟩
  unfold wx_Mo_fieldLine at h
  refine lv_iconst (v := 0) G.1 G.2.1 d_Mo_fieldLine_0 (by decide) ?_
  refine lv_istore_n (lv' := [(1, .int 0), (0, .ref (ad a0))]) G.1 G.2.1 d_Mo_fieldLine_1 rfl hl (by decide) rfl (fun ls hl => ?_)
  refine lv_iconst (v := 1) G.1 G.2.1 d_Mo_fieldLine_2 (by decide) ?_
  refine lv_istore_n (lv' := [(2, .int 1), (1, .int 0), (0, .ref (ad a0))]) G.1 G.2.1 d_Mo_fieldLine_3 rfl hl (by decide) rfl (fun ls hl => ?_)
  unfold wla_Mo_fieldLine_4 at h
  obtain ⟨I_4, μ_4, hI_4, hB_4⟩ := h
  have L_4 : ∀ (n_4 : Nat) (y_h4 : Ly) (s_h4 : St) (d_h4 e_h4 : Nat) (x1h4 : Int32) (x2h4 : Int32), μ_4 y_h4 s_h4 d_h4 e_h4 x1h4 x2h4 < n_4 → I_4 y_h4 s_h4 d_h4 e_h4 x1h4 x2h4 → ∀ (H : Heap) (locs : List Loc), va_P D CL (ws g ad y_h4 s_h4) H → va_D A (ws g ad y_h4 s_h4) → va_S A s.heap H locs → ∀ ls, lv_has ls 10 [(0, .ref (ad a0)), (1, .int x1h4), (2, .int x2h4)] → W p l e (ra_Mo_fieldLine mc ms) s m args below meth c H locs d_h4 e_h4 Q (F0 m 4 ls []) := by
    intro n_4
    induction n_4 with
    | zero => intro y_h4 s_h4 d_h4 e_h4 x1h4 x2h4 hμ; exact absurd hμ (Nat.not_lt_zero _)
    | succ n_4 ih_4 =>
      intro y_h4 s_h4 d_h4 e_h4 x1h4 x2h4 hμ_4 hJ H locs hP hD hS ls hl
      obtain ⟨K_4, hK_4, h⟩ : ∃ K : Ly → St → Nat → Nat → Int32 → Int32 → Prop, (∀ z1 z2 z3 z4 (t0 : Int32) (t1 : Int32), K z1 z2 z3 z4 t0 t1 → I_4 z1 z2 z3 z4 t0 t1 ∧ μ_4 z1 z2 z3 z4 t0 t1 < μ_4 y_h4 s_h4 d_h4 e_h4 x1h4 x2h4) ∧ wba_Mo_fieldLine_4 mc ms Post PX K a0 y_h4 s_h4 d_h4 e_h4 x1h4 x2h4 := ⟨_, fun _ _ _ _ _ _ h => h, hB_4 y_h4 s_h4 d_h4 e_h4 x1h4 x2h4 hJ⟩
      unfold wba_Mo_fieldLine_4 at h
      obtain ⟨hd, h⟩ := h
      refine lv_iload_n G.1 G.2.1 d_Mo_fieldLine_4 rfl (lv_at hl 2 rfl) ?_
      refine lv_if_eq (tgt := 104) G.1 G.2.1 d_Mo_fieldLine_5 (by decide) (fun c5 => ?_) (fun c5 => ?_)
      · skip
        have h := h.1 c5
        refine lv_aload_n G.1 G.2.1 d_Mo_fieldLine_104 rfl (lv_at hl 0 rfl) ?_
        obtain ⟨mc_6, ms_7, hr_8, h⟩ := h
        refine uxVi (As := []) (rest := []) G hP hD hS (cx_Mo_plainName l D g ad mc_6 ms_7 y_h4 _ _ s_h4 a0 H.size (us H) h_a0 h) (fun _ h => absurd h List.not_mem_nil) w9_Mo_plainName q3563 ⟨Nat.le_of_ble_eq_true rfl, Nat.le_of_ble_eq_true rfl⟩ rfl rfl h_a0 (q := (RMo, TMo, 131)) rfl rfl hl.1 rfl (Nat.le_of_ble_eq_true rfl) rfl hr_8 d_Mo_fieldLine_105 (fun y_3 s_2 d_4 e_5 H locs q9 ce h hP hD hS hce hcv hcl => ?_) (fun r_1 y_3 s_2 d_4 e_5 H locs h hP hD hS => ?_)
        · skip
          obtain ⟨hd, h⟩ := h
          exact hretX h hP hD hS hd.1 hd.2 hce hcv hcl
        have hl := lv_sub (l' := [(0, .ref (ad a0)), (1, .int x1h4)]) hl [0, 1] rfl
        obtain ⟨hd, h⟩ := h
        refine lv_istore_n (lv' := [(3, .int r_1), (0, .ref (ad a0)), (1, .int x1h4)]) G.1 G.2.1 d_Mo_fieldLine_108 rfl hl (by decide) rfl (fun ls hl => ?_)
        refine lv_aload_n G.1 G.2.1 d_Mo_fieldLine_109 rfl (lv_at hl 1 rfl) ?_
        obtain ⟨mc_14, ms_15, hr_16, h⟩ := h
        refine uxVi (As := []) (rest := []) G hP hD hS (cx_Mo_type l D g ad mc_14 ms_15 y_3 _ _ s_2 a0 H.size (us H) h_a0 h) (fun _ h => absurd h List.not_mem_nil) w9_Mo_type q3587 ⟨Nat.le_of_ble_eq_true rfl, Nat.le_of_ble_eq_true rfl⟩ rfl rfl h_a0 (q := (RMo, TMo, 131)) rfl rfl hl.1 rfl (Nat.le_of_ble_eq_true rfl) rfl hr_16 d_Mo_fieldLine_110 (fun y_11 s_10 d_12 e_13 H locs q9 ce h hP hD hS hce hcv hcl => ?_) (fun r_9 y_11 s_10 d_12 e_13 H locs h hP hD hS => ?_)
        · skip
          obtain ⟨hd, h⟩ := h
          exact hretX h hP hD hS hd.1 hd.2 hce hcv hcl
        obtain ⟨hd, h⟩ := h
        refine lv_istore (lv' := [(4, .int r_9), (3, .int r_1), (0, .ref (ad a0)), (1, .int x1h4)]) G.1 G.2.1 d_Mo_fieldLine_113 hl (by decide) rfl (fun ls hl => ?_)
        refine lv_aload_n G.1 G.2.1 d_Mo_fieldLine_115 rfl (lv_at hl 2 rfl) ?_
        refine ugf (v := .ref (yP y_11 a0 39)) G hP h_a0 iMo rfl 39 (by decide) rfl q3103 rfl rfl d_Mo_fieldLine_116 ?_
        refine lv_aload_n G.1 G.2.1 d_Mo_fieldLine_119 rfl (lv_at hl 2 rfl) ?_
        refine W.eq (g2 := F0 m 120 ls [.ref (ad a0), .ref (yP y_11 a0 39)]) rfl ?_
        refine ugf (v := .int (sV s_10 a0 43)) G hP h_a0 iMo rfl 43 (by decide) rfl q3107 rfl rfl d_Mo_fieldLine_120 ?_
        refine ubald G hP (kdp h_a0 rfl) (typ h_a0 rfl) h d_Mo_fieldLine_123 (fun x_17 h => ?_)
        refine lv_bipush (v := 61) G.1 G.2.1 d_Mo_fieldLine_124 (by decide) ?_
        have J_134 : ∀ (y_j134 : Ly) (s_j134 : St) (d_j134 e_j134 : Nat) (x1j134 : Int32) (x3j134 : Int32) (x4j134 : Int32) (z0j134 : Int32) (H : Heap) (locs : List Loc), wja_Mo_fieldLine_134 mc ms Post PX a0 y_j134 s_j134 d_j134 e_j134 x1j134 x3j134 x4j134 z0j134 → va_P D CL (ws g ad y_j134 s_j134) H → va_D A (ws g ad y_j134 s_j134) → va_S A s.heap H locs → ∀ ls, lv_has ls 10 [(0, .ref (ad a0)), (1, .int x1j134), (3, .int x3j134), (4, .int x4j134)] → W p l e (ra_Mo_fieldLine mc ms) s m args below meth c H locs d_j134 e_j134 Q (F0 m 134 ls [.int z0j134]) := by
          intro y_j134 s_j134 d_j134 e_j134 x1j134 x3j134 x4j134 z0j134 H locs h hP hD hS ls hl
          unfold wja_Mo_fieldLine_134 at h
          obtain ⟨hd, h⟩ := h
          refine lv_istore (lv' := [(5, .int z0j134), (0, .ref (ad a0)), (1, .int x1j134), (3, .int x3j134), (4, .int x4j134)]) G.1 G.2.1 d_Mo_fieldLine_134 hl (by decide) rfl (fun ls hl => ?_)
          refine lv_iconst (v := 0) G.1 G.2.1 d_Mo_fieldLine_136 (by decide) ?_
          refine lv_istore (lv' := [(6, .int 0), (5, .int z0j134), (0, .ref (ad a0)), (1, .int x1j134), (3, .int x3j134), (4, .int x4j134)]) G.1 G.2.1 d_Mo_fieldLine_137 hl (by decide) rfl (fun ls hl => ?_)
          refine lv_iload G.1 G.2.1 d_Mo_fieldLine_139 (lv_at hl 1 rfl) ?_
          have J_166 : ∀ (y_j166 : Ly) (s_j166 : St) (d_j166 e_j166 : Nat) (x1j166 : Int32) (x3j166 : Int32) (x4j166 : Int32) (x5j166 : Int32) (x6j166 : Int32) (H : Heap) (locs : List Loc), wja_Mo_fieldLine_166 mc ms Post PX a0 y_j166 s_j166 d_j166 e_j166 x1j166 x3j166 x4j166 x5j166 x6j166 → va_P D CL (ws g ad y_j166 s_j166) H → va_D A (ws g ad y_j166 s_j166) → va_S A s.heap H locs → ∀ ls, lv_has ls 10 [(0, .ref (ad a0)), (1, .int x1j166), (3, .int x3j166), (4, .int x4j166), (5, .int x5j166), (6, .int x6j166)] → W p l e (ra_Mo_fieldLine mc ms) s m args below meth c H locs d_j166 e_j166 Q (F0 m 166 ls []) := by
            intro y_j166 s_j166 d_j166 e_j166 x1j166 x3j166 x4j166 x5j166 x6j166 H locs h hP hD hS ls hl
            unfold wja_Mo_fieldLine_166 at h
            obtain ⟨hd, h⟩ := h
            refine lv_aload_n G.1 G.2.1 d_Mo_fieldLine_166 rfl (lv_at hl 0 rfl) ?_
            refine lv_iconst (v := 0) G.1 G.2.1 d_Mo_fieldLine_167 (by decide) ?_
            obtain ⟨mc_23, ms_24, hr_25, h⟩ := h
            refine uxVv (As := [.int 0]) (rest := []) G hP hD hS (cx_Mo_need l D g ad mc_23 ms_24 y_j166 _ _ s_j166 a0 0 H.size (us H) h_a0 h) (fun _ h => absurd h List.not_mem_nil) w9_Mo_need q3567 ⟨Nat.le_of_ble_eq_true rfl, Nat.le_of_ble_eq_true rfl⟩ rfl rfl h_a0 (q := (RMo, TMo, 131)) rfl rfl hl.1 rfl (Nat.le_of_ble_eq_true rfl) rfl hr_25 d_Mo_fieldLine_168 (fun y_20 s_19 d_21 e_22 H locs q9 ce h hP hD hS hce hcv hcl => ?_) (fun y_20 s_19 d_21 e_22 H locs h hP hD hS => ?_)
            · skip
              obtain ⟨hd, h⟩ := h
              exact hretX h hP hD hS hd.1 hd.2 hce hcv hcl
            obtain ⟨hd, h⟩ := h
            refine lv_aload_n G.1 G.2.1 d_Mo_fieldLine_171 rfl (lv_at hl 0 rfl) ?_
            obtain ⟨b_26, e_27, c_28, h⟩ := h
            refine ugf (v := .ref (ad b_26)) G hP h_a0 iMo rfl 45 (by decide) rfl q3109 rfl (by show va_rf ((sO s_19 a0 45).map ad) = _; rw [e_27]; rfl) d_Mo_fieldLine_172 ?_
            refine ugfN (v := .ref (yP y_20 b_26 8)) G hP c_28 iMw rfl 8 (by decide) rfl q2720 rfl rfl d_Mo_fieldLine_175 ?_
            refine lv_aload_n G.1 G.2.1 d_Mo_fieldLine_178 rfl (lv_at hl 0 rfl) ?_
            refine ugf (v := .int (sV s_19 a0 53)) G hP h_a0 iMo rfl 53 (by decide) rfl q3117 rfl rfl d_Mo_fieldLine_179 ?_
            refine uiald G hP (kdp c_28 rfl) (typ c_28 rfl) h d_Mo_fieldLine_182 (fun x_29 h => ?_)
            refine lv_istore (lv' := [(7, .int x_29), (0, .ref (ad a0)), (1, .int x1j166), (3, .int x3j166), (4, .int x4j166), (5, .int x5j166), (6, .int x6j166)]) G.1 G.2.1 d_Mo_fieldLine_183 hl (by decide) rfl (fun ls hl => ?_)
            refine lv_bipush (v := 8) G.1 G.2.1 d_Mo_fieldLine_185 (by decide) ?_
            refine W.eq (g2 := F0 m 187 ls [.int 8]) rfl ?_
            refine lv_aload_n G.1 G.2.1 d_Mo_fieldLine_187 rfl (lv_at hl 1 rfl) ?_
            refine ugf (v := .int (sV s_19 a0 53)) G hP h_a0 iMo rfl 53 (by decide) rfl q3117 rfl rfl d_Mo_fieldLine_188 ?_
            refine lv_imul G.1 G.2.1 d_Mo_fieldLine_191 ?_
            refine lv_istore (lv' := [(8, .int (8 * (sV s_19 a0 53))), (7, .int x_29), (0, .ref (ad a0)), (1, .int x1j166), (3, .int x3j166), (4, .int x4j166), (5, .int x5j166), (6, .int x6j166)]) G.1 G.2.1 d_Mo_fieldLine_192 hl (by decide) rfl (fun ls hl => ?_)
            refine lv_iconst (v := 0) G.1 G.2.1 d_Mo_fieldLine_194 (by decide) ?_
            refine lv_istore (lv' := [(9, .int 0), (8, .int (8 * (sV s_19 a0 53))), (7, .int x_29), (0, .ref (ad a0)), (1, .int x1j166), (3, .int x3j166), (4, .int x4j166), (5, .int x5j166), (6, .int x6j166)]) G.1 G.2.1 d_Mo_fieldLine_195 hl (by decide) rfl (fun ls hl => ?_)
            unfold wla_Mo_fieldLine_197 at h
            obtain ⟨I_197, μ_197, hI_197, hB_197⟩ := h
            have L_197 : ∀ (n_197 : Nat) (y_h197 : Ly) (s_h197 : St) (d_h197 e_h197 : Nat) (x1h197 : Int32) (x3h197 : Int32) (x4h197 : Int32) (x5h197 : Int32) (x6h197 : Int32) (x7h197 : Int32) (x8h197 : Int32) (x9h197 : Int32), μ_197 y_h197 s_h197 d_h197 e_h197 x1h197 x3h197 x4h197 x5h197 x6h197 x7h197 x8h197 x9h197 < n_197 → I_197 y_h197 s_h197 d_h197 e_h197 x1h197 x3h197 x4h197 x5h197 x6h197 x7h197 x8h197 x9h197 → ∀ (H : Heap) (locs : List Loc), va_P D CL (ws g ad y_h197 s_h197) H → va_D A (ws g ad y_h197 s_h197) → va_S A s.heap H locs → ∀ ls, lv_has ls 10 [(0, .ref (ad a0)), (1, .int x1h197), (3, .int x3h197), (4, .int x4h197), (5, .int x5h197), (6, .int x6h197), (7, .int x7h197), (8, .int x8h197), (9, .int x9h197)] → W p l e (ra_Mo_fieldLine mc ms) s m args below meth c H locs d_h197 e_h197 Q (F0 m 197 ls []) := by
              intro n_197
              induction n_197 with
              | zero => intro y_h197 s_h197 d_h197 e_h197 x1h197 x3h197 x4h197 x5h197 x6h197 x7h197 x8h197 x9h197 hμ; exact absurd hμ (Nat.not_lt_zero _)
              | succ n_197 ih_197 =>
                intro y_h197 s_h197 d_h197 e_h197 x1h197 x3h197 x4h197 x5h197 x6h197 x7h197 x8h197 x9h197 hμ_197 hJ H locs hP hD hS ls hl
                obtain ⟨K_197, hK_197, h⟩ : ∃ K : Ly → St → Nat → Nat → Int32 → Int32 → Int32 → Int32 → Int32 → Int32 → Int32 → Int32 → Prop, (∀ z1 z2 z3 z4 (t0 : Int32) (t1 : Int32) (t2 : Int32) (t3 : Int32) (t4 : Int32) (t5 : Int32) (t6 : Int32) (t7 : Int32), K z1 z2 z3 z4 t0 t1 t2 t3 t4 t5 t6 t7 → I_197 z1 z2 z3 z4 t0 t1 t2 t3 t4 t5 t6 t7 ∧ μ_197 z1 z2 z3 z4 t0 t1 t2 t3 t4 t5 t6 t7 < μ_197 y_h197 s_h197 d_h197 e_h197 x1h197 x3h197 x4h197 x5h197 x6h197 x7h197 x8h197 x9h197) ∧ wba_Mo_fieldLine_197 mc ms Post PX K a0 y_h197 s_h197 d_h197 e_h197 x1h197 x3h197 x4h197 x5h197 x6h197 x7h197 x8h197 x9h197 := ⟨_, fun _ _ _ _ _ _ _ _ _ _ _ _ h => h, hB_197 y_h197 s_h197 d_h197 e_h197 x1h197 x3h197 x4h197 x5h197 x6h197 x7h197 x8h197 x9h197 hJ⟩
                unfold wba_Mo_fieldLine_197 at h
                obtain ⟨hd, h⟩ := h
                refine lv_iload G.1 G.2.1 d_Mo_fieldLine_197 (lv_at hl 8 rfl) ?_
                refine lv_iload G.1 G.2.1 d_Mo_fieldLine_199 (lv_at hl 6 rfl) ?_
                refine lv_icmp_ge (tgt := 237) G.1 G.2.1 d_Mo_fieldLine_201 (by decide) (fun c201 => ?_) (fun c201 => ?_)
                · skip
                  have h := h.1 c201
                  refine lv_aload_n G.1 G.2.1 d_Mo_fieldLine_237 rfl (lv_at hl 0 rfl) ?_
                  obtain ⟨b_30, e_31, c_32, h⟩ := h
                  refine ugf (v := .ref (ad b_30)) G hP h_a0 iMo rfl 45 (by decide) rfl q3109 rfl (by show va_rf ((sO s_h197 a0 45).map ad) = _; rw [e_31]; rfl) d_Mo_fieldLine_238 ?_
                  refine ugfN (v := .ref (yP y_h197 b_30 5)) G hP c_32 iMw rfl 5 (by decide) rfl q2714 rfl rfl d_Mo_fieldLine_241 ?_
                  refine lv_aload_n G.1 G.2.1 d_Mo_fieldLine_244 rfl (lv_at hl 0 rfl) ?_
                  refine ugf (v := .int (sV s_h197 a0 53)) G hP h_a0 iMo rfl 53 (by decide) rfl q3117 rfl rfl d_Mo_fieldLine_245 ?_
                  refine uiald G hP (kdp c_32 rfl) (typ c_32 rfl) h d_Mo_fieldLine_248 (fun x_33 h => ?_)
                  refine lv_iconst (v := 4) G.1 G.2.1 d_Mo_fieldLine_249 (by decide) ?_
                  refine lv_iand G.1 G.2.1 d_Mo_fieldLine_250 ?_
                  have J_259 : ∀ (y_j259 : Ly) (s_j259 : St) (d_j259 e_j259 : Nat) (x1j259 : Int32) (x3j259 : Int32) (x4j259 : Int32) (x5j259 : Int32) (x6j259 : Int32) (x7j259 : Int32) (x8j259 : Int32) (z0j259 : Int32) (H : Heap) (locs : List Loc), wja_Mo_fieldLine_259 mc ms Post PX a0 y_j259 s_j259 d_j259 e_j259 x1j259 x3j259 x4j259 x5j259 x6j259 x7j259 x8j259 z0j259 → va_P D CL (ws g ad y_j259 s_j259) H → va_D A (ws g ad y_j259 s_j259) → va_S A s.heap H locs → ∀ ls, lv_has ls 10 [(0, .ref (ad a0)), (1, .int x1j259), (3, .int x3j259), (4, .int x4j259), (5, .int x5j259), (6, .int x6j259), (7, .int x7j259), (8, .int x8j259)] → W p l e (ra_Mo_fieldLine mc ms) s m args below meth c H locs d_j259 e_j259 Q (F0 m 259 ls [.int z0j259]) := by
                    intro y_j259 s_j259 d_j259 e_j259 x1j259 x3j259 x4j259 x5j259 x6j259 x7j259 x8j259 z0j259 H locs h hP hD hS ls hl
                    unfold wja_Mo_fieldLine_259 at h
                    obtain ⟨hd, h⟩ := h
                    refine lv_istore (lv' := [(9, .int z0j259), (0, .ref (ad a0)), (1, .int x1j259), (3, .int x3j259), (4, .int x4j259), (5, .int x5j259), (6, .int x6j259), (7, .int x7j259), (8, .int x8j259)]) G.1 G.2.1 d_Mo_fieldLine_259 hl (by decide) rfl (fun ls hl => ?_)
                    refine lv_aload_n G.1 G.2.1 d_Mo_fieldLine_261 rfl (lv_at hl 1 rfl) ?_
                    refine lv_iconst (v := 5) G.1 G.2.1 d_Mo_fieldLine_262 (by decide) ?_
                    refine lv_iload G.1 G.2.1 d_Mo_fieldLine_263 (lv_at hl 0 rfl) ?_
                    have J_288 : ∀ (y_j288 : Ly) (s_j288 : St) (d_j288 e_j288 : Nat) (x1j288 : Int32) (x3j288 : Int32) (x4j288 : Int32) (x5j288 : Int32) (x6j288 : Int32) (x7j288 : Int32) (x8j288 : Int32) (z1j288 : Int32) (z2j288 : Int32) (H : Heap) (locs : List Loc), wja_Mo_fieldLine_288 mc ms Post PX a0 y_j288 s_j288 d_j288 e_j288 x1j288 x3j288 x4j288 x5j288 x6j288 x7j288 x8j288 z1j288 z2j288 → va_P D CL (ws g ad y_j288 s_j288) H → va_D A (ws g ad y_j288 s_j288) → va_S A s.heap H locs → ∀ ls, lv_has ls 10 [(0, .ref (ad a0)), (1, .int x1j288), (3, .int x3j288), (4, .int x4j288), (5, .int x5j288), (6, .int x6j288), (7, .int x7j288), (8, .int x8j288)] → W p l e (ra_Mo_fieldLine mc ms) s m args below meth c H locs d_j288 e_j288 Q (F0 m 288 ls [.int z2j288, .int z1j288, .ref (ad a0)]) := by
                      intro y_j288 s_j288 d_j288 e_j288 x1j288 x3j288 x4j288 x5j288 x6j288 x7j288 x8j288 z1j288 z2j288 H locs h hP hD hS ls hl
                      unfold wja_Mo_fieldLine_288 at h
                      obtain ⟨hd, h⟩ := h
                      refine ucVv (As := [.int z1j288, .int z2j288]) (rest := []) G hP hD hS (cu_Mo_asks l D g ad y_j288 _ s_j288 a0 z1j288 z2j288 H.size h_a0 h) w9_Mo_asks q3575 ⟨Nat.le_of_ble_eq_true rfl, Nat.le_of_ble_eq_true rfl⟩ rfl rfl h_a0 (q := (RMo, TMo, 131)) rfl rfl hl.1 rfl (Nat.le_of_ble_eq_true rfl) rfl hd d_Mo_fieldLine_288 (fun s_35 H locs h hP hD hS => ?_)
                      refine lv_aload_n G.1 G.2.1 d_Mo_fieldLine_291 rfl (lv_at hl 0 rfl) ?_
                      refine lv_bipush (v := 12) G.1 G.2.1 d_Mo_fieldLine_292 (by decide) ?_
                      refine lv_iload G.1 G.2.1 d_Mo_fieldLine_294 (lv_at hl 6 rfl) ?_
                      refine lv_bipush (v := 8) G.1 G.2.1 d_Mo_fieldLine_296 (by decide) ?_
                      have J_306 : ∀ (y_j306 : Ly) (s_j306 : St) (d_j306 e_j306 : Nat) (x1j306 : Int32) (x3j306 : Int32) (x4j306 : Int32) (x5j306 : Int32) (x6j306 : Int32) (x7j306 : Int32) (x8j306 : Int32) (z1j306 : Int32) (z2j306 : Int32) (H : Heap) (locs : List Loc), wja_Mo_fieldLine_306 mc ms Post PX a0 y_j306 s_j306 d_j306 e_j306 x1j306 x3j306 x4j306 x5j306 x6j306 x7j306 x8j306 z1j306 z2j306 → va_P D CL (ws g ad y_j306 s_j306) H → va_D A (ws g ad y_j306 s_j306) → va_S A s.heap H locs → ∀ ls, lv_has ls 10 [(0, .ref (ad a0)), (1, .int x1j306), (3, .int x3j306), (4, .int x4j306), (5, .int x5j306), (6, .int x6j306), (7, .int x7j306), (8, .int x8j306)] → W p l e (ra_Mo_fieldLine mc ms) s m args below meth c H locs d_j306 e_j306 Q (F0 m 306 ls [.int z2j306, .int z1j306, .ref (ad a0)]) := by
                        intro y_j306 s_j306 d_j306 e_j306 x1j306 x3j306 x4j306 x5j306 x6j306 x7j306 x8j306 z1j306 z2j306 H locs h hP hD hS ls hl
                        unfold wja_Mo_fieldLine_306 at h
                        obtain ⟨hd, h⟩ := h
                        refine ucVv (As := [.int z1j306, .int z2j306]) (rest := []) G hP hD hS (cu_Mo_asks l D g ad y_j306 _ s_j306 a0 z1j306 z2j306 H.size h_a0 h) w9_Mo_asks q3575 ⟨Nat.le_of_ble_eq_true rfl, Nat.le_of_ble_eq_true rfl⟩ rfl rfl h_a0 (q := (RMo, TMo, 131)) rfl rfl hl.1 rfl (Nat.le_of_ble_eq_true rfl) rfl hd d_Mo_fieldLine_306 (fun s_37 H locs h hP hD hS => ?_)
                        refine lv_aload_n G.1 G.2.1 d_Mo_fieldLine_309 rfl (lv_at hl 0 rfl) ?_
                        refine lv_bipush (v := 14) G.1 G.2.1 d_Mo_fieldLine_310 (by decide) ?_
                        refine lv_iload G.1 G.2.1 d_Mo_fieldLine_312 (lv_at hl 4 rfl) ?_
                        have J_334 : ∀ (y_j334 : Ly) (s_j334 : St) (d_j334 e_j334 : Nat) (x1j334 : Int32) (x3j334 : Int32) (x4j334 : Int32) (x5j334 : Int32) (x6j334 : Int32) (x7j334 : Int32) (x8j334 : Int32) (z1j334 : Int32) (z2j334 : Int32) (H : Heap) (locs : List Loc), wja_Mo_fieldLine_334 mc ms Post PX a0 y_j334 s_j334 d_j334 e_j334 x1j334 x3j334 x4j334 x5j334 x6j334 x7j334 x8j334 z1j334 z2j334 → va_P D CL (ws g ad y_j334 s_j334) H → va_D A (ws g ad y_j334 s_j334) → va_S A s.heap H locs → ∀ ls, lv_has ls 10 [(0, .ref (ad a0)), (1, .int x1j334), (3, .int x3j334), (4, .int x4j334), (5, .int x5j334), (6, .int x6j334), (7, .int x7j334), (8, .int x8j334)] → W p l e (ra_Mo_fieldLine mc ms) s m args below meth c H locs d_j334 e_j334 Q (F0 m 334 ls [.int z2j334, .int z1j334, .ref (ad a0)]) := by
                          intro y_j334 s_j334 d_j334 e_j334 x1j334 x3j334 x4j334 x5j334 x6j334 x7j334 x8j334 z1j334 z2j334 H locs h hP hD hS ls hl
                          unfold wja_Mo_fieldLine_334 at h
                          obtain ⟨hd, h⟩ := h
                          refine ucVv (As := [.int z1j334, .int z2j334]) (rest := []) G hP hD hS (cu_Mo_asks l D g ad y_j334 _ s_j334 a0 z1j334 z2j334 H.size h_a0 h) w9_Mo_asks q3575 ⟨Nat.le_of_ble_eq_true rfl, Nat.le_of_ble_eq_true rfl⟩ rfl rfl h_a0 (q := (RMo, TMo, 131)) rfl rfl hl.1 rfl (Nat.le_of_ble_eq_true rfl) rfl hd d_Mo_fieldLine_334 (fun s_39 H locs h hP hD hS => ?_)
                          refine lv_aload_n G.1 G.2.1 d_Mo_fieldLine_337 rfl (lv_at hl 0 rfl) ?_
                          refine ugf (v := .int (sV s_39 a0 51)) G hP h_a0 iMo rfl 51 (by decide) rfl q3115 rfl rfl d_Mo_fieldLine_338 ?_
                          refine lv_bipush (v := 99) G.1 G.2.1 d_Mo_fieldLine_341 (by decide) ?_
                          refine lv_icmp_ge (tgt := 347) G.1 G.2.1 d_Mo_fieldLine_343 (by decide) (fun c343 => ?_) (fun c343 => ?_)
                          · skip
                            have h := h.1 c343
                            refine lv_aload_n G.1 G.2.1 d_Mo_fieldLine_347 rfl (lv_at hl 0 rfl) ?_
                            obtain ⟨b_40, e_41, c_42, h⟩ := h
                            refine ugf (v := .ref (ad b_40)) G hP h_a0 iMo rfl 45 (by decide) rfl q3109 rfl (by show va_rf ((sO s_39 a0 45).map ad) = _; rw [e_41]; rfl) d_Mo_fieldLine_348 ?_
                            refine ugfN (v := .ref (yP y_j334 b_40 12)) G hP c_42 iMw rfl 12 (by decide) rfl q2728 rfl rfl d_Mo_fieldLine_351 ?_
                            refine lv_iload G.1 G.2.1 d_Mo_fieldLine_354 (lv_at hl 7 rfl) ?_
                            refine lv_iload G.1 G.2.1 d_Mo_fieldLine_356 (lv_at hl 6 rfl) ?_
                            refine lv_iadd G.1 G.2.1 d_Mo_fieldLine_358 ?_
                            refine W.eq (g2 := F0 m 359 ls [.int (x8j334 + x7j334), .ref (yP y_j334 b_40 12)]) rfl ?_
                            refine lv_iload_n G.1 G.2.1 d_Mo_fieldLine_359 rfl (lv_at hl 2 rfl) ?_
                            refine uiast G hP hD hS (kdp c_42 rfl) (typ c_42 rfl) h d_Mo_fieldLine_360 (fun s_43 H locs h hP hD hS => ?_)
                            refine lv_aload_n G.1 G.2.1 d_Mo_fieldLine_361 rfl (lv_at hl 0 rfl) ?_
                            obtain ⟨b_44, e_45, c_46, h⟩ := h
                            refine ugf (v := .ref (ad b_44)) G hP h_a0 iMo rfl 45 (by decide) rfl q3109 rfl (by show va_rf ((sO s_43 a0 45).map ad) = _; rw [e_45]; rfl) d_Mo_fieldLine_362 ?_
                            refine ugfN (v := .ref (yP y_j334 b_44 13)) G hP c_46 iMw rfl 13 (by decide) rfl q2730 rfl rfl d_Mo_fieldLine_365 ?_
                            refine lv_iload G.1 G.2.1 d_Mo_fieldLine_368 (lv_at hl 7 rfl) ?_
                            refine lv_iload G.1 G.2.1 d_Mo_fieldLine_370 (lv_at hl 6 rfl) ?_
                            refine lv_iadd G.1 G.2.1 d_Mo_fieldLine_372 ?_
                            refine lv_iload G.1 G.2.1 d_Mo_fieldLine_373 (lv_at hl 3 rfl) ?_
                            refine uiast G hP hD hS (kdp c_46 rfl) (typ c_46 rfl) h d_Mo_fieldLine_375 (fun s_47 H locs h hP hD hS => ?_)
                            refine lv_aload_n G.1 G.2.1 d_Mo_fieldLine_376 rfl (lv_at hl 0 rfl) ?_
                            obtain ⟨b_48, e_49, c_50, h⟩ := h
                            refine ugf (v := .ref (ad b_48)) G hP h_a0 iMo rfl 45 (by decide) rfl q3109 rfl (by show va_rf ((sO s_47 a0 45).map ad) = _; rw [e_49]; rfl) d_Mo_fieldLine_377 ?_
                            refine W.eq (g2 := F0 m 380 ls [.ref (ad b_48)]) rfl ?_
                            refine ugfN (v := .ref (yP y_j334 b_48 14)) G hP c_50 iMw rfl 14 (by decide) rfl q2732 rfl rfl d_Mo_fieldLine_380 ?_
                            refine lv_iload G.1 G.2.1 d_Mo_fieldLine_383 (lv_at hl 7 rfl) ?_
                            refine lv_iload G.1 G.2.1 d_Mo_fieldLine_385 (lv_at hl 6 rfl) ?_
                            refine lv_iadd G.1 G.2.1 d_Mo_fieldLine_387 ?_
                            refine lv_iload_n G.1 G.2.1 d_Mo_fieldLine_388 rfl (lv_at hl 1 rfl) ?_
                            refine uiast G hP hD hS (kdp c_50 rfl) (typ c_50 rfl) h d_Mo_fieldLine_389 (fun s_51 H locs h hP hD hS => ?_)
                            refine lv_aload_n G.1 G.2.1 d_Mo_fieldLine_390 rfl (lv_at hl 0 rfl) ?_
                            obtain ⟨b_52, e_53, c_54, h⟩ := h
                            refine ugf (v := .ref (ad b_52)) G hP h_a0 iMo rfl 45 (by decide) rfl q3109 rfl (by show va_rf ((sO s_51 a0 45).map ad) = _; rw [e_53]; rfl) d_Mo_fieldLine_391 ?_
                            refine ugfN (v := .ref (yP y_j334 b_52 15)) G hP c_54 iMw rfl 15 (by decide) rfl q2734 rfl rfl d_Mo_fieldLine_394 ?_
                            refine lv_iload G.1 G.2.1 d_Mo_fieldLine_397 (lv_at hl 7 rfl) ?_
                            refine lv_iload G.1 G.2.1 d_Mo_fieldLine_399 (lv_at hl 6 rfl) ?_
                            refine lv_iadd G.1 G.2.1 d_Mo_fieldLine_401 ?_
                            refine W.eq (g2 := F0 m 402 ls [.int (x8j334 + x7j334), .ref (yP y_j334 b_52 15)]) rfl ?_
                            refine lv_iload G.1 G.2.1 d_Mo_fieldLine_402 (lv_at hl 5 rfl) ?_
                            refine uiast G hP hD hS (kdp c_54 rfl) (typ c_54 rfl) h d_Mo_fieldLine_404 (fun s_55 H locs h hP hD hS => ?_)
                            refine lv_aload_n G.1 G.2.1 d_Mo_fieldLine_405 rfl (lv_at hl 0 rfl) ?_
                            obtain ⟨b_56, e_57, c_58, h⟩ := h
                            refine ugf (v := .ref (ad b_56)) G hP h_a0 iMo rfl 45 (by decide) rfl q3109 rfl (by show va_rf ((sO s_55 a0 45).map ad) = _; rw [e_57]; rfl) d_Mo_fieldLine_406 ?_
                            refine ugfN (v := .ref (yP y_j334 b_56 16)) G hP c_58 iMw rfl 16 (by decide) rfl q2736 rfl rfl d_Mo_fieldLine_409 ?_
                            refine lv_iload G.1 G.2.1 d_Mo_fieldLine_412 (lv_at hl 7 rfl) ?_
                            refine lv_iload G.1 G.2.1 d_Mo_fieldLine_414 (lv_at hl 6 rfl) ?_
                            refine lv_iadd G.1 G.2.1 d_Mo_fieldLine_416 ?_
                            refine lv_iload G.1 G.2.1 d_Mo_fieldLine_417 (lv_at hl 4 rfl) ?_
                            refine uzast G hP hD hS (kdp c_58 rfl) (typ c_58 rfl) h d_Mo_fieldLine_419 (fun s_59 H locs h hP hD hS => ?_)
                            refine lv_aload_n G.1 G.2.1 d_Mo_fieldLine_420 rfl (lv_at hl 0 rfl) ?_
                            obtain ⟨b_60, e_61, c_62, h⟩ := h
                            refine ugf (v := .ref (ad b_60)) G hP h_a0 iMo rfl 45 (by decide) rfl q3109 rfl (by show va_rf ((sO s_59 a0 45).map ad) = _; rw [e_61]; rfl) d_Mo_fieldLine_421 ?_
                            refine W.eq (g2 := F0 m 424 ls [.ref (ad b_60)]) rfl ?_
                            refine ugfN (v := .ref (yP y_j334 b_60 17)) G hP c_62 iMw rfl 17 (by decide) rfl q2738 rfl rfl d_Mo_fieldLine_424 ?_
                            refine lv_iload G.1 G.2.1 d_Mo_fieldLine_427 (lv_at hl 7 rfl) ?_
                            refine lv_iload G.1 G.2.1 d_Mo_fieldLine_429 (lv_at hl 6 rfl) ?_
                            refine lv_iadd G.1 G.2.1 d_Mo_fieldLine_431 ?_
                            refine lv_iconst (v := 0) G.1 G.2.1 d_Mo_fieldLine_432 (by decide) ?_
                            refine uiast G hP hD hS (kdp c_62 rfl) (typ c_62 rfl) h d_Mo_fieldLine_433 (fun s_63 H locs h hP hD hS => ?_)
                            refine lv_aload_n G.1 G.2.1 d_Mo_fieldLine_434 rfl (lv_at hl 0 rfl) ?_
                            obtain ⟨b_64, e_65, c_66, h⟩ := h
                            refine ugf (v := .ref (ad b_64)) G hP h_a0 iMo rfl 45 (by decide) rfl q3109 rfl (by show va_rf ((sO s_63 a0 45).map ad) = _; rw [e_65]; rfl) d_Mo_fieldLine_435 ?_
                            refine ugfN (v := .ref (yP y_j334 b_64 8)) G hP c_66 iMw rfl 8 (by decide) rfl q2720 rfl rfl d_Mo_fieldLine_438 ?_
                            refine lv_aload_n G.1 G.2.1 d_Mo_fieldLine_441 rfl (lv_at hl 0 rfl) ?_
                            refine ugf (v := .int (sV s_63 a0 53)) G hP h_a0 iMo rfl 53 (by decide) rfl q3117 rfl rfl d_Mo_fieldLine_442 ?_
                            refine lv_dup2_11 G.1 G.2.1 d_Mo_fieldLine_445 rfl rfl ?_
                            refine W.eq (g2 := F0 m 446 ls [.int (sV s_63 a0 53), .ref (yP y_j334 b_64 8), .int (sV s_63 a0 53), .ref (yP y_j334 b_64 8)]) rfl ?_
                            refine uiald G hP (kdp c_66 rfl) (typ c_66 rfl) h d_Mo_fieldLine_446 (fun x_67 h => ?_)
                            refine lv_iconst (v := 1) G.1 G.2.1 d_Mo_fieldLine_447 (by decide) ?_
                            refine lv_iadd G.1 G.2.1 d_Mo_fieldLine_448 ?_
                            refine uiast G hP hD hS (kdp c_66 rfl) (typ c_66 rfl) h d_Mo_fieldLine_449 (fun s_68 H locs h hP hD hS => ?_)
                            exact hret (y_j334, s_68, d_j334, e_j334) _ _ _ _ _ ls h hP hD hS (Nat.le_refl _) (Nat.le_refl _) hd.1 hd.2 d_Mo_fieldLine_450
                          · skip
                            have h := h.2 c343
                            exact hret (y_j334, s_39, d_j334, e_j334) _ _ _ _ _ ls h hP hD hS (Nat.le_refl _) (Nat.le_refl _) hd.1 hd.2 d_Mo_fieldLine_346
                        have J_333 : ∀ (y_j333 : Ly) (s_j333 : St) (d_j333 e_j333 : Nat) (x1j333 : Int32) (x3j333 : Int32) (x4j333 : Int32) (x5j333 : Int32) (x6j333 : Int32) (x7j333 : Int32) (x8j333 : Int32) (z1j333 : Int32) (H : Heap) (locs : List Loc), wja_Mo_fieldLine_333 mc ms Post PX a0 y_j333 s_j333 d_j333 e_j333 x1j333 x3j333 x4j333 x5j333 x6j333 x7j333 x8j333 z1j333 → va_P D CL (ws g ad y_j333 s_j333) H → va_D A (ws g ad y_j333 s_j333) → va_S A s.heap H locs → ∀ ls, lv_has ls 10 [(0, .ref (ad a0)), (1, .int x1j333), (3, .int x3j333), (4, .int x4j333), (5, .int x5j333), (6, .int x6j333), (7, .int x7j333), (8, .int x8j333)] → W p l e (ra_Mo_fieldLine mc ms) s m args below meth c H locs d_j333 e_j333 Q (F0 m 333 ls [.int z1j333, .ref (ad a0)]) := by
                          intro y_j333 s_j333 d_j333 e_j333 x1j333 x3j333 x4j333 x5j333 x6j333 x7j333 x8j333 z1j333 H locs h hP hD hS ls hl
                          unfold wja_Mo_fieldLine_333 at h
                          obtain ⟨hd, h⟩ := h
                          refine lv_iconst (v := 0) G.1 G.2.1 d_Mo_fieldLine_333 (by decide) ?_
                          exact J_334 y_j333 s_j333 d_j333 e_j333 x1j333 x3j333 x4j333 x5j333 x6j333 x7j333 x8j333 z1j333 0 H locs h hP hD hS ls (lv_sub hl [0, 1, 2, 3, 4, 5, 6, 7] rfl)
                        refine lv_if_eq (tgt := 333) G.1 G.2.1 d_Mo_fieldLine_314 (by decide) (fun c314 => ?_) (fun c314 => ?_)
                        · skip
                          have h := h.1 c314
                          exact J_333 y_j306 s_37 d_j306 e_j306 x1j306 x3j306 x4j306 x5j306 x6j306 x7j306 x8j306 14 H locs h hP hD hS ls (lv_sub hl [0, 1, 2, 3, 4, 5, 6, 7] rfl)
                        · skip
                          have h := h.2 c314
                          refine lv_iload_n G.1 G.2.1 d_Mo_fieldLine_317 rfl (lv_at hl 1 rfl) ?_
                          refine lv_iconst (v := 1) G.1 G.2.1 d_Mo_fieldLine_318 (by decide) ?_
                          refine lv_iand G.1 G.2.1 d_Mo_fieldLine_319 ?_
                          have J_329 : ∀ (y_j329 : Ly) (s_j329 : St) (d_j329 e_j329 : Nat) (x1j329 : Int32) (x3j329 : Int32) (x4j329 : Int32) (x5j329 : Int32) (x6j329 : Int32) (x7j329 : Int32) (x8j329 : Int32) (z1j329 : Int32) (H : Heap) (locs : List Loc), wja_Mo_fieldLine_329 mc ms Post PX a0 y_j329 s_j329 d_j329 e_j329 x1j329 x3j329 x4j329 x5j329 x6j329 x7j329 x8j329 z1j329 → va_P D CL (ws g ad y_j329 s_j329) H → va_D A (ws g ad y_j329 s_j329) → va_S A s.heap H locs → ∀ ls, lv_has ls 10 [(0, .ref (ad a0)), (1, .int x1j329), (3, .int x3j329), (4, .int x4j329), (5, .int x5j329), (6, .int x6j329), (7, .int x7j329), (8, .int x8j329)] → W p l e (ra_Mo_fieldLine mc ms) s m args below meth c H locs d_j329 e_j329 Q (F0 m 329 ls [.int z1j329, .ref (ad a0)]) := by
                            intro y_j329 s_j329 d_j329 e_j329 x1j329 x3j329 x4j329 x5j329 x6j329 x7j329 x8j329 z1j329 H locs h hP hD hS ls hl
                            unfold wja_Mo_fieldLine_329 at h
                            obtain ⟨hd, h⟩ := h
                            refine lv_iconst (v := 1) G.1 G.2.1 d_Mo_fieldLine_329 (by decide) ?_
                            refine lv_goto (tgt := 334) G.1 G.2.1 d_Mo_fieldLine_330 (by decide) ?_
                            exact J_334 y_j329 s_j329 d_j329 e_j329 x1j329 x3j329 x4j329 x5j329 x6j329 x7j329 x8j329 z1j329 1 H locs h hP hD hS ls (lv_sub hl [0, 1, 2, 3, 4, 5, 6, 7] rfl)
                          refine lv_if_eq (tgt := 329) G.1 G.2.1 d_Mo_fieldLine_320 (by decide) (fun c320 => ?_) (fun c320 => ?_)
                          · skip
                            have h := h.1 c320
                            exact J_329 y_j306 s_37 d_j306 e_j306 x1j306 x3j306 x4j306 x5j306 x6j306 x7j306 x8j306 14 H locs h hP hD hS ls (lv_sub hl [0, 1, 2, 3, 4, 5, 6, 7] rfl)
                          · skip
                            have h := h.2 c320
                            refine lv_iload G.1 G.2.1 d_Mo_fieldLine_323 (lv_at hl 3 rfl) ?_
                            refine lv_iconst (v := 1) G.1 G.2.1 d_Mo_fieldLine_325 (by decide) ?_
                            refine W.eq (g2 := F0 m 326 ls [.int 1, .int x4j306, .int 14, .ref (ad a0)]) rfl ?_
                            refine lv_icmp_eq (tgt := 333) G.1 G.2.1 d_Mo_fieldLine_326 (by decide) (fun c326 => ?_) (fun c326 => ?_)
                            · skip
                              have h := h.1 c326
                              exact J_333 y_j306 s_37 d_j306 e_j306 x1j306 x3j306 x4j306 x5j306 x6j306 x7j306 x8j306 14 H locs h hP hD hS ls (lv_sub hl [0, 1, 2, 3, 4, 5, 6, 7] rfl)
                            · skip
                              have h := h.2 c326
                              exact J_329 y_j306 s_37 d_j306 e_j306 x1j306 x3j306 x4j306 x5j306 x6j306 x7j306 x8j306 14 H locs h hP hD hS ls (lv_sub hl [0, 1, 2, 3, 4, 5, 6, 7] rfl)
                      refine lv_icmp_ne (tgt := 305) G.1 G.2.1 d_Mo_fieldLine_298 (by decide) (fun c298 => ?_) (fun c298 => ?_)
                      · skip
                        have h := h.1 c298
                        refine lv_iconst (v := 0) G.1 G.2.1 d_Mo_fieldLine_305 (by decide) ?_
                        exact J_306 y_j288 s_35 d_j288 e_j288 x1j288 x3j288 x4j288 x5j288 x6j288 x7j288 x8j288 12 0 H locs h hP hD hS ls (lv_sub hl [0, 1, 2, 3, 4, 5, 6, 7] rfl)
                      · skip
                        have h := h.2 c298
                        refine lv_iconst (v := 1) G.1 G.2.1 d_Mo_fieldLine_301 (by decide) ?_
                        refine lv_goto (tgt := 306) G.1 G.2.1 d_Mo_fieldLine_302 (by decide) ?_
                        exact J_306 y_j288 s_35 d_j288 e_j288 x1j288 x3j288 x4j288 x5j288 x6j288 x7j288 x8j288 12 1 H locs h hP hD hS ls (lv_sub hl [0, 1, 2, 3, 4, 5, 6, 7] rfl)
                    have J_287 : ∀ (y_j287 : Ly) (s_j287 : St) (d_j287 e_j287 : Nat) (x1j287 : Int32) (x3j287 : Int32) (x4j287 : Int32) (x5j287 : Int32) (x6j287 : Int32) (x7j287 : Int32) (x8j287 : Int32) (z1j287 : Int32) (H : Heap) (locs : List Loc), wja_Mo_fieldLine_287 mc ms Post PX a0 y_j287 s_j287 d_j287 e_j287 x1j287 x3j287 x4j287 x5j287 x6j287 x7j287 x8j287 z1j287 → va_P D CL (ws g ad y_j287 s_j287) H → va_D A (ws g ad y_j287 s_j287) → va_S A s.heap H locs → ∀ ls, lv_has ls 10 [(0, .ref (ad a0)), (1, .int x1j287), (3, .int x3j287), (4, .int x4j287), (5, .int x5j287), (6, .int x6j287), (7, .int x7j287), (8, .int x8j287)] → W p l e (ra_Mo_fieldLine mc ms) s m args below meth c H locs d_j287 e_j287 Q (F0 m 287 ls [.int z1j287, .ref (ad a0)]) := by
                      intro y_j287 s_j287 d_j287 e_j287 x1j287 x3j287 x4j287 x5j287 x6j287 x7j287 x8j287 z1j287 H locs h hP hD hS ls hl
                      unfold wja_Mo_fieldLine_287 at h
                      obtain ⟨hd, h⟩ := h
                      refine lv_iconst (v := 0) G.1 G.2.1 d_Mo_fieldLine_287 (by decide) ?_
                      exact J_288 y_j287 s_j287 d_j287 e_j287 x1j287 x3j287 x4j287 x5j287 x6j287 x7j287 x8j287 z1j287 0 H locs h hP hD hS ls (lv_sub hl [0, 1, 2, 3, 4, 5, 6, 7] rfl)
                    refine lv_if_eq (tgt := 287) G.1 G.2.1 d_Mo_fieldLine_265 (by decide) (fun c265 => ?_) (fun c265 => ?_)
                    · skip
                      have h := h.1 c265
                      exact J_287 y_j259 s_j259 d_j259 e_j259 x1j259 x3j259 x4j259 x5j259 x6j259 x7j259 x8j259 5 H locs h hP hD hS ls (lv_sub hl [1, 2, 3, 4, 5, 6, 7, 8] rfl)
                    · skip
                      have h := h.2 c265
                      refine lv_aload_n G.1 G.2.1 d_Mo_fieldLine_268 rfl (lv_at hl 1 rfl) ?_
                      refine lv_iconst (v := 1) G.1 G.2.1 d_Mo_fieldLine_269 (by decide) ?_
                      refine ucVi (As := [.int 1]) (rest := [.int 5, .ref (ad a0)]) G hP hD hS (cu_Mo_isOff l D g ad y_j259 _ s_j259 a0 1 H.size h_a0 h) w9_Mo_isOff q3579 ⟨Nat.le_of_ble_eq_true rfl, Nat.le_of_ble_eq_true rfl⟩ rfl rfl h_a0 (q := (RMo, TMo, 131)) rfl rfl hl.1 rfl (Nat.le_of_ble_eq_true rfl) rfl hd d_Mo_fieldLine_270 (fun r_69 s_70 H locs h hP hD hS => ?_)
                      refine lv_if_ne (tgt := 287) G.1 G.2.1 d_Mo_fieldLine_273 (by decide) (fun c273 => ?_) (fun c273 => ?_)
                      · skip
                        have h := h.1 c273
                        exact J_287 y_j259 s_70 d_j259 e_j259 x1j259 x3j259 x4j259 x5j259 x6j259 x7j259 x8j259 5 H locs h hP hD hS ls (lv_sub hl [1, 2, 3, 4, 5, 6, 7, 8] rfl)
                      · skip
                        have h := h.2 c273
                        refine lv_iload_n G.1 G.2.1 d_Mo_fieldLine_276 rfl (lv_at hl 2 rfl) ?_
                        refine lv_iconst (v := 3) G.1 G.2.1 d_Mo_fieldLine_277 (by decide) ?_
                        refine W.eq (g2 := F0 m 278 ls [.int 3, .int x1j259, .int 5, .ref (ad a0)]) rfl ?_
                        refine lv_iand G.1 G.2.1 d_Mo_fieldLine_278 ?_
                        refine lv_iconst (v := 3) G.1 G.2.1 d_Mo_fieldLine_279 (by decide) ?_
                        refine lv_icmp_eq (tgt := 287) G.1 G.2.1 d_Mo_fieldLine_280 (by decide) (fun c280 => ?_) (fun c280 => ?_)
                        · skip
                          have h := h.1 c280
                          exact J_287 y_j259 s_70 d_j259 e_j259 x1j259 x3j259 x4j259 x5j259 x6j259 x7j259 x8j259 5 H locs h hP hD hS ls (lv_sub hl [1, 2, 3, 4, 5, 6, 7, 8] rfl)
                        · skip
                          have h := h.2 c280
                          refine lv_iconst (v := 1) G.1 G.2.1 d_Mo_fieldLine_283 (by decide) ?_
                          refine lv_goto (tgt := 288) G.1 G.2.1 d_Mo_fieldLine_284 (by decide) ?_
                          exact J_288 y_j259 s_70 d_j259 e_j259 x1j259 x3j259 x4j259 x5j259 x6j259 x7j259 x8j259 5 1 H locs h hP hD hS ls (lv_sub hl [1, 2, 3, 4, 5, 6, 7, 8] rfl)
                  refine W.eq (g2 := F0 m 251 ls [.int (x_33 &&& 4)]) rfl ?_
                  refine lv_if_eq (tgt := 258) G.1 G.2.1 d_Mo_fieldLine_251 (by decide) (fun c251 => ?_) (fun c251 => ?_)
                  · skip
                    have h := h.1 c251
                    refine lv_iconst (v := 0) G.1 G.2.1 d_Mo_fieldLine_258 (by decide) ?_
                    exact J_259 y_h197 s_h197 d_h197 e_h197 x1h197 x3h197 x4h197 x5h197 x6h197 x7h197 x8h197 0 H locs h hP hD hS ls (lv_sub hl [0, 1, 2, 3, 4, 5, 6, 7] rfl)
                  · skip
                    have h := h.2 c251
                    refine lv_iconst (v := 1) G.1 G.2.1 d_Mo_fieldLine_254 (by decide) ?_
                    refine lv_goto (tgt := 259) G.1 G.2.1 d_Mo_fieldLine_255 (by decide) ?_
                    exact J_259 y_h197 s_h197 d_h197 e_h197 x1h197 x3h197 x4h197 x5h197 x6h197 x7h197 x8h197 1 H locs h hP hD hS ls (lv_sub hl [0, 1, 2, 3, 4, 5, 6, 7] rfl)
                · skip
                  have h := h.2 c201
                  refine lv_aload_n G.1 G.2.1 d_Mo_fieldLine_204 rfl (lv_at hl 0 rfl) ?_
                  refine lv_iconst (v := 3) G.1 G.2.1 d_Mo_fieldLine_205 (by decide) ?_
                  refine lv_aload_n G.1 G.2.1 d_Mo_fieldLine_206 rfl (lv_at hl 0 rfl) ?_
                  obtain ⟨b_71, e_72, c_73, h⟩ := h
                  refine ugf (v := .ref (ad b_71)) G hP h_a0 iMo rfl 45 (by decide) rfl q3109 rfl (by show va_rf ((sO s_h197 a0 45).map ad) = _; rw [e_72]; rfl) d_Mo_fieldLine_207 ?_
                  refine ugfN (v := .ref (yP y_h197 b_71 12)) G hP c_73 iMw rfl 12 (by decide) rfl q2728 rfl rfl d_Mo_fieldLine_210 ?_
                  refine lv_iload G.1 G.2.1 d_Mo_fieldLine_213 (lv_at hl 7 rfl) ?_
                  refine lv_iload G.1 G.2.1 d_Mo_fieldLine_215 (lv_at hl 8 rfl) ?_
                  refine lv_iadd G.1 G.2.1 d_Mo_fieldLine_217 ?_
                  refine W.eq (g2 := F0 m 218 ls [.int (x8h197 + x9h197), .ref (yP y_h197 b_71 12), .int 3, .ref (ad a0)]) rfl ?_
                  refine uiald G hP (kdp c_73 rfl) (typ c_73 rfl) h d_Mo_fieldLine_218 (fun x_74 h => ?_)
                  refine lv_iload_n G.1 G.2.1 d_Mo_fieldLine_219 rfl (lv_at hl 2 rfl) ?_
                  have J_228 : ∀ (y_j228 : Ly) (s_j228 : St) (d_j228 e_j228 : Nat) (x1j228 : Int32) (x3j228 : Int32) (x4j228 : Int32) (x5j228 : Int32) (x6j228 : Int32) (x7j228 : Int32) (x8j228 : Int32) (x9j228 : Int32) (z1j228 : Int32) (z2j228 : Int32) (H : Heap) (locs : List Loc), wja_Mo_fieldLine_228 mc ms Post PX K_197 a0 y_j228 s_j228 d_j228 e_j228 x1j228 x3j228 x4j228 x5j228 x6j228 x7j228 x8j228 x9j228 z1j228 z2j228 → va_P D CL (ws g ad y_j228 s_j228) H → va_D A (ws g ad y_j228 s_j228) → va_S A s.heap H locs → ∀ ls, lv_has ls 10 [(0, .ref (ad a0)), (1, .int x1j228), (3, .int x3j228), (4, .int x4j228), (5, .int x5j228), (6, .int x6j228), (7, .int x7j228), (8, .int x8j228), (9, .int x9j228)] → W p l e (ra_Mo_fieldLine mc ms) s m args below meth c H locs d_j228 e_j228 Q (F0 m 228 ls [.int z2j228, .int z1j228, .ref (ad a0)]) := by
                    intro y_j228 s_j228 d_j228 e_j228 x1j228 x3j228 x4j228 x5j228 x6j228 x7j228 x8j228 x9j228 z1j228 z2j228 H locs h hP hD hS ls hl
                    unfold wja_Mo_fieldLine_228 at h
                    obtain ⟨hd, h⟩ := h
                    refine ucVv (As := [.int z1j228, .int z2j228]) (rest := []) G hP hD hS (cu_Mo_asks l D g ad y_j228 _ s_j228 a0 z1j228 z2j228 H.size h_a0 h) w9_Mo_asks q3575 ⟨Nat.le_of_ble_eq_true rfl, Nat.le_of_ble_eq_true rfl⟩ rfl rfl h_a0 (q := (RMo, TMo, 131)) rfl rfl hl.1 rfl (Nat.le_of_ble_eq_true rfl) rfl hd d_Mo_fieldLine_228 (fun s_76 H locs h hP hD hS => ?_)
                    refine lv_iinc (v := x9j228 + 1) (lv' := [(9, .int (x9j228 + 1)), (0, .ref (ad a0)), (1, .int x1j228), (3, .int x3j228), (4, .int x4j228), (5, .int x5j228), (6, .int x6j228), (7, .int x7j228), (8, .int x8j228)]) G.1 G.2.1 d_Mo_fieldLine_231 hl (k := 8) rfl rfl (by decide) rfl (fun ls hl => ?_)
                    refine lv_goto (tgt := 197) G.1 G.2.1 d_Mo_fieldLine_234 (by decide) ?_
                    have h := hK_197 y_j228 s_76 d_j228 e_j228 x1j228 x3j228 x4j228 x5j228 x6j228 x7j228 x8j228 (x9j228 + 1) h
                    exact ih_197 y_j228 s_76 d_j228 e_j228 x1j228 x3j228 x4j228 x5j228 x6j228 x7j228 x8j228 (x9j228 + 1) (Nat.lt_of_lt_of_le h.2 (Nat.le_of_lt_succ hμ_197)) h.1 H locs hP hD hS ls (lv_sub hl [1, 2, 3, 4, 5, 6, 7, 8, 0] rfl)
                  refine lv_icmp_ne (tgt := 227) G.1 G.2.1 d_Mo_fieldLine_220 (by decide) (fun c220 => ?_) (fun c220 => ?_)
                  · skip
                    have h := h.1 c220
                    refine lv_iconst (v := 0) G.1 G.2.1 d_Mo_fieldLine_227 (by decide) ?_
                    exact J_228 y_h197 s_h197 d_h197 e_h197 x1h197 x3h197 x4h197 x5h197 x6h197 x7h197 x8h197 x9h197 3 0 H locs h hP hD hS ls (lv_sub hl [0, 1, 2, 3, 4, 5, 6, 7, 8] rfl)
                  · skip
                    have h := h.2 c220
                    refine lv_iconst (v := 1) G.1 G.2.1 d_Mo_fieldLine_223 (by decide) ?_
                    refine lv_goto (tgt := 228) G.1 G.2.1 d_Mo_fieldLine_224 (by decide) ?_
                    exact J_228 y_h197 s_h197 d_h197 e_h197 x1h197 x3h197 x4h197 x5h197 x6h197 x7h197 x8h197 x9h197 3 1 H locs h hP hD hS ls (lv_sub hl [0, 1, 2, 3, 4, 5, 6, 7, 8] rfl)
            exact L_197 _ y_20 s_19 (d_j166 + d_21) (e_j166 + e_22) x1j166 x3j166 x4j166 x5j166 x6j166 x_29 (8 * (sV s_19 a0 53)) 0 (Nat.lt_succ_self _) hI_197 H locs hP hD hS ls (lv_sub hl [3, 4, 5, 6, 7, 8, 2, 1, 0] rfl)
          refine lv_if_eq (tgt := 166) G.1 G.2.1 d_Mo_fieldLine_141 (by decide) (fun c141 => ?_) (fun c141 => ?_)
          · skip
            have h := h.1 c141
            exact J_166 y_j134 s_j134 d_j134 e_j134 x1j134 x3j134 x4j134 z0j134 0 H locs h hP hD hS ls (lv_sub hl [2, 3, 4, 5, 1, 0] rfl)
          · skip
            have h := h.2 c141
            refine lv_aload_n G.1 G.2.1 d_Mo_fieldLine_144 rfl (lv_at hl 2 rfl) ?_
            refine lv_dup G.1 G.2.1 d_Mo_fieldLine_145 rfl ?_
            refine ugf (v := .int (sV s_j134 a0 43)) G hP h_a0 iMo rfl 43 (by decide) rfl q3107 rfl rfl d_Mo_fieldLine_146 ?_
            refine lv_iconst (v := 1) G.1 G.2.1 d_Mo_fieldLine_149 (by decide) ?_
            refine lv_iadd G.1 G.2.1 d_Mo_fieldLine_150 ?_
            refine upf G hP hD hS h 43 putV h_a0 iMo tMo tMo_ok nMo rfl (by decide) rfl q3107 rfl rfl fV rfl rfl d_Mo_fieldLine_151 (fun s_77 H locs h hP hD hS => ?_)
            refine W.eq (g2 := F0 m 154 ls []) rfl ?_
            refine lv_aload_n G.1 G.2.1 d_Mo_fieldLine_154 rfl (lv_at hl 2 rfl) ?_
            refine lv_ldcw (v := (-2147483648)) G.1 G.2.1 G.2.2.2.2.2.2.1 (G.2.2.2.2.2.1 _ q3534) d_Mo_fieldLine_155 ?_
            refine lv_ldcw (v := 2147483647) G.1 G.2.1 G.2.2.2.2.2.2.1 (G.2.2.2.2.2.1 _ q3591) d_Mo_fieldLine_158 ?_
            obtain ⟨mc_83, ms_84, hr_85, h⟩ := h
            refine uxVi (As := [.int (-2147483648), .int 2147483647]) (rest := []) G hP hD hS (cx_Mo_numberIn l D g ad mc_83 ms_84 y_j134 _ _ s_77 a0 (-2147483648) 2147483647 H.size (us H) h_a0 h) (fun _ h => absurd h List.not_mem_nil) w9_Mo_numberIn q3592 ⟨Nat.le_of_ble_eq_true rfl, Nat.le_of_ble_eq_true rfl⟩ rfl rfl h_a0 (q := (RMo, TMo, 131)) rfl rfl hl.1 rfl (Nat.le_of_ble_eq_true rfl) rfl hr_85 d_Mo_fieldLine_161 (fun y_80 s_79 d_81 e_82 H locs q9 ce h hP hD hS hce hcv hcl => ?_) (fun r_78 y_80 s_79 d_81 e_82 H locs h hP hD hS => ?_)
            · skip
              obtain ⟨hd, h⟩ := h
              exact hretX h hP hD hS hd.1 hd.2 hce hcv hcl
            have hl := lv_sub (l' := [(5, .int z0j134), (0, .ref (ad a0)), (1, .int x1j134), (3, .int x3j134), (4, .int x4j134)]) hl [1, 2, 3, 4, 5] rfl
            obtain ⟨hd, h⟩ := h
            refine lv_istore (lv' := [(6, .int r_78), (5, .int z0j134), (0, .ref (ad a0)), (1, .int x1j134), (3, .int x3j134), (4, .int x4j134)]) G.1 G.2.1 d_Mo_fieldLine_164 hl (by decide) rfl (fun ls hl => ?_)
            exact J_166 y_80 s_79 (d_j134 + d_81) (e_j134 + e_82) x1j134 x3j134 x4j134 z0j134 r_78 H locs h hP hD hS ls (lv_sub hl [2, 3, 4, 5, 1, 0] rfl)
        refine lv_icmp_ne (tgt := 133) G.1 G.2.1 d_Mo_fieldLine_126 (by decide) (fun c126 => ?_) (fun c126 => ?_)
        · skip
          have h := h.1 c126
          refine lv_iconst (v := 0) G.1 G.2.1 d_Mo_fieldLine_133 (by decide) ?_
          exact J_134 y_11 s_10 (d_h4 + d_4 + d_12) (e_h4 + e_5 + e_13) x1h4 r_1 r_9 0 H locs h hP hD hS ls (lv_sub hl [2, 3, 1, 0] rfl)
        · skip
          have h := h.2 c126
          refine lv_iconst (v := 1) G.1 G.2.1 d_Mo_fieldLine_129 (by decide) ?_
          refine lv_goto (tgt := 134) G.1 G.2.1 d_Mo_fieldLine_130 (by decide) ?_
          exact J_134 y_11 s_10 (d_h4 + d_4 + d_12) (e_h4 + e_5 + e_13) x1h4 r_1 r_9 1 H locs h hP hD hS ls (lv_sub hl [2, 3, 1, 0] rfl)
      · skip
        have h := h.2 c5
        refine lv_aload_n G.1 G.2.1 d_Mo_fieldLine_8 rfl (lv_at hl 0 rfl) ?_
        refine lv_aload_n G.1 G.2.1 d_Mo_fieldLine_9 rfl (lv_at hl 0 rfl) ?_
        refine ugf (v := .int (sV s_h4 a0 29)) G hP h_a0 iMo rfl 29 (by decide) rfl q3093 rfl rfl d_Mo_fieldLine_10 ?_
        refine ucVi (As := [.int (sV s_h4 a0 29)]) (rest := []) G hP hD hS (cu_Mo_isWord l D g ad y_h4 _ s_h4 a0 (sV s_h4 a0 29) H.size h_a0 h) w9_Mo_isWord q3522 ⟨Nat.le_of_ble_eq_true rfl, Nat.le_of_ble_eq_true rfl⟩ rfl rfl h_a0 (q := (RMo, TMo, 131)) rfl rfl hl.1 rfl (Nat.le_of_ble_eq_true rfl) rfl hd d_Mo_fieldLine_13 (fun r_86 s_87 H locs h hP hD hS => ?_)
        have J_54 : ∀ (y_j54 : Ly) (s_j54 : St) (d_j54 e_j54 : Nat) (x1j54 : Int32) (z0j54 : Int32) (H : Heap) (locs : List Loc), wja_Mo_fieldLine_54 mc ms Post PX K_4 a0 y_j54 s_j54 d_j54 e_j54 x1j54 z0j54 → va_P D CL (ws g ad y_j54 s_j54) H → va_D A (ws g ad y_j54 s_j54) → va_S A s.heap H locs → ∀ ls, lv_has ls 10 [(0, .ref (ad a0)), (1, .int x1j54)] → W p l e (ra_Mo_fieldLine mc ms) s m args below meth c H locs d_j54 e_j54 Q (F0 m 54 ls [.int z0j54]) := by
          intro y_j54 s_j54 d_j54 e_j54 x1j54 z0j54 H locs h hP hD hS ls hl
          unfold wja_Mo_fieldLine_54 at h
          obtain ⟨hd, h⟩ := h
          refine lv_istore_n (lv' := [(3, .int z0j54), (0, .ref (ad a0)), (1, .int x1j54)]) G.1 G.2.1 d_Mo_fieldLine_54 rfl hl (by decide) rfl (fun ls hl => ?_)
          refine lv_iload_n G.1 G.2.1 d_Mo_fieldLine_55 rfl (lv_at hl 0 rfl) ?_
          have J_70 : ∀ (y_j70 : Ly) (s_j70 : St) (d_j70 e_j70 : Nat) (x1j70 : Int32) (x3j70 : Int32) (z0j70 : Int32) (H : Heap) (locs : List Loc), wja_Mo_fieldLine_70 mc ms Post PX K_4 a0 y_j70 s_j70 d_j70 e_j70 x1j70 x3j70 z0j70 → va_P D CL (ws g ad y_j70 s_j70) H → va_D A (ws g ad y_j70 s_j70) → va_S A s.heap H locs → ∀ ls, lv_has ls 10 [(0, .ref (ad a0)), (1, .int x1j70), (3, .int x3j70)] → W p l e (ra_Mo_fieldLine mc ms) s m args below meth c H locs d_j70 e_j70 Q (F0 m 70 ls [.int z0j70]) := by
            intro y_j70 s_j70 d_j70 e_j70 x1j70 x3j70 z0j70 H locs h hP hD hS ls hl
            unfold wja_Mo_fieldLine_70 at h
            obtain ⟨hd, h⟩ := h
            refine lv_istore_n (lv' := [(2, .int z0j70), (0, .ref (ad a0)), (1, .int x1j70), (3, .int x3j70)]) G.1 G.2.1 d_Mo_fieldLine_70 rfl hl (by decide) rfl (fun ls hl => ?_)
            refine lv_iload_n G.1 G.2.1 d_Mo_fieldLine_71 rfl (lv_at hl 2 rfl) ?_
            refine lv_iload_n G.1 G.2.1 d_Mo_fieldLine_72 rfl (lv_at hl 0 rfl) ?_
            have J_81 : ∀ (y_j81 : Ly) (s_j81 : St) (d_j81 e_j81 : Nat) (x2j81 : Int32) (z0j81 : Int32) (z1j81 : Int32) (H : Heap) (locs : List Loc), wja_Mo_fieldLine_81 mc ms Post PX K_4 a0 y_j81 s_j81 d_j81 e_j81 x2j81 z0j81 z1j81 → va_P D CL (ws g ad y_j81 s_j81) H → va_D A (ws g ad y_j81 s_j81) → va_S A s.heap H locs → ∀ ls, lv_has ls 10 [(0, .ref (ad a0)), (2, .int x2j81)] → W p l e (ra_Mo_fieldLine mc ms) s m args below meth c H locs d_j81 e_j81 Q (F0 m 81 ls [.int z1j81, .int z0j81]) := by
              intro y_j81 s_j81 d_j81 e_j81 x2j81 z0j81 z1j81 H locs h hP hD hS ls hl
              unfold wja_Mo_fieldLine_81 at h
              obtain ⟨hd, h⟩ := h
              refine lv_ior G.1 G.2.1 d_Mo_fieldLine_81 ?_
              refine lv_istore_n (lv' := [(1, .int (z0j81 ||| z1j81)), (0, .ref (ad a0)), (2, .int x2j81)]) G.1 G.2.1 d_Mo_fieldLine_82 rfl hl (by decide) rfl (fun ls hl => ?_)
              refine lv_aload_n G.1 G.2.1 d_Mo_fieldLine_83 rfl (lv_at hl 1 rfl) ?_
              refine lv_dup G.1 G.2.1 d_Mo_fieldLine_84 rfl ?_
              refine ugf (v := .int (sV s_j81 a0 43)) G hP h_a0 iMo rfl 43 (by decide) rfl q3107 rfl rfl d_Mo_fieldLine_85 ?_
              refine lv_iload_n G.1 G.2.1 d_Mo_fieldLine_88 rfl (lv_at hl 2 rfl) ?_
              have J_97 : ∀ (y_j97 : Ly) (s_j97 : St) (d_j97 e_j97 : Nat) (x1j97 : Int32) (x2j97 : Int32) (z1j97 : Int32) (z2j97 : Int32) (H : Heap) (locs : List Loc), wja_Mo_fieldLine_97 mc ms Post PX K_4 a0 y_j97 s_j97 d_j97 e_j97 x1j97 x2j97 z1j97 z2j97 → va_P D CL (ws g ad y_j97 s_j97) H → va_D A (ws g ad y_j97 s_j97) → va_S A s.heap H locs → ∀ ls, lv_has ls 10 [(0, .ref (ad a0)), (1, .int x1j97), (2, .int x2j97)] → W p l e (ra_Mo_fieldLine mc ms) s m args below meth c H locs d_j97 e_j97 Q (F0 m 97 ls [.int z2j97, .int z1j97, .ref (ad a0)]) := by
                intro y_j97 s_j97 d_j97 e_j97 x1j97 x2j97 z1j97 z2j97 H locs h hP hD hS ls hl
                unfold wja_Mo_fieldLine_97 at h
                obtain ⟨hd, h⟩ := h
                refine lv_iadd G.1 G.2.1 d_Mo_fieldLine_97 ?_
                refine upf G hP hD hS h 43 putV h_a0 iMo tMo tMo_ok nMo rfl (by decide) rfl q3107 rfl rfl fV rfl rfl d_Mo_fieldLine_98 (fun s_88 H locs h hP hD hS => ?_)
                refine lv_goto (tgt := 4) G.1 G.2.1 d_Mo_fieldLine_101 (by decide) ?_
                have h := hK_4 y_j97 s_88 d_j97 e_j97 x1j97 x2j97 h
                exact ih_4 y_j97 s_88 d_j97 e_j97 x1j97 x2j97 (Nat.lt_of_lt_of_le h.2 (Nat.le_of_lt_succ hμ_4)) h.1 H locs hP hD hS ls (lv_sub hl [0, 1, 2] rfl)
              refine lv_if_eq (tgt := 96) G.1 G.2.1 d_Mo_fieldLine_89 (by decide) (fun c89 => ?_) (fun c89 => ?_)
              · skip
                have h := h.1 c89
                refine lv_iconst (v := 0) G.1 G.2.1 d_Mo_fieldLine_96 (by decide) ?_
                exact J_97 y_j81 s_j81 d_j81 e_j81 (z0j81 ||| z1j81) x2j81 (sV s_j81 a0 43) 0 H locs h hP hD hS ls (lv_sub hl [1, 0, 2] rfl)
              · skip
                have h := h.2 c89
                refine lv_iconst (v := 1) G.1 G.2.1 d_Mo_fieldLine_92 (by decide) ?_
                refine lv_goto (tgt := 97) G.1 G.2.1 d_Mo_fieldLine_93 (by decide) ?_
                exact J_97 y_j81 s_j81 d_j81 e_j81 (z0j81 ||| z1j81) x2j81 (sV s_j81 a0 43) 1 H locs h hP hD hS ls (lv_sub hl [1, 0, 2] rfl)
            refine lv_if_eq (tgt := 80) G.1 G.2.1 d_Mo_fieldLine_73 (by decide) (fun c73 => ?_) (fun c73 => ?_)
            · skip
              have h := h.1 c73
              refine lv_iconst (v := 0) G.1 G.2.1 d_Mo_fieldLine_80 (by decide) ?_
              exact J_81 y_j70 s_j70 d_j70 e_j70 z0j70 x1j70 0 H locs h hP hD hS ls (lv_sub hl [1, 0] rfl)
            · skip
              have h := h.2 c73
              refine lv_iload_n G.1 G.2.1 d_Mo_fieldLine_76 rfl (lv_at hl 3 rfl) ?_
              refine lv_goto (tgt := 81) G.1 G.2.1 d_Mo_fieldLine_77 (by decide) ?_
              exact J_81 y_j70 s_j70 d_j70 e_j70 z0j70 x1j70 x3j70 H locs h hP hD hS ls (lv_sub hl [1, 0] rfl)
          have J_69 : ∀ (y_j69 : Ly) (s_j69 : St) (d_j69 e_j69 : Nat) (x1j69 : Int32) (x3j69 : Int32) (H : Heap) (locs : List Loc), wja_Mo_fieldLine_69 mc ms Post PX K_4 a0 y_j69 s_j69 d_j69 e_j69 x1j69 x3j69 → va_P D CL (ws g ad y_j69 s_j69) H → va_D A (ws g ad y_j69 s_j69) → va_S A s.heap H locs → ∀ ls, lv_has ls 10 [(0, .ref (ad a0)), (1, .int x1j69), (3, .int x3j69)] → W p l e (ra_Mo_fieldLine mc ms) s m args below meth c H locs d_j69 e_j69 Q (F0 m 69 ls []) := by
            intro y_j69 s_j69 d_j69 e_j69 x1j69 x3j69 H locs h hP hD hS ls hl
            unfold wja_Mo_fieldLine_69 at h
            obtain ⟨hd, h⟩ := h
            refine lv_iconst (v := 0) G.1 G.2.1 d_Mo_fieldLine_69 (by decide) ?_
            exact J_70 y_j69 s_j69 d_j69 e_j69 x1j69 x3j69 0 H locs h hP hD hS ls (lv_sub hl [0, 1, 2] rfl)
          refine lv_if_eq (tgt := 69) G.1 G.2.1 d_Mo_fieldLine_56 (by decide) (fun c56 => ?_) (fun c56 => ?_)
          · skip
            have h := h.1 c56
            exact J_69 y_j54 s_j54 d_j54 e_j54 x1j54 z0j54 H locs h hP hD hS ls (lv_sub hl [1, 2, 0] rfl)
          · skip
            have h := h.2 c56
            refine lv_iload_n G.1 G.2.1 d_Mo_fieldLine_59 rfl (lv_at hl 2 rfl) ?_
            refine lv_iload_n G.1 G.2.1 d_Mo_fieldLine_60 rfl (lv_at hl 0 rfl) ?_
            refine lv_iand G.1 G.2.1 d_Mo_fieldLine_61 ?_
            refine lv_if_ne (tgt := 69) G.1 G.2.1 d_Mo_fieldLine_62 (by decide) (fun c62 => ?_) (fun c62 => ?_)
            · skip
              have h := h.1 c62
              exact J_69 y_j54 s_j54 d_j54 e_j54 x1j54 z0j54 H locs h hP hD hS ls (lv_sub hl [1, 2, 0] rfl)
            · skip
              have h := h.2 c62
              refine lv_iconst (v := 1) G.1 G.2.1 d_Mo_fieldLine_65 (by decide) ?_
              refine lv_goto (tgt := 70) G.1 G.2.1 d_Mo_fieldLine_66 (by decide) ?_
              exact J_70 y_j54 s_j54 d_j54 e_j54 x1j54 z0j54 1 H locs h hP hD hS ls (lv_sub hl [1, 2, 0] rfl)
        refine lv_if_eq (tgt := 23) G.1 G.2.1 d_Mo_fieldLine_16 (by decide) (fun c16 => ?_) (fun c16 => ?_)
        · skip
          have h := h.1 c16
          refine lv_aload_n G.1 G.2.1 d_Mo_fieldLine_23 rfl (lv_at hl 0 rfl) ?_
          refine lv_aload_n G.1 G.2.1 d_Mo_fieldLine_24 rfl (lv_at hl 0 rfl) ?_
          refine ugf (v := .int (sV s_87 a0 10)) G hP h_a0 iMo rfl 10 (by decide) rfl q3074 rfl rfl d_Mo_fieldLine_25 ?_
          refine ucVi (As := [.int (sV s_87 a0 10)]) (rest := []) G hP hD hS (cu_Mo_isWord l D g ad y_h4 _ s_87 a0 (sV s_87 a0 10) H.size h_a0 h) w9_Mo_isWord q3522 ⟨Nat.le_of_ble_eq_true rfl, Nat.le_of_ble_eq_true rfl⟩ rfl rfl h_a0 (q := (RMo, TMo, 131)) rfl rfl hl.1 rfl (Nat.le_of_ble_eq_true rfl) rfl hd d_Mo_fieldLine_28 (fun r_89 s_90 H locs h hP hD hS => ?_)
          refine W.eq (g2 := F0 m 31 ls [.int r_89]) rfl ?_
          refine lv_if_eq (tgt := 38) G.1 G.2.1 d_Mo_fieldLine_31 (by decide) (fun c31 => ?_) (fun c31 => ?_)
          · skip
            have h := h.1 c31
            refine lv_aload_n G.1 G.2.1 d_Mo_fieldLine_38 rfl (lv_at hl 0 rfl) ?_
            refine lv_aload_n G.1 G.2.1 d_Mo_fieldLine_39 rfl (lv_at hl 0 rfl) ?_
            refine ugf (v := .int (sV s_90 a0 15)) G hP h_a0 iMo rfl 15 (by decide) rfl q3079 rfl rfl d_Mo_fieldLine_40 ?_
            refine ucVi (As := [.int (sV s_90 a0 15)]) (rest := []) G hP hD hS (cu_Mo_isWord l D g ad y_h4 _ s_90 a0 (sV s_90 a0 15) H.size h_a0 h) w9_Mo_isWord q3522 ⟨Nat.le_of_ble_eq_true rfl, Nat.le_of_ble_eq_true rfl⟩ rfl rfl h_a0 (q := (RMo, TMo, 131)) rfl rfl hl.1 rfl (Nat.le_of_ble_eq_true rfl) rfl hd d_Mo_fieldLine_43 (fun r_91 s_92 H locs h hP hD hS => ?_)
            refine lv_if_eq (tgt := 53) G.1 G.2.1 d_Mo_fieldLine_46 (by decide) (fun c46 => ?_) (fun c46 => ?_)
            · skip
              have h := h.1 c46
              refine lv_iconst (v := 0) G.1 G.2.1 d_Mo_fieldLine_53 (by decide) ?_
              exact J_54 y_h4 s_92 d_h4 e_h4 x1h4 0 H locs h hP hD hS ls (lv_sub hl [0, 1] rfl)
            · skip
              have h := h.2 c46
              refine lv_iconst (v := 4) G.1 G.2.1 d_Mo_fieldLine_49 (by decide) ?_
              refine lv_goto (tgt := 54) G.1 G.2.1 d_Mo_fieldLine_50 (by decide) ?_
              exact J_54 y_h4 s_92 d_h4 e_h4 x1h4 4 H locs h hP hD hS ls (lv_sub hl [0, 1] rfl)
          · skip
            have h := h.2 c31
            refine lv_iconst (v := 2) G.1 G.2.1 d_Mo_fieldLine_34 (by decide) ?_
            refine lv_goto (tgt := 54) G.1 G.2.1 d_Mo_fieldLine_35 (by decide) ?_
            exact J_54 y_h4 s_90 d_h4 e_h4 x1h4 2 H locs h hP hD hS ls (lv_sub hl [0, 1] rfl)
        · skip
          have h := h.2 c16
          refine lv_iconst (v := 1) G.1 G.2.1 d_Mo_fieldLine_19 (by decide) ?_
          refine lv_goto (tgt := 54) G.1 G.2.1 d_Mo_fieldLine_20 (by decide) ?_
          exact J_54 y_h4 s_87 d_h4 e_h4 x1h4 1 H locs h hP hD hS ls (lv_sub hl [0, 1] rfl)
  exact L_4 _ y σ 0 0 0 1 (Nat.lt_succ_self _) hI_4 H locs hP hD hS ls (lv_sub hl [2, 1, 0] rfl)
def y_Mo_addType : MethodName := ⟨"ClassWorksModel", "addType", "()V"⟩
abbrev b_Mo_addType : ByteArray := prog_14_method_31_code
theorem q3119 : Cond.fieldLink "ClassWorksModel" 277 "ClassWorksModel" "typeRow" "[I" ∈ lw_ok := lw_okmem (List.mem_of_getElem? (i := 3119) (by decide +kernel)) rfl
theorem q3120 : Cond.fieldLink "ClassWorksModel" 557 "ClassWorksModel" "typeCount" "I" ∈ lw_ok := lw_okmem (List.mem_of_getElem? (i := 3120) (by decide +kernel)) rfl
theorem d_Mo_addType_0 : decode b_Mo_addType 0 = .ok (.aload_n 0, 1) := by decide +kernel
theorem d_Mo_addType_1 : decode b_Mo_addType 1 = .ok (.aload_n 0, 1) := by decide +kernel
theorem d_Mo_addType_2 : decode b_Mo_addType 2 = .ok (.getfield 277, 3) := by decide +kernel
theorem d_Mo_addType_5 : decode b_Mo_addType 5 = .ok (.aload_n 0, 1) := by decide +kernel
theorem d_Mo_addType_6 : decode b_Mo_addType 6 = .ok (.getfield 557, 3) := by decide +kernel
theorem d_Mo_addType_9 : decode b_Mo_addType 9 = .ok (.iconst 1, 1) := by decide +kernel
theorem d_Mo_addType_10 : decode b_Mo_addType 10 = .ok (.iadd, 1) := by decide +kernel
theorem d_Mo_addType_11 : decode b_Mo_addType 11 = .ok (.invokestatic 43, 3) := by decide +kernel
theorem d_Mo_addType_14 : decode b_Mo_addType 14 = .ok (.putfield 277, 3) := by decide +kernel
theorem d_Mo_addType_17 : decode b_Mo_addType 17 = .ok (.aload_n 0, 1) := by decide +kernel
theorem d_Mo_addType_18 : decode b_Mo_addType 18 = .ok (.getfield 277, 3) := by decide +kernel
theorem d_Mo_addType_21 : decode b_Mo_addType 21 = .ok (.aload_n 0, 1) := by decide +kernel
theorem d_Mo_addType_22 : decode b_Mo_addType 22 = .ok (.getfield 557, 3) := by decide +kernel
theorem d_Mo_addType_25 : decode b_Mo_addType 25 = .ok (.aload_n 0, 1) := by decide +kernel
theorem d_Mo_addType_26 : decode b_Mo_addType 26 = .ok (.invokevirtual 563, 3) := by decide +kernel
theorem d_Mo_addType_29 : decode b_Mo_addType 29 = .ok (.iastore, 1) := by decide +kernel
theorem d_Mo_addType_30 : decode b_Mo_addType 30 = .ok (.aload_n 0, 1) := by decide +kernel
theorem d_Mo_addType_31 : decode b_Mo_addType 31 = .ok (.dup, 1) := by decide +kernel
theorem d_Mo_addType_32 : decode b_Mo_addType 32 = .ok (.getfield 557, 3) := by decide +kernel
theorem d_Mo_addType_35 : decode b_Mo_addType 35 = .ok (.iconst 1, 1) := by decide +kernel
theorem d_Mo_addType_36 : decode b_Mo_addType 36 = .ok (.iadd, 1) := by decide +kernel
theorem d_Mo_addType_37 : decode b_Mo_addType 37 = .ok (.putfield 557, 3) := by decide +kernel
theorem d_Mo_addType_40 : decode b_Mo_addType 40 = .ok (.return_, 1) := by decide +kernel
abbrev ra_Mo_addType (mc ms : Nat) : Room := { frames := 5, cells := mc, slots := ms, locals := 150 }
def wx_Mo_addType (mc ms : Nat) (y : Ly) (Post : Ly → St → Nat → Nat → Prop) (PX : Ly → St → Nat → Nat → Prop) (σ : St) (a0 : Nat) : Prop := xR mc ms 0 0 .int y σ a0 55 ((sV σ a0 56) + 1) (fun (y_1 : Ly) (s_2 : St) (d_3 e_4 : Nat) => (d_3 ≤ mc ∧ e_4 ≤ ms) ∧ ∃ mc_10 ms_11 : Nat, (d_3 + mc_10 ≤ mc ∧ e_4 + ms_11 ≤ ms) ∧ wx_Mo_type mc_10 ms_11 y_1 (fun (y_7 : Ly) (s_6 : St) (r_5 : Int32) (d_8 e_9 : Nat) => (d_3 + d_8 ≤ mc ∧ e_4 + e_9 ≤ ms) ∧ yP y_1 a0 55 = yP y_7 a0 55 ∧ xS y_7 s_6 a0 55 (sV s_2 a0 56) r_5 (fun s_14 : St => xP (uV s_14 a0 56 ((sV s_14 a0 56) + 1)) (fun s_15 : St => Post y_7 s_15 (d_3 + d_8) (e_4 + e_9)))) (fun (y_7 : Ly) (s_6 : St) (d_8 e_9 : Nat) => ((d_3 + d_8 ≤ mc ∧ e_4 + e_9 ≤ ms) ∧ PX y_7 s_6 (d_3 + d_8) (e_4 + e_9))) s_2 a0)
set_option maxHeartbeats 4000000 in
set_option maxRecDepth 100000 in
theorem cx_Mo_addType (l : Launch) (D : va_G) (g : Nat → ClassId) (ad : Nat → Nat) (mc ms : Nat) (y : Ly) (Post : Ly → St → Nat → Nat → Prop) (PX : Ly → St → Nat → Nat → Prop) (σ : St) (a0 : Nat) (sz uz : Nat) (h_a0 : cl a0 = 14) (h : wx_Mo_addType mc ms y Post PX σ a0) : vx_Met l y_Mo_addType (mw y_Mo_addType b_Mo_addType 1 (none)) (ra_Mo_addType mc ms) (PCu g D [] [.ref (ad a0)] sz uz (ws g ad y σ)) (va_Qv (fun (u : Ly × St × Nat × Nat) => Post u.1 u.2.1 u.2.2.1 u.2.2.2) (QU D (va_A (ws g ad y σ) sz) (fun u => ws g ad u.1 u.2.1) sz uz (fun u => u.2.2.1) (fun u => u.2.2.2)) (va_A (ws g ad y σ) sz)) (XQ D g ad (va_A (ws g ad y σ) sz) sz uz PX) mc ms (va_A (ws g ad y σ) sz) := by
  refine ofVx (by decide +kernel) (Nat.le_of_ble_eq_true rfl) ?_
  intro p e s m args below meth c A Q ls H locs G hsz hP hD hS hl hret hretX
  subst hsz
  have hl : lv_has ls 1 [(0, .ref (ad a0))] := hl
  have hd : 0 ≤ mc ∧ 0 ≤ ms := ⟨Nat.zero_le _, Nat.zero_le _⟩
  unfold wx_Mo_addType at h
  refine lv_aload_n G.1 G.2.1 d_Mo_addType_0 rfl (lv_at hl 0 rfl) ?_
  refine lv_aload_n G.1 G.2.1 d_Mo_addType_1 rfl (lv_at hl 0 rfl) ?_
  refine ugf (v := .ref (yP y a0 55)) G hP h_a0 iMo rfl 55 (by decide) rfl q3119 rfl rfl d_Mo_addType_2 ?_
  refine lv_aload_n G.1 G.2.1 d_Mo_addType_5 rfl (lv_at hl 0 rfl) ?_
  refine ugf (v := .int (sV σ a0 56)) G hP h_a0 iMo rfl 56 (by decide) rfl q3120 rfl rfl d_Mo_addType_6 ?_
  refine lv_iconst (v := 1) G.1 G.2.1 d_Mo_addType_9 (by decide) ?_
  refine lv_iadd G.1 G.2.1 d_Mo_addType_10 ?_
  refine uroom (C := RMo) (T := TMo) (N := 131) G hP hD hS (fun ws0 q1 q t n f sz he ht hn => c_Mo_room_k l D g ws0 q1 q t n f sz he ht hn) (fun ws0 q1 q t n f sz he hn ht hf => c_Mo_room_g l D g ws0 q1 q t n f sz he hn ht hf) w9_Mo_room q2596 ⟨Nat.le_of_ble_eq_true rfl, Nat.le_of_ble_eq_true rfl⟩ (Nat.le_refl _) (Nat.le_refl _) hd (by decide) h_a0 rfl rfl iMo tMo tMo_ok nMo rfl (by decide) q3119 rfl rfl (fun _ => rfl) (fun _ => rfl) hl.1 (Nat.le_of_ble_eq_true rfl) h d_Mo_addType_11 d_Mo_addType_14 (fun y_1 s_2 d_3 e_4 H locs h hP hD hS => ?_)
  obtain ⟨hd, h⟩ := h
  refine lv_aload_n G.1 G.2.1 d_Mo_addType_17 rfl (lv_at hl 0 rfl) ?_
  refine ugf (v := .ref (yP y_1 a0 55)) G hP h_a0 iMo rfl 55 (by decide) rfl q3119 rfl rfl d_Mo_addType_18 ?_
  refine lv_aload_n G.1 G.2.1 d_Mo_addType_21 rfl (lv_at hl 0 rfl) ?_
  refine W.eq (g2 := F0 m 22 ls [.ref (ad a0), .ref (yP y_1 a0 55)]) rfl ?_
  refine ugf (v := .int (sV s_2 a0 56)) G hP h_a0 iMo rfl 56 (by decide) rfl q3120 rfl rfl d_Mo_addType_22 ?_
  refine lv_aload_n G.1 G.2.1 d_Mo_addType_25 rfl (lv_at hl 0 rfl) ?_
  obtain ⟨mc_10, ms_11, hr_12, h⟩ := h
  refine uxVi (As := []) (rest := [.int (sV s_2 a0 56), .ref (yP y_1 a0 55)]) G hP hD hS (cx_Mo_type l D g ad mc_10 ms_11 y_1 _ _ s_2 a0 H.size (us H) h_a0 h) (fun _ h => absurd h List.not_mem_nil) w9_Mo_type q3587 ⟨Nat.le_of_ble_eq_true rfl, Nat.le_of_ble_eq_true rfl⟩ rfl rfl h_a0 (q := (RMo, TMo, 131)) rfl rfl hl.1 rfl (Nat.le_of_ble_eq_true rfl) rfl hr_12 d_Mo_addType_26 (fun y_7 s_6 d_8 e_9 H locs q9 ce h hP hD hS hce hcv hcl => ?_) (fun r_5 y_7 s_6 d_8 e_9 H locs h hP hD hS => ?_)
  · skip
    obtain ⟨hd, h⟩ := h
    exact hretX h hP hD hS hd.1 hd.2 hce hcv hcl
  obtain ⟨hd, h⟩ := h
  obtain ⟨n_13, h⟩ := h
  rw [n_13]
  refine uiast G hP hD hS (kdp h_a0 rfl) (typ h_a0 rfl) h d_Mo_addType_29 (fun s_14 H locs h hP hD hS => ?_)
  refine lv_aload_n G.1 G.2.1 d_Mo_addType_30 rfl (lv_at hl 0 rfl) ?_
  refine lv_dup G.1 G.2.1 d_Mo_addType_31 rfl ?_
  refine ugf (v := .int (sV s_14 a0 56)) G hP h_a0 iMo rfl 56 (by decide) rfl q3120 rfl rfl d_Mo_addType_32 ?_
  refine lv_iconst (v := 1) G.1 G.2.1 d_Mo_addType_35 (by decide) ?_
  refine lv_iadd G.1 G.2.1 d_Mo_addType_36 ?_
  refine upf G hP hD hS h 56 putV h_a0 iMo tMo tMo_ok nMo rfl (by decide) rfl q3120 rfl rfl fV rfl rfl d_Mo_addType_37 (fun s_15 H locs h hP hD hS => ?_)
  exact hret (y_7, s_15, d_3 + d_8, e_4 + e_9) _ _ _ _ _ ls h hP hD hS (Nat.le_refl _) (Nat.le_refl _) hd.1 hd.2 d_Mo_addType_40
theorem q2623 : Cond.methodLink "ClassWorksModel" 254 y_Mo_signature ∈ lw_ok := lw_okmem (List.mem_of_getElem? (i := 2623) (by decide +kernel)) rfl
theorem q2626 : Cond.code y_Mo_signature b_Mo_signature 7 (some .int) ∈ lw_ok := lw_okmem (List.mem_of_getElem? (i := 2626) (by decide +kernel)) rfl
theorem q2625 : Cond.instanceMethod y_Mo_signature ∈ lw_ok := lw_okmem (List.mem_of_getElem? (i := 2625) (by decide +kernel)) rfl
theorem q172 : Cond.selects y_Mo_signature.cls y_Mo_signature y_Mo_signature ∈ lw_ok := lw_okmem (List.mem_of_getElem? (i := 172) (by decide +kernel)) rfl
theorem w9_Mo_signature : CWv y_Mo_signature b_Mo_signature 7 (some .int) 3 ∧ Cond.instanceMethod y_Mo_signature ∈ lw_ok ∧ Cond.selects y_Mo_signature.cls y_Mo_signature y_Mo_signature ∈ lw_ok := ⟨⟨q2626, q348, by decide +kernel, by decide +kernel, by decide +kernel⟩, q2625, q172⟩
theorem q3604 : Cond.methodLink "ClassWorksModel" 560 y_Mo_addType ∈ lw_ok := lw_okmem (List.mem_of_getElem? (i := 3604) (by decide +kernel)) rfl
theorem q3607 : Cond.code y_Mo_addType b_Mo_addType 1 (none) ∈ lw_ok := lw_okmem (List.mem_of_getElem? (i := 3607) (by decide +kernel)) rfl
theorem q3606 : Cond.instanceMethod y_Mo_addType ∈ lw_ok := lw_okmem (List.mem_of_getElem? (i := 3606) (by decide +kernel)) rfl
theorem q204 : Cond.selects y_Mo_addType.cls y_Mo_addType y_Mo_addType ∈ lw_ok := lw_okmem (List.mem_of_getElem? (i := 204) (by decide +kernel)) rfl
theorem w9_Mo_addType : CWv y_Mo_addType b_Mo_addType 1 (none) 0 ∧ Cond.instanceMethod y_Mo_addType ∈ lw_ok ∧ Cond.selects y_Mo_addType.cls y_Mo_addType y_Mo_addType ∈ lw_ok := ⟨⟨q3607, q348, by decide +kernel, by decide +kernel, by decide +kernel⟩, q3606, q204⟩
def y_Mo_wholeSignature : MethodName := ⟨"ClassWorksModel", "wholeSignature", "()I"⟩
abbrev b_Mo_wholeSignature : ByteArray := prog_14_method_30_code
theorem d_Mo_wholeSignature_0 : decode b_Mo_wholeSignature 0 = .ok (.aload_n 0, 1) := by decide +kernel
theorem d_Mo_wholeSignature_1 : decode b_Mo_wholeSignature 1 = .ok (.bipush 40, 2) := by decide +kernel
theorem d_Mo_wholeSignature_3 : decode b_Mo_wholeSignature 3 = .ok (.invokevirtual 544, 3) := by decide +kernel
theorem d_Mo_wholeSignature_6 : decode b_Mo_wholeSignature 6 = .ok (.aload_n 0, 1) := by decide +kernel
theorem d_Mo_wholeSignature_7 : decode b_Mo_wholeSignature 7 = .ok (.iconst 0, 1) := by decide +kernel
theorem d_Mo_wholeSignature_8 : decode b_Mo_wholeSignature 8 = .ok (.putfield 557, 3) := by decide +kernel
theorem d_Mo_wholeSignature_11 : decode b_Mo_wholeSignature 11 = .ok (.aload_n 0, 1) := by decide +kernel
theorem d_Mo_wholeSignature_12 : decode b_Mo_wholeSignature 12 = .ok (.getfield 92, 3) := by decide +kernel
theorem d_Mo_wholeSignature_15 : decode b_Mo_wholeSignature 15 = .ok (.aload_n 0, 1) := by decide +kernel
theorem d_Mo_wholeSignature_16 : decode b_Mo_wholeSignature 16 = .ok (.getfield 104, 3) := by decide +kernel
theorem d_Mo_wholeSignature_19 : decode b_Mo_wholeSignature 19 = .ok (.baload, 1) := by decide +kernel
theorem d_Mo_wholeSignature_20 : decode b_Mo_wholeSignature 20 = .ok (.bipush 41, 2) := by decide +kernel
theorem d_Mo_wholeSignature_22 : decode b_Mo_wholeSignature 22 = .ok (.if_icmp .eq 38, 3) := by decide +kernel
theorem d_Mo_wholeSignature_25 : decode b_Mo_wholeSignature 25 = .ok (.aload_n 0, 1) := by decide +kernel
theorem d_Mo_wholeSignature_26 : decode b_Mo_wholeSignature 26 = .ok (.invokevirtual 560, 3) := by decide +kernel
theorem d_Mo_wholeSignature_29 : decode b_Mo_wholeSignature 29 = .ok (.aload_n 0, 1) := by decide +kernel
theorem d_Mo_wholeSignature_30 : decode b_Mo_wholeSignature 30 = .ok (.getfield 92, 3) := by decide +kernel
theorem d_Mo_wholeSignature_33 : decode b_Mo_wholeSignature 33 = .ok (.aload_n 0, 1) := by decide +kernel
theorem d_Mo_wholeSignature_34 : decode b_Mo_wholeSignature 34 = .ok (.getfield 104, 3) := by decide +kernel
theorem d_Mo_wholeSignature_37 : decode b_Mo_wholeSignature 37 = .ok (.baload, 1) := by decide +kernel
theorem d_Mo_wholeSignature_38 : decode b_Mo_wholeSignature 38 = .ok (.bipush 44, 2) := by decide +kernel
theorem d_Mo_wholeSignature_40 : decode b_Mo_wholeSignature 40 = .ok (.if_icmp .ne 20, 3) := by decide +kernel
theorem d_Mo_wholeSignature_43 : decode b_Mo_wholeSignature 43 = .ok (.aload_n 0, 1) := by decide +kernel
theorem d_Mo_wholeSignature_44 : decode b_Mo_wholeSignature 44 = .ok (.dup, 1) := by decide +kernel
theorem d_Mo_wholeSignature_45 : decode b_Mo_wholeSignature 45 = .ok (.getfield 104, 3) := by decide +kernel
theorem d_Mo_wholeSignature_48 : decode b_Mo_wholeSignature 48 = .ok (.iconst 1, 1) := by decide +kernel
theorem d_Mo_wholeSignature_49 : decode b_Mo_wholeSignature 49 = .ok (.iadd, 1) := by decide +kernel
theorem d_Mo_wholeSignature_50 : decode b_Mo_wholeSignature 50 = .ok (.putfield 104, 3) := by decide +kernel
theorem d_Mo_wholeSignature_53 : decode b_Mo_wholeSignature 53 = .ok (.aload_n 0, 1) := by decide +kernel
theorem d_Mo_wholeSignature_54 : decode b_Mo_wholeSignature 54 = .ok (.invokevirtual 560, 3) := by decide +kernel
theorem d_Mo_wholeSignature_57 : decode b_Mo_wholeSignature 57 = .ok (.goto (-28), 3) := by decide +kernel
theorem d_Mo_wholeSignature_60 : decode b_Mo_wholeSignature 60 = .ok (.aload_n 0, 1) := by decide +kernel
theorem d_Mo_wholeSignature_61 : decode b_Mo_wholeSignature 61 = .ok (.bipush 41, 2) := by decide +kernel
theorem d_Mo_wholeSignature_63 : decode b_Mo_wholeSignature 63 = .ok (.invokevirtual 544, 3) := by decide +kernel
theorem d_Mo_wholeSignature_66 : decode b_Mo_wholeSignature 66 = .ok (.aload_n 0, 1) := by decide +kernel
theorem d_Mo_wholeSignature_67 : decode b_Mo_wholeSignature 67 = .ok (.aload_n 0, 1) := by decide +kernel
theorem d_Mo_wholeSignature_68 : decode b_Mo_wholeSignature 68 = .ok (.getfield 277, 3) := by decide +kernel
theorem d_Mo_wholeSignature_71 : decode b_Mo_wholeSignature 71 = .ok (.aload_n 0, 1) := by decide +kernel
theorem d_Mo_wholeSignature_72 : decode b_Mo_wholeSignature 72 = .ok (.getfield 557, 3) := by decide +kernel
theorem d_Mo_wholeSignature_75 : decode b_Mo_wholeSignature 75 = .ok (.aload_n 0, 1) := by decide +kernel
theorem d_Mo_wholeSignature_76 : decode b_Mo_wholeSignature 76 = .ok (.aload_n 0, 1) := by decide +kernel
theorem d_Mo_wholeSignature_77 : decode b_Mo_wholeSignature 77 = .ok (.getfield 217, 3) := by decide +kernel
theorem d_Mo_wholeSignature_80 : decode b_Mo_wholeSignature 80 = .ok (.invokevirtual 541, 3) := by decide +kernel
theorem d_Mo_wholeSignature_83 : decode b_Mo_wholeSignature 83 = .ok (.ifCond .eq 7, 3) := by decide +kernel
theorem d_Mo_wholeSignature_86 : decode b_Mo_wholeSignature 86 = .ok (.iconst 0, 1) := by decide +kernel
theorem d_Mo_wholeSignature_87 : decode b_Mo_wholeSignature 87 = .ok (.goto 7, 3) := by decide +kernel
theorem d_Mo_wholeSignature_90 : decode b_Mo_wholeSignature 90 = .ok (.aload_n 0, 1) := by decide +kernel
theorem d_Mo_wholeSignature_91 : decode b_Mo_wholeSignature 91 = .ok (.invokevirtual 563, 3) := by decide +kernel
theorem d_Mo_wholeSignature_94 : decode b_Mo_wholeSignature 94 = .ok (.invokevirtual 254, 3) := by decide +kernel
theorem d_Mo_wholeSignature_97 : decode b_Mo_wholeSignature 97 = .ok (.ireturn, 1) := by decide +kernel
abbrev ra_Mo_wholeSignature (mc ms : Nat) : Room := { frames := 6, cells := mc, slots := ms, locals := 176 }
def wja_Mo_wholeSignature_94 (mc ms : Nat) (Post : Ly → St → Int32 → Nat → Nat → Prop) (PX : Ly → St → Nat → Nat → Prop) (a0 : Nat) (y_j94 : Ly) (s_j94 : St) (d_j94 e_j94 : Nat) (z2j94 : Int32) (z3j94 : Int32) : Prop := (d_j94 ≤ mc ∧ e_j94 ≤ ms) ∧ ∃ mc_26 ms_27 : Nat, (d_j94 + mc_26 ≤ mc ∧ e_j94 + ms_27 ≤ ms) ∧ wa_Mo_signature mc_26 ms_27 y_j94 (fun (y_23 : Ly) (s_22 : St) (r_21 : Int32) (d_24 e_25 : Nat) => (d_j94 + d_24 ≤ mc ∧ e_j94 + e_25 ≤ ms) ∧ Post y_23 s_22 r_21 (d_j94 + d_24) (e_j94 + e_25)) s_j94 a0 a0 55 z2j94 z3j94
def wja_Mo_wholeSignature_60 (mc ms : Nat) (Post : Ly → St → Int32 → Nat → Nat → Prop) (PX : Ly → St → Nat → Nat → Prop) (a0 : Nat) (y_j60 : Ly) (s_j60 : St) (d_j60 e_j60 : Nat) : Prop := (d_j60 ≤ mc ∧ e_j60 ≤ ms) ∧ ∃ mc_16 ms_17 : Nat, (d_j60 + mc_16 ≤ mc ∧ e_j60 + ms_17 ≤ ms) ∧ wx_Mo_need mc_16 ms_17 y_j60 (fun (y_13 : Ly) (s_12 : St) (d_14 e_15 : Nat) => (d_j60 + d_14 ≤ mc ∧ e_j60 + e_15 ≤ ms) ∧ wu_Mo_takes y_13 (fun (s_20 : St) (r_19 : Int32) => ((r_19 = 0 → ∃ mc_34 ms_35 : Nat, (d_j60 + d_14 + mc_34 ≤ mc ∧ e_j60 + e_15 + ms_35 ≤ ms) ∧ wx_Mo_type mc_34 ms_35 y_13 (fun (y_31 : Ly) (s_30 : St) (r_29 : Int32) (d_32 e_33 : Nat) => (d_j60 + d_14 + d_32 ≤ mc ∧ e_j60 + e_15 + e_33 ≤ ms) ∧ yP y_13 a0 55 = yP y_31 a0 55 ∧ wja_Mo_wholeSignature_94 mc ms Post PX a0 y_31 s_30 (d_j60 + d_14 + d_32) (e_j60 + e_15 + e_33) (sV s_12 a0 56) r_29) (fun (y_31 : Ly) (s_30 : St) (d_32 e_33 : Nat) => ((d_j60 + d_14 + d_32 ≤ mc ∧ e_j60 + e_15 + e_33 ≤ ms) ∧ PX y_31 s_30 (d_j60 + d_14 + d_32) (e_j60 + e_15 + e_33))) s_20 a0) ∧ (¬ (r_19 = 0) → wja_Mo_wholeSignature_94 mc ms Post PX a0 y_13 s_20 (d_j60 + d_14) (e_j60 + e_15) (sV s_12 a0 56) 0))) s_12 a0 (sV s_12 a0 21)) (fun (y_13 : Ly) (s_12 : St) (d_14 e_15 : Nat) => ((d_j60 + d_14 ≤ mc ∧ e_j60 + e_15 ≤ ms) ∧ PX y_13 s_12 (d_j60 + d_14) (e_j60 + e_15))) s_j60 a0 41
def wba_Mo_wholeSignature_29 (mc ms : Nat) (Post : Ly → St → Int32 → Nat → Nat → Prop) (PX : Ly → St → Nat → Nat → Prop) (K_29 : Ly → St → Nat → Nat → Prop) (a0 : Nat) (y_h29 : Ly) (s_h29 : St) (d_h29 e_h29 : Nat) : Prop := (d_h29 ≤ mc ∧ e_h29 ≤ ms) ∧ xA y_h29 s_h29 a0 39 (sV s_h29 a0 43) (fun x_46 : Int32 => ((¬ x_46 = 44 → wja_Mo_wholeSignature_60 mc ms Post PX a0 y_h29 s_h29 d_h29 e_h29) ∧ (x_46 = 44 → xP (uV s_h29 a0 43 ((sV s_h29 a0 43) + 1)) (fun s_47 : St => ∃ mc_53 ms_54 : Nat, (d_h29 + mc_53 ≤ mc ∧ e_h29 + ms_54 ≤ ms) ∧ wx_Mo_addType mc_53 ms_54 y_h29 (fun (y_50 : Ly) (s_49 : St) (d_51 e_52 : Nat) => (d_h29 + d_51 ≤ mc ∧ e_h29 + e_52 ≤ ms) ∧ K_29 y_50 s_49 (d_h29 + d_51) (e_h29 + e_52)) (fun (y_50 : Ly) (s_49 : St) (d_51 e_52 : Nat) => ((d_h29 + d_51 ≤ mc ∧ e_h29 + e_52 ≤ ms) ∧ PX y_50 s_49 (d_h29 + d_51) (e_h29 + e_52))) s_47 a0))))
def wla_Mo_wholeSignature_29 (mc ms : Nat) (Post : Ly → St → Int32 → Nat → Nat → Prop) (PX : Ly → St → Nat → Nat → Prop) (a0 : Nat) (y_h29 : Ly) (s_h29 : St) (d_h29 e_h29 : Nat) : Prop := ∃ (I : Ly → St → Nat → Nat → Prop) (μ : Ly → St → Nat → Nat → Nat), I y_h29 s_h29 d_h29 e_h29 ∧ ∀ (u1 : Ly) (u2 : St) (u3 u4 : Nat), I u1 u2 u3 u4  → wba_Mo_wholeSignature_29 mc ms Post PX (fun z1 z2 z3 z4  => I z1 z2 z3 z4  ∧ μ z1 z2 z3 z4  < μ u1 u2 u3 u4 ) a0 u1 u2 u3 u4
def wx_Mo_wholeSignature (mc ms : Nat) (y : Ly) (Post : Ly → St → Int32 → Nat → Nat → Prop) (PX : Ly → St → Nat → Nat → Prop) (σ : St) (a0 : Nat) : Prop := ∃ mc_6 ms_7 : Nat, (0 + mc_6 ≤ mc ∧ 0 + ms_7 ≤ ms) ∧ wx_Mo_need mc_6 ms_7 y (fun (y_3 : Ly) (s_2 : St) (d_4 e_5 : Nat) => (0 + d_4 ≤ mc ∧ 0 + e_5 ≤ ms) ∧ xP (uV s_2 a0 56 0) (fun s_9 : St => xA y_3 s_9 a0 39 (sV s_9 a0 43) (fun x_10 : Int32 => ((x_10 = 41 → wja_Mo_wholeSignature_60 mc ms Post PX a0 y_3 s_9 (0 + d_4) (0 + e_5)) ∧ (¬ (x_10 = 41) → ∃ mc_43 ms_44 : Nat, (0 + d_4 + mc_43 ≤ mc ∧ 0 + e_5 + ms_44 ≤ ms) ∧ wx_Mo_addType mc_43 ms_44 y_3 (fun (y_40 : Ly) (s_39 : St) (d_41 e_42 : Nat) => (0 + d_4 + d_41 ≤ mc ∧ 0 + e_5 + e_42 ≤ ms) ∧ wla_Mo_wholeSignature_29 mc ms Post PX a0 y_40 s_39 (0 + d_4 + d_41) (0 + e_5 + e_42)) (fun (y_40 : Ly) (s_39 : St) (d_41 e_42 : Nat) => ((0 + d_4 + d_41 ≤ mc ∧ 0 + e_5 + e_42 ≤ ms) ∧ PX y_40 s_39 (0 + d_4 + d_41) (0 + e_5 + e_42))) s_9 a0))))) (fun (y_3 : Ly) (s_2 : St) (d_4 e_5 : Nat) => ((0 + d_4 ≤ mc ∧ 0 + e_5 ≤ ms) ∧ PX y_3 s_2 (0 + d_4) (0 + e_5))) σ a0 40
set_option maxHeartbeats 4000000 in
set_option maxRecDepth 100000 in
theorem cx_Mo_wholeSignature (l : Launch) (D : va_G) (g : Nat → ClassId) (ad : Nat → Nat) (mc ms : Nat) (y : Ly) (Post : Ly → St → Int32 → Nat → Nat → Prop) (PX : Ly → St → Nat → Nat → Prop) (σ : St) (a0 : Nat) (sz uz : Nat) (h_a0 : cl a0 = 14) (h : wx_Mo_wholeSignature mc ms y Post PX σ a0) : vx_Met l y_Mo_wholeSignature (mw y_Mo_wholeSignature b_Mo_wholeSignature 1 (some .int)) (ra_Mo_wholeSignature mc ms) (PCu g D [] [.ref (ad a0)] sz uz (ws g ad y σ)) (va_Qi (fun (r : Int32) (u : Ly × St × Nat × Nat) => Post u.1 u.2.1 r u.2.2.1 u.2.2.2) (QU D (va_A (ws g ad y σ) sz) (fun u => ws g ad u.1 u.2.1) sz uz (fun u => u.2.2.1) (fun u => u.2.2.2)) (va_A (ws g ad y σ) sz)) (XQ D g ad (va_A (ws g ad y σ) sz) sz uz PX) mc ms (va_A (ws g ad y σ) sz) := by
  refine ofIx (by decide +kernel) (Nat.le_of_ble_eq_true rfl) ?_
  intro p e s m args below meth c A Q ls H locs G hsz hP hD hS hl hret hretX
  subst hsz
  have hl : lv_has ls 1 [(0, .ref (ad a0))] := hl
  have hd : 0 ≤ mc ∧ 0 ≤ ms := ⟨Nat.zero_le _, Nat.zero_le _⟩
  unfold wx_Mo_wholeSignature at h
  refine lv_aload_n G.1 G.2.1 d_Mo_wholeSignature_0 rfl (lv_at hl 0 rfl) ?_
  refine lv_bipush (v := 40) G.1 G.2.1 d_Mo_wholeSignature_1 (by decide) ?_
  obtain ⟨mc_6, ms_7, hr_8, h⟩ := h
  refine uxVv (As := [.int 40]) (rest := []) G hP hD hS (cx_Mo_need l D g ad mc_6 ms_7 y _ _ σ a0 40 H.size (us H) h_a0 h) (fun _ h => absurd h List.not_mem_nil) w9_Mo_need q3567 ⟨Nat.le_of_ble_eq_true rfl, Nat.le_of_ble_eq_true rfl⟩ rfl rfl h_a0 (q := (RMo, TMo, 131)) rfl rfl hl.1 rfl (Nat.le_of_ble_eq_true rfl) rfl hr_8 d_Mo_wholeSignature_3 (fun y_3 s_2 d_4 e_5 H locs q9 ce h hP hD hS hce hcv hcl => ?_) (fun y_3 s_2 d_4 e_5 H locs h hP hD hS => ?_)
  · skip
    obtain ⟨hd, h⟩ := h
    exact hretX h hP hD hS hd.1 hd.2 hce hcv hcl
  obtain ⟨hd, h⟩ := h
  refine lv_aload_n G.1 G.2.1 d_Mo_wholeSignature_6 rfl (lv_at hl 0 rfl) ?_
  refine lv_iconst (v := 0) G.1 G.2.1 d_Mo_wholeSignature_7 (by decide) ?_
  refine upf G hP hD hS h 56 putV h_a0 iMo tMo tMo_ok nMo rfl (by decide) rfl q3120 rfl rfl fV rfl rfl d_Mo_wholeSignature_8 (fun s_9 H locs h hP hD hS => ?_)
  refine lv_aload_n G.1 G.2.1 d_Mo_wholeSignature_11 rfl (lv_at hl 0 rfl) ?_
  refine ugf (v := .ref (yP y_3 a0 39)) G hP h_a0 iMo rfl 39 (by decide) rfl q3103 rfl rfl d_Mo_wholeSignature_12 ?_
  refine lv_aload_n G.1 G.2.1 d_Mo_wholeSignature_15 rfl (lv_at hl 0 rfl) ?_
  refine ugf (v := .int (sV s_9 a0 43)) G hP h_a0 iMo rfl 43 (by decide) rfl q3107 rfl rfl d_Mo_wholeSignature_16 ?_
  refine ubald G hP (kdp h_a0 rfl) (typ h_a0 rfl) h d_Mo_wholeSignature_19 (fun x_10 h => ?_)
  refine W.eq (g2 := F0 m 20 ls [.int x_10]) rfl ?_
  refine lv_bipush (v := 41) G.1 G.2.1 d_Mo_wholeSignature_20 (by decide) ?_
  have J_60 : ∀ (y_j60 : Ly) (s_j60 : St) (d_j60 e_j60 : Nat) (H : Heap) (locs : List Loc), wja_Mo_wholeSignature_60 mc ms Post PX a0 y_j60 s_j60 d_j60 e_j60 → va_P D CL (ws g ad y_j60 s_j60) H → va_D A (ws g ad y_j60 s_j60) → va_S A s.heap H locs → ∀ ls, lv_has ls 1 [(0, .ref (ad a0))] → W p l e (ra_Mo_wholeSignature mc ms) s m args below meth c H locs d_j60 e_j60 Q (F0 m 60 ls []) := by
    intro y_j60 s_j60 d_j60 e_j60 H locs h hP hD hS ls hl
    unfold wja_Mo_wholeSignature_60 at h
    obtain ⟨hd, h⟩ := h
    refine lv_aload_n G.1 G.2.1 d_Mo_wholeSignature_60 rfl (lv_at hl 0 rfl) ?_
    refine lv_bipush (v := 41) G.1 G.2.1 d_Mo_wholeSignature_61 (by decide) ?_
    obtain ⟨mc_16, ms_17, hr_18, h⟩ := h
    refine uxVv (As := [.int 41]) (rest := []) G hP hD hS (cx_Mo_need l D g ad mc_16 ms_17 y_j60 _ _ s_j60 a0 41 H.size (us H) h_a0 h) (fun _ h => absurd h List.not_mem_nil) w9_Mo_need q3567 ⟨Nat.le_of_ble_eq_true rfl, Nat.le_of_ble_eq_true rfl⟩ rfl rfl h_a0 (q := (RMo, TMo, 131)) rfl rfl hl.1 rfl (Nat.le_of_ble_eq_true rfl) rfl hr_18 d_Mo_wholeSignature_63 (fun y_13 s_12 d_14 e_15 H locs q9 ce h hP hD hS hce hcv hcl => ?_) (fun y_13 s_12 d_14 e_15 H locs h hP hD hS => ?_)
    · skip
      obtain ⟨hd, h⟩ := h
      exact hretX h hP hD hS hd.1 hd.2 hce hcv hcl
    obtain ⟨hd, h⟩ := h
    refine lv_aload_n G.1 G.2.1 d_Mo_wholeSignature_66 rfl (lv_at hl 0 rfl) ?_
    refine lv_aload_n G.1 G.2.1 d_Mo_wholeSignature_67 rfl (lv_at hl 0 rfl) ?_
    refine ugf (v := .ref (yP y_13 a0 55)) G hP h_a0 iMo rfl 55 (by decide) rfl q3119 rfl rfl d_Mo_wholeSignature_68 ?_
    refine lv_aload_n G.1 G.2.1 d_Mo_wholeSignature_71 rfl (lv_at hl 0 rfl) ?_
    refine ugf (v := .int (sV s_12 a0 56)) G hP h_a0 iMo rfl 56 (by decide) rfl q3120 rfl rfl d_Mo_wholeSignature_72 ?_
    refine lv_aload_n G.1 G.2.1 d_Mo_wholeSignature_75 rfl (lv_at hl 0 rfl) ?_
    refine lv_aload_n G.1 G.2.1 d_Mo_wholeSignature_76 rfl (lv_at hl 0 rfl) ?_
    refine ugf (v := .int (sV s_12 a0 21)) G hP h_a0 iMo rfl 21 (by decide) rfl q3085 rfl rfl d_Mo_wholeSignature_77 ?_
    refine W.eq (g2 := F0 m 80 ls [.int (sV s_12 a0 21), .ref (ad a0), .int (sV s_12 a0 56), .ref (yP y_13 a0 55), .ref (ad a0)]) rfl ?_
    refine ucVi (As := [.int (sV s_12 a0 21)]) (rest := [.int (sV s_12 a0 56), .ref (yP y_13 a0 55), .ref (ad a0)]) G hP hD hS (cu_Mo_takes l D g ad y_13 _ s_12 a0 (sV s_12 a0 21) H.size h_a0 h) w9_Mo_takes q3547 ⟨Nat.le_of_ble_eq_true rfl, Nat.le_of_ble_eq_true rfl⟩ rfl rfl h_a0 (q := (RMo, TMo, 131)) rfl rfl hl.1 rfl (Nat.le_of_ble_eq_true rfl) rfl hd d_Mo_wholeSignature_80 (fun r_19 s_20 H locs h hP hD hS => ?_)
    have J_94 : ∀ (y_j94 : Ly) (s_j94 : St) (d_j94 e_j94 : Nat) (z2j94 : Int32) (z3j94 : Int32) (H : Heap) (locs : List Loc), wja_Mo_wholeSignature_94 mc ms Post PX a0 y_j94 s_j94 d_j94 e_j94 z2j94 z3j94 → va_P D CL (ws g ad y_j94 s_j94) H → va_D A (ws g ad y_j94 s_j94) → va_S A s.heap H locs → ∀ ls, lv_has ls 1 [] → W p l e (ra_Mo_wholeSignature mc ms) s m args below meth c H locs d_j94 e_j94 Q (F0 m 94 ls [.int z3j94, .int z2j94, .ref (yP y_j94 a0 55), .ref (ad a0)]) := by
      intro y_j94 s_j94 d_j94 e_j94 z2j94 z3j94 H locs h hP hD hS ls hl
      unfold wja_Mo_wholeSignature_94 at h
      obtain ⟨hd, h⟩ := h
      obtain ⟨mc_26, ms_27, hr_28, h⟩ := h
      refine uaVi (As := [.ref (yP y_j94 a0 55), .int z2j94, .int z3j94]) (rest := []) G hP hD hS (ca_Mo_signature l D g ad mc_26 ms_27 y_j94 _ s_j94 a0 a0 55 z2j94 z3j94 H.size (us H) h_a0 ⟨(kdp h_a0 rfl), (typ h_a0 rfl)⟩ h) w9_Mo_signature q2623 ⟨Nat.le_of_ble_eq_true rfl, Nat.le_of_ble_eq_true rfl⟩ rfl rfl h_a0 (q := (RMo, TMo, 131)) rfl rfl hl.1 rfl (Nat.le_of_ble_eq_true rfl) rfl hr_28 d_Mo_wholeSignature_94 (fun r_21 y_23 s_22 d_24 e_25 H locs h hP hD hS => ?_)
      obtain ⟨hd, h⟩ := h
      exact hret _ (y_23, s_22, d_j94 + d_24, e_j94 + e_25) _ _ _ _ _ ls h hP hD hS (Nat.le_refl _) (Nat.le_refl _) hd.1 hd.2 d_Mo_wholeSignature_97
    refine lv_if_eq (tgt := 90) G.1 G.2.1 d_Mo_wholeSignature_83 (by decide) (fun c83 => ?_) (fun c83 => ?_)
    · skip
      have h := h.1 c83
      refine lv_aload_n G.1 G.2.1 d_Mo_wholeSignature_90 rfl (lv_at hl 0 rfl) ?_
      obtain ⟨mc_34, ms_35, hr_36, h⟩ := h
      refine uxVi (As := []) (rest := [.int (sV s_12 a0 56), .ref (yP y_13 a0 55), .ref (ad a0)]) G hP hD hS (cx_Mo_type l D g ad mc_34 ms_35 y_13 _ _ s_20 a0 H.size (us H) h_a0 h) (fun _ h => absurd h List.not_mem_nil) w9_Mo_type q3587 ⟨Nat.le_of_ble_eq_true rfl, Nat.le_of_ble_eq_true rfl⟩ rfl rfl h_a0 (q := (RMo, TMo, 131)) rfl rfl hl.1 rfl (Nat.le_of_ble_eq_true rfl) rfl hr_36 d_Mo_wholeSignature_91 (fun y_31 s_30 d_32 e_33 H locs q9 ce h hP hD hS hce hcv hcl => ?_) (fun r_29 y_31 s_30 d_32 e_33 H locs h hP hD hS => ?_)
      · skip
        obtain ⟨hd, h⟩ := h
        exact hretX h hP hD hS hd.1 hd.2 hce hcv hcl
      have hl := lv_sub (l' := []) hl [] rfl
      obtain ⟨hd, h⟩ := h
      obtain ⟨n_37, h⟩ := h
      rw [n_37]
      exact J_94 y_31 s_30 (d_j60 + d_14 + d_32) (e_j60 + e_15 + e_33) (sV s_12 a0 56) r_29 H locs h hP hD hS ls (lv_sub hl [] rfl)
    · skip
      have h := h.2 c83
      refine lv_iconst (v := 0) G.1 G.2.1 d_Mo_wholeSignature_86 (by decide) ?_
      refine lv_goto (tgt := 94) G.1 G.2.1 d_Mo_wholeSignature_87 (by decide) ?_
      exact J_94 y_13 s_20 (d_j60 + d_14) (e_j60 + e_15) (sV s_12 a0 56) 0 H locs h hP hD hS ls (lv_sub hl [] rfl)
  refine lv_icmp_eq (tgt := 60) G.1 G.2.1 d_Mo_wholeSignature_22 (by decide) (fun c22 => ?_) (fun c22 => ?_)
  · skip
    have h := h.1 c22
    exact J_60 y_3 s_9 (0 + d_4) (0 + e_5) H locs h hP hD hS ls (lv_sub hl [0] rfl)
  · skip
    have h := h.2 c22
    refine lv_aload_n G.1 G.2.1 d_Mo_wholeSignature_25 rfl (lv_at hl 0 rfl) ?_
    obtain ⟨mc_43, ms_44, hr_45, h⟩ := h
    refine uxVv (As := []) (rest := []) G hP hD hS (cx_Mo_addType l D g ad mc_43 ms_44 y_3 _ _ s_9 a0 H.size (us H) h_a0 h) (fun _ h => absurd h List.not_mem_nil) w9_Mo_addType q3604 ⟨Nat.le_of_ble_eq_true rfl, Nat.le_of_ble_eq_true rfl⟩ rfl rfl h_a0 (q := (RMo, TMo, 131)) rfl rfl hl.1 rfl (Nat.le_of_ble_eq_true rfl) rfl hr_45 d_Mo_wholeSignature_26 (fun y_40 s_39 d_41 e_42 H locs q9 ce h hP hD hS hce hcv hcl => ?_) (fun y_40 s_39 d_41 e_42 H locs h hP hD hS => ?_)
    · skip
      obtain ⟨hd, h⟩ := h
      exact hretX h hP hD hS hd.1 hd.2 hce hcv hcl
    obtain ⟨hd, h⟩ := h
    unfold wla_Mo_wholeSignature_29 at h
    obtain ⟨I_29, μ_29, hI_29, hB_29⟩ := h
    have L_29 : ∀ (n_29 : Nat) (y_h29 : Ly) (s_h29 : St) (d_h29 e_h29 : Nat), μ_29 y_h29 s_h29 d_h29 e_h29 < n_29 → I_29 y_h29 s_h29 d_h29 e_h29 → ∀ (H : Heap) (locs : List Loc), va_P D CL (ws g ad y_h29 s_h29) H → va_D A (ws g ad y_h29 s_h29) → va_S A s.heap H locs → ∀ ls, lv_has ls 1 [(0, .ref (ad a0))] → W p l e (ra_Mo_wholeSignature mc ms) s m args below meth c H locs d_h29 e_h29 Q (F0 m 29 ls []) := by
      intro n_29
      induction n_29 with
      | zero => intro y_h29 s_h29 d_h29 e_h29 hμ; exact absurd hμ (Nat.not_lt_zero _)
      | succ n_29 ih_29 =>
        intro y_h29 s_h29 d_h29 e_h29 hμ_29 hJ H locs hP hD hS ls hl
        obtain ⟨K_29, hK_29, h⟩ : ∃ K : Ly → St → Nat → Nat → Prop, (∀ z1 z2 z3 z4, K z1 z2 z3 z4  → I_29 z1 z2 z3 z4  ∧ μ_29 z1 z2 z3 z4  < μ_29 y_h29 s_h29 d_h29 e_h29) ∧ wba_Mo_wholeSignature_29 mc ms Post PX K a0 y_h29 s_h29 d_h29 e_h29 := ⟨_, fun _ _ _ _ h => h, hB_29 y_h29 s_h29 d_h29 e_h29 hJ⟩
        unfold wba_Mo_wholeSignature_29 at h
        obtain ⟨hd, h⟩ := h
        refine lv_aload_n G.1 G.2.1 d_Mo_wholeSignature_29 rfl (lv_at hl 0 rfl) ?_
        refine ugf (v := .ref (yP y_h29 a0 39)) G hP h_a0 iMo rfl 39 (by decide) rfl q3103 rfl rfl d_Mo_wholeSignature_30 ?_
        refine lv_aload_n G.1 G.2.1 d_Mo_wholeSignature_33 rfl (lv_at hl 0 rfl) ?_
        refine ugf (v := .int (sV s_h29 a0 43)) G hP h_a0 iMo rfl 43 (by decide) rfl q3107 rfl rfl d_Mo_wholeSignature_34 ?_
        refine ubald G hP (kdp h_a0 rfl) (typ h_a0 rfl) h d_Mo_wholeSignature_37 (fun x_46 h => ?_)
        refine lv_bipush (v := 44) G.1 G.2.1 d_Mo_wholeSignature_38 (by decide) ?_
        refine lv_icmp_ne (tgt := 60) G.1 G.2.1 d_Mo_wholeSignature_40 (by decide) (fun c40 => ?_) (fun c40 => ?_)
        · skip
          have h := h.1 c40
          exact J_60 y_h29 s_h29 d_h29 e_h29 H locs h hP hD hS ls (lv_sub hl [0] rfl)
        · skip
          have h := h.2 c40
          refine lv_aload_n G.1 G.2.1 d_Mo_wholeSignature_43 rfl (lv_at hl 0 rfl) ?_
          refine lv_dup G.1 G.2.1 d_Mo_wholeSignature_44 rfl ?_
          refine ugf (v := .int (sV s_h29 a0 43)) G hP h_a0 iMo rfl 43 (by decide) rfl q3107 rfl rfl d_Mo_wholeSignature_45 ?_
          refine lv_iconst (v := 1) G.1 G.2.1 d_Mo_wholeSignature_48 (by decide) ?_
          refine W.eq (g2 := F0 m 49 ls [.int 1, .int (sV s_h29 a0 43), .ref (ad a0)]) rfl ?_
          refine lv_iadd G.1 G.2.1 d_Mo_wholeSignature_49 ?_
          refine upf G hP hD hS h 43 putV h_a0 iMo tMo tMo_ok nMo rfl (by decide) rfl q3107 rfl rfl fV rfl rfl d_Mo_wholeSignature_50 (fun s_47 H locs h hP hD hS => ?_)
          refine lv_aload_n G.1 G.2.1 d_Mo_wholeSignature_53 rfl (lv_at hl 0 rfl) ?_
          obtain ⟨mc_53, ms_54, hr_55, h⟩ := h
          refine uxVv (As := []) (rest := []) G hP hD hS (cx_Mo_addType l D g ad mc_53 ms_54 y_h29 _ _ s_47 a0 H.size (us H) h_a0 h) (fun _ h => absurd h List.not_mem_nil) w9_Mo_addType q3604 ⟨Nat.le_of_ble_eq_true rfl, Nat.le_of_ble_eq_true rfl⟩ rfl rfl h_a0 (q := (RMo, TMo, 131)) rfl rfl hl.1 rfl (Nat.le_of_ble_eq_true rfl) rfl hr_55 d_Mo_wholeSignature_54 (fun y_50 s_49 d_51 e_52 H locs q9 ce h hP hD hS hce hcv hcl => ?_) (fun y_50 s_49 d_51 e_52 H locs h hP hD hS => ?_)
          · skip
            obtain ⟨hd, h⟩ := h
            exact hretX h hP hD hS hd.1 hd.2 hce hcv hcl
          obtain ⟨hd, h⟩ := h
          refine lv_goto (tgt := 29) G.1 G.2.1 d_Mo_wholeSignature_57 (by decide) ?_
          have h := hK_29 y_50 s_49 (d_h29 + d_51) (e_h29 + e_52) h
          exact ih_29 y_50 s_49 (d_h29 + d_51) (e_h29 + e_52) (Nat.lt_of_lt_of_le h.2 (Nat.le_of_lt_succ hμ_29)) h.1 H locs hP hD hS ls (lv_sub hl [0] rfl)
    exact L_29 _ y_40 s_39 (0 + d_4 + d_41) (0 + e_5 + e_42) (Nat.lt_succ_self _) hI_29 H locs hP hD hS ls (lv_sub hl [0] rfl)
theorem q3600 : Cond.methodLink "ClassWorksModel" 639 y_Mo_wholeSignature ∈ lw_ok := lw_okmem (List.mem_of_getElem? (i := 3600) (by decide +kernel)) rfl
theorem q3603 : Cond.code y_Mo_wholeSignature b_Mo_wholeSignature 1 (some .int) ∈ lw_ok := lw_okmem (List.mem_of_getElem? (i := 3603) (by decide +kernel)) rfl
theorem q3602 : Cond.instanceMethod y_Mo_wholeSignature ∈ lw_ok := lw_okmem (List.mem_of_getElem? (i := 3602) (by decide +kernel)) rfl
theorem q203 : Cond.selects y_Mo_wholeSignature.cls y_Mo_wholeSignature y_Mo_wholeSignature ∈ lw_ok := lw_okmem (List.mem_of_getElem? (i := 203) (by decide +kernel)) rfl
theorem w9_Mo_wholeSignature : CWv y_Mo_wholeSignature b_Mo_wholeSignature 1 (some .int) 0 ∧ Cond.instanceMethod y_Mo_wholeSignature ∈ lw_ok ∧ Cond.selects y_Mo_wholeSignature.cls y_Mo_wholeSignature y_Mo_wholeSignature ∈ lw_ok := ⟨⟨q3603, q348, by decide +kernel, by decide +kernel, by decide +kernel⟩, q3602, q203⟩
def y_Mo_methodLine : MethodName := ⟨"ClassWorksModel", "methodLine", "()V"⟩
abbrev b_Mo_methodLine : ByteArray := prog_14_method_37_code
theorem q3129 : Cond.fieldLink "ClassWorksModel" 650 "ClassWorksModel" "pending" "I" ∈ lw_ok := lw_okmem (List.mem_of_getElem? (i := 3129) (by decide +kernel)) rfl
theorem d_Mo_methodLine_0 : decode b_Mo_methodLine 0 = .ok (.iconst 0, 1) := by decide +kernel
theorem d_Mo_methodLine_1 : decode b_Mo_methodLine 1 = .ok (.istore_n 1, 1) := by decide +kernel
theorem d_Mo_methodLine_2 : decode b_Mo_methodLine 2 = .ok (.iconst 1, 1) := by decide +kernel
theorem d_Mo_methodLine_3 : decode b_Mo_methodLine 3 = .ok (.istore_n 2, 1) := by decide +kernel
theorem d_Mo_methodLine_4 : decode b_Mo_methodLine 4 = .ok (.iload_n 2, 1) := by decide +kernel
theorem d_Mo_methodLine_5 : decode b_Mo_methodLine 5 = .ok (.ifCond .eq 115, 3) := by decide +kernel
theorem d_Mo_methodLine_8 : decode b_Mo_methodLine 8 = .ok (.aload_n 0, 1) := by decide +kernel
theorem d_Mo_methodLine_9 : decode b_Mo_methodLine 9 = .ok (.aload_n 0, 1) := by decide +kernel
theorem d_Mo_methodLine_10 : decode b_Mo_methodLine 10 = .ok (.getfield 251, 3) := by decide +kernel
theorem d_Mo_methodLine_13 : decode b_Mo_methodLine 13 = .ok (.invokevirtual 538, 3) := by decide +kernel
theorem d_Mo_methodLine_16 : decode b_Mo_methodLine 16 = .ok (.ifCond .eq 7, 3) := by decide +kernel
theorem d_Mo_methodLine_19 : decode b_Mo_methodLine 19 = .ok (.iconst 1, 1) := by decide +kernel
theorem d_Mo_methodLine_20 : decode b_Mo_methodLine 20 = .ok (.goto 50, 3) := by decide +kernel
theorem d_Mo_methodLine_23 : decode b_Mo_methodLine 23 = .ok (.aload_n 0, 1) := by decide +kernel
theorem d_Mo_methodLine_24 : decode b_Mo_methodLine 24 = .ok (.aload_n 0, 1) := by decide +kernel
theorem d_Mo_methodLine_25 : decode b_Mo_methodLine 25 = .ok (.getfield 163, 3) := by decide +kernel
theorem d_Mo_methodLine_28 : decode b_Mo_methodLine 28 = .ok (.invokevirtual 538, 3) := by decide +kernel
theorem d_Mo_methodLine_31 : decode b_Mo_methodLine 31 = .ok (.ifCond .eq 7, 3) := by decide +kernel
theorem d_Mo_methodLine_34 : decode b_Mo_methodLine 34 = .ok (.iconst 2, 1) := by decide +kernel
theorem d_Mo_methodLine_35 : decode b_Mo_methodLine 35 = .ok (.goto 35, 3) := by decide +kernel
theorem d_Mo_methodLine_38 : decode b_Mo_methodLine 38 = .ok (.aload_n 0, 1) := by decide +kernel
theorem d_Mo_methodLine_39 : decode b_Mo_methodLine 39 = .ok (.aload_n 0, 1) := by decide +kernel
theorem d_Mo_methodLine_40 : decode b_Mo_methodLine 40 = .ok (.getfield 188, 3) := by decide +kernel
theorem d_Mo_methodLine_43 : decode b_Mo_methodLine 43 = .ok (.invokevirtual 538, 3) := by decide +kernel
theorem d_Mo_methodLine_46 : decode b_Mo_methodLine 46 = .ok (.ifCond .eq 7, 3) := by decide +kernel
theorem d_Mo_methodLine_49 : decode b_Mo_methodLine 49 = .ok (.iconst 4, 1) := by decide +kernel
theorem d_Mo_methodLine_50 : decode b_Mo_methodLine 50 = .ok (.goto 20, 3) := by decide +kernel
theorem d_Mo_methodLine_53 : decode b_Mo_methodLine 53 = .ok (.aload_n 0, 1) := by decide +kernel
theorem d_Mo_methodLine_54 : decode b_Mo_methodLine 54 = .ok (.aload_n 0, 1) := by decide +kernel
theorem d_Mo_methodLine_55 : decode b_Mo_methodLine 55 = .ok (.getfield 168, 3) := by decide +kernel
theorem d_Mo_methodLine_58 : decode b_Mo_methodLine 58 = .ok (.invokevirtual 538, 3) := by decide +kernel
theorem d_Mo_methodLine_61 : decode b_Mo_methodLine 61 = .ok (.ifCond .eq 8, 3) := by decide +kernel
theorem d_Mo_methodLine_64 : decode b_Mo_methodLine 64 = .ok (.bipush 8, 2) := by decide +kernel
theorem d_Mo_methodLine_66 : decode b_Mo_methodLine 66 = .ok (.goto 4, 3) := by decide +kernel
theorem d_Mo_methodLine_69 : decode b_Mo_methodLine 69 = .ok (.iconst 0, 1) := by decide +kernel
theorem d_Mo_methodLine_70 : decode b_Mo_methodLine 70 = .ok (.istore_n 3, 1) := by decide +kernel
theorem d_Mo_methodLine_71 : decode b_Mo_methodLine 71 = .ok (.iload_n 3, 1) := by decide +kernel
theorem d_Mo_methodLine_72 : decode b_Mo_methodLine 72 = .ok (.ifCond .eq 13, 3) := by decide +kernel
theorem d_Mo_methodLine_75 : decode b_Mo_methodLine 75 = .ok (.iload_n 1, 1) := by decide +kernel
theorem d_Mo_methodLine_76 : decode b_Mo_methodLine 76 = .ok (.iload_n 3, 1) := by decide +kernel
theorem d_Mo_methodLine_77 : decode b_Mo_methodLine 77 = .ok (.iand, 1) := by decide +kernel
theorem d_Mo_methodLine_78 : decode b_Mo_methodLine 78 = .ok (.ifCond .ne 7, 3) := by decide +kernel
theorem d_Mo_methodLine_81 : decode b_Mo_methodLine 81 = .ok (.iconst 1, 1) := by decide +kernel
theorem d_Mo_methodLine_82 : decode b_Mo_methodLine 82 = .ok (.goto 4, 3) := by decide +kernel
theorem d_Mo_methodLine_85 : decode b_Mo_methodLine 85 = .ok (.iconst 0, 1) := by decide +kernel
theorem d_Mo_methodLine_86 : decode b_Mo_methodLine 86 = .ok (.istore_n 2, 1) := by decide +kernel
theorem d_Mo_methodLine_87 : decode b_Mo_methodLine 87 = .ok (.iload_n 1, 1) := by decide +kernel
theorem d_Mo_methodLine_88 : decode b_Mo_methodLine 88 = .ok (.iload_n 2, 1) := by decide +kernel
theorem d_Mo_methodLine_89 : decode b_Mo_methodLine 89 = .ok (.ifCond .eq 7, 3) := by decide +kernel
theorem d_Mo_methodLine_92 : decode b_Mo_methodLine 92 = .ok (.iload_n 3, 1) := by decide +kernel
theorem d_Mo_methodLine_93 : decode b_Mo_methodLine 93 = .ok (.goto 4, 3) := by decide +kernel
theorem d_Mo_methodLine_96 : decode b_Mo_methodLine 96 = .ok (.iconst 0, 1) := by decide +kernel
theorem d_Mo_methodLine_97 : decode b_Mo_methodLine 97 = .ok (.ior, 1) := by decide +kernel
theorem d_Mo_methodLine_98 : decode b_Mo_methodLine 98 = .ok (.istore_n 1, 1) := by decide +kernel
theorem d_Mo_methodLine_99 : decode b_Mo_methodLine 99 = .ok (.aload_n 0, 1) := by decide +kernel
theorem d_Mo_methodLine_100 : decode b_Mo_methodLine 100 = .ok (.dup, 1) := by decide +kernel
theorem d_Mo_methodLine_101 : decode b_Mo_methodLine 101 = .ok (.getfield 104, 3) := by decide +kernel
theorem d_Mo_methodLine_104 : decode b_Mo_methodLine 104 = .ok (.iload_n 2, 1) := by decide +kernel
theorem d_Mo_methodLine_105 : decode b_Mo_methodLine 105 = .ok (.ifCond .eq 7, 3) := by decide +kernel
theorem d_Mo_methodLine_108 : decode b_Mo_methodLine 108 = .ok (.iconst 1, 1) := by decide +kernel
theorem d_Mo_methodLine_109 : decode b_Mo_methodLine 109 = .ok (.goto 4, 3) := by decide +kernel
theorem d_Mo_methodLine_112 : decode b_Mo_methodLine 112 = .ok (.iconst 0, 1) := by decide +kernel
theorem d_Mo_methodLine_113 : decode b_Mo_methodLine 113 = .ok (.iadd, 1) := by decide +kernel
theorem d_Mo_methodLine_114 : decode b_Mo_methodLine 114 = .ok (.putfield 104, 3) := by decide +kernel
theorem d_Mo_methodLine_117 : decode b_Mo_methodLine 117 = .ok (.goto (-113), 3) := by decide +kernel
theorem d_Mo_methodLine_120 : decode b_Mo_methodLine 120 = .ok (.aload_n 0, 1) := by decide +kernel
theorem d_Mo_methodLine_121 : decode b_Mo_methodLine 121 = .ok (.getfield 92, 3) := by decide +kernel
theorem d_Mo_methodLine_124 : decode b_Mo_methodLine 124 = .ok (.aload_n 0, 1) := by decide +kernel
theorem d_Mo_methodLine_125 : decode b_Mo_methodLine 125 = .ok (.getfield 104, 3) := by decide +kernel
theorem d_Mo_methodLine_128 : decode b_Mo_methodLine 128 = .ok (.baload, 1) := by decide +kernel
theorem d_Mo_methodLine_129 : decode b_Mo_methodLine 129 = .ok (.iconst 2, 1) := by decide +kernel
theorem d_Mo_methodLine_130 : decode b_Mo_methodLine 130 = .ok (.if_icmp .eq 20, 3) := by decide +kernel
theorem d_Mo_methodLine_133 : decode b_Mo_methodLine 133 = .ok (.aload_n 0, 1) := by decide +kernel
theorem d_Mo_methodLine_134 : decode b_Mo_methodLine 134 = .ok (.getfield 92, 3) := by decide +kernel
theorem d_Mo_methodLine_137 : decode b_Mo_methodLine 137 = .ok (.aload_n 0, 1) := by decide +kernel
theorem d_Mo_methodLine_138 : decode b_Mo_methodLine 138 = .ok (.getfield 104, 3) := by decide +kernel
theorem d_Mo_methodLine_141 : decode b_Mo_methodLine 141 = .ok (.baload, 1) := by decide +kernel
theorem d_Mo_methodLine_142 : decode b_Mo_methodLine 142 = .ok (.iconst 3, 1) := by decide +kernel
theorem d_Mo_methodLine_143 : decode b_Mo_methodLine 143 = .ok (.if_icmp .eq 7, 3) := by decide +kernel
theorem d_Mo_methodLine_146 : decode b_Mo_methodLine 146 = .ok (.aload_n 0, 1) := by decide +kernel
theorem d_Mo_methodLine_147 : decode b_Mo_methodLine 147 = .ok (.invokevirtual 535, 3) := by decide +kernel
theorem d_Mo_methodLine_150 : decode b_Mo_methodLine 150 = .ok (.aload_n 0, 1) := by decide +kernel
theorem d_Mo_methodLine_151 : decode b_Mo_methodLine 151 = .ok (.getfield 98, 3) := by decide +kernel
theorem d_Mo_methodLine_154 : decode b_Mo_methodLine 154 = .ok (.aload_n 0, 1) := by decide +kernel
theorem d_Mo_methodLine_155 : decode b_Mo_methodLine 155 = .ok (.getfield 104, 3) := by decide +kernel
theorem d_Mo_methodLine_158 : decode b_Mo_methodLine 158 = .ok (.iaload, 1) := by decide +kernel
theorem d_Mo_methodLine_159 : decode b_Mo_methodLine 159 = .ok (.istore_n 3, 1) := by decide +kernel
theorem d_Mo_methodLine_160 : decode b_Mo_methodLine 160 = .ok (.aload_n 0, 1) := by decide +kernel
theorem d_Mo_methodLine_161 : decode b_Mo_methodLine 161 = .ok (.dup, 1) := by decide +kernel
theorem d_Mo_methodLine_162 : decode b_Mo_methodLine 162 = .ok (.getfield 104, 3) := by decide +kernel
theorem d_Mo_methodLine_165 : decode b_Mo_methodLine 165 = .ok (.iconst 1, 1) := by decide +kernel
theorem d_Mo_methodLine_166 : decode b_Mo_methodLine 166 = .ok (.iadd, 1) := by decide +kernel
theorem d_Mo_methodLine_167 : decode b_Mo_methodLine 167 = .ok (.putfield 104, 3) := by decide +kernel
theorem d_Mo_methodLine_170 : decode b_Mo_methodLine 170 = .ok (.aload_n 0, 1) := by decide +kernel
theorem d_Mo_methodLine_171 : decode b_Mo_methodLine 171 = .ok (.invokevirtual 639, 3) := by decide +kernel
theorem d_Mo_methodLine_174 : decode b_Mo_methodLine 174 = .ok (.istore 4, 2) := by decide +kernel
theorem d_Mo_methodLine_176 : decode b_Mo_methodLine 176 = .ok (.aload_n 0, 1) := by decide +kernel
theorem d_Mo_methodLine_177 : decode b_Mo_methodLine 177 = .ok (.iconst 0, 1) := by decide +kernel
theorem d_Mo_methodLine_178 : decode b_Mo_methodLine 178 = .ok (.invokevirtual 544, 3) := by decide +kernel
theorem d_Mo_methodLine_181 : decode b_Mo_methodLine 181 = .ok (.aload_n 0, 1) := by decide +kernel
theorem d_Mo_methodLine_182 : decode b_Mo_methodLine 182 = .ok (.getfield 522, 3) := by decide +kernel
theorem d_Mo_methodLine_185 : decode b_Mo_methodLine 185 = .ok (.getfield 438, 3) := by decide +kernel
theorem d_Mo_methodLine_188 : decode b_Mo_methodLine 188 = .ok (.aload_n 0, 1) := by decide +kernel
theorem d_Mo_methodLine_189 : decode b_Mo_methodLine 189 = .ok (.getfield 615, 3) := by decide +kernel
theorem d_Mo_methodLine_192 : decode b_Mo_methodLine 192 = .ok (.iaload, 1) := by decide +kernel
theorem d_Mo_methodLine_193 : decode b_Mo_methodLine 193 = .ok (.istore 5, 2) := by decide +kernel
theorem d_Mo_methodLine_195 : decode b_Mo_methodLine 195 = .ok (.bipush 12, 2) := by decide +kernel
theorem d_Mo_methodLine_197 : decode b_Mo_methodLine 197 = .ok (.aload_n 0, 1) := by decide +kernel
theorem d_Mo_methodLine_198 : decode b_Mo_methodLine 198 = .ok (.getfield 615, 3) := by decide +kernel
theorem d_Mo_methodLine_201 : decode b_Mo_methodLine 201 = .ok (.imul, 1) := by decide +kernel
theorem d_Mo_methodLine_202 : decode b_Mo_methodLine 202 = .ok (.istore 6, 2) := by decide +kernel
theorem d_Mo_methodLine_204 : decode b_Mo_methodLine 204 = .ok (.iconst 0, 1) := by decide +kernel
theorem d_Mo_methodLine_205 : decode b_Mo_methodLine 205 = .ok (.istore 7, 2) := by decide +kernel
theorem d_Mo_methodLine_207 : decode b_Mo_methodLine 207 = .ok (.iload 7, 2) := by decide +kernel
theorem d_Mo_methodLine_209 : decode b_Mo_methodLine 209 = .ok (.iload 5, 2) := by decide +kernel
theorem d_Mo_methodLine_211 : decode b_Mo_methodLine 211 = .ok (.if_icmp .ge 54, 3) := by decide +kernel
theorem d_Mo_methodLine_214 : decode b_Mo_methodLine 214 = .ok (.aload_n 0, 1) := by decide +kernel
theorem d_Mo_methodLine_215 : decode b_Mo_methodLine 215 = .ok (.iconst 3, 1) := by decide +kernel
theorem d_Mo_methodLine_216 : decode b_Mo_methodLine 216 = .ok (.aload_n 0, 1) := by decide +kernel
theorem d_Mo_methodLine_217 : decode b_Mo_methodLine 217 = .ok (.getfield 522, 3) := by decide +kernel
theorem d_Mo_methodLine_220 : decode b_Mo_methodLine 220 = .ok (.getfield 447, 3) := by decide +kernel
theorem d_Mo_methodLine_223 : decode b_Mo_methodLine 223 = .ok (.iload 6, 2) := by decide +kernel
theorem d_Mo_methodLine_225 : decode b_Mo_methodLine 225 = .ok (.iload 7, 2) := by decide +kernel
theorem d_Mo_methodLine_227 : decode b_Mo_methodLine 227 = .ok (.iadd, 1) := by decide +kernel
theorem d_Mo_methodLine_228 : decode b_Mo_methodLine 228 = .ok (.iaload, 1) := by decide +kernel
theorem d_Mo_methodLine_229 : decode b_Mo_methodLine 229 = .ok (.iload_n 3, 1) := by decide +kernel
theorem d_Mo_methodLine_230 : decode b_Mo_methodLine 230 = .ok (.if_icmp .ne 25, 3) := by decide +kernel
theorem d_Mo_methodLine_233 : decode b_Mo_methodLine 233 = .ok (.aload_n 0, 1) := by decide +kernel
theorem d_Mo_methodLine_234 : decode b_Mo_methodLine 234 = .ok (.getfield 522, 3) := by decide +kernel
theorem d_Mo_methodLine_237 : decode b_Mo_methodLine 237 = .ok (.getfield 450, 3) := by decide +kernel
theorem d_Mo_methodLine_240 : decode b_Mo_methodLine 240 = .ok (.iload 6, 2) := by decide +kernel
theorem d_Mo_methodLine_242 : decode b_Mo_methodLine 242 = .ok (.iload 7, 2) := by decide +kernel
theorem d_Mo_methodLine_244 : decode b_Mo_methodLine 244 = .ok (.iadd, 1) := by decide +kernel
theorem d_Mo_methodLine_245 : decode b_Mo_methodLine 245 = .ok (.iaload, 1) := by decide +kernel
theorem d_Mo_methodLine_246 : decode b_Mo_methodLine 246 = .ok (.iload 4, 2) := by decide +kernel
theorem d_Mo_methodLine_248 : decode b_Mo_methodLine 248 = .ok (.if_icmp .ne 7, 3) := by decide +kernel
theorem d_Mo_methodLine_251 : decode b_Mo_methodLine 251 = .ok (.iconst 1, 1) := by decide +kernel
theorem d_Mo_methodLine_252 : decode b_Mo_methodLine 252 = .ok (.goto 4, 3) := by decide +kernel
theorem d_Mo_methodLine_255 : decode b_Mo_methodLine 255 = .ok (.iconst 0, 1) := by decide +kernel
theorem d_Mo_methodLine_256 : decode b_Mo_methodLine 256 = .ok (.invokevirtual 605, 3) := by decide +kernel
theorem d_Mo_methodLine_259 : decode b_Mo_methodLine 259 = .ok (.iinc 7 1, 3) := by decide +kernel
theorem d_Mo_methodLine_262 : decode b_Mo_methodLine 262 = .ok (.goto (-55), 3) := by decide +kernel
theorem d_Mo_methodLine_265 : decode b_Mo_methodLine 265 = .ok (.aload_n 0, 1) := by decide +kernel
theorem d_Mo_methodLine_266 : decode b_Mo_methodLine 266 = .ok (.getfield 522, 3) := by decide +kernel
theorem d_Mo_methodLine_269 : decode b_Mo_methodLine 269 = .ok (.getfield 429, 3) := by decide +kernel
theorem d_Mo_methodLine_272 : decode b_Mo_methodLine 272 = .ok (.aload_n 0, 1) := by decide +kernel
theorem d_Mo_methodLine_273 : decode b_Mo_methodLine 273 = .ok (.getfield 615, 3) := by decide +kernel
theorem d_Mo_methodLine_276 : decode b_Mo_methodLine 276 = .ok (.iaload, 1) := by decide +kernel
theorem d_Mo_methodLine_277 : decode b_Mo_methodLine 277 = .ok (.iconst 4, 1) := by decide +kernel
theorem d_Mo_methodLine_278 : decode b_Mo_methodLine 278 = .ok (.iand, 1) := by decide +kernel
theorem d_Mo_methodLine_279 : decode b_Mo_methodLine 279 = .ok (.ifCond .eq 7, 3) := by decide +kernel
theorem d_Mo_methodLine_282 : decode b_Mo_methodLine 282 = .ok (.iconst 1, 1) := by decide +kernel
theorem d_Mo_methodLine_283 : decode b_Mo_methodLine 283 = .ok (.goto 4, 3) := by decide +kernel
theorem d_Mo_methodLine_286 : decode b_Mo_methodLine 286 = .ok (.iconst 0, 1) := by decide +kernel
theorem d_Mo_methodLine_287 : decode b_Mo_methodLine 287 = .ok (.istore 7, 2) := by decide +kernel
theorem d_Mo_methodLine_289 : decode b_Mo_methodLine 289 = .ok (.iload_n 1, 1) := by decide +kernel
theorem d_Mo_methodLine_290 : decode b_Mo_methodLine 290 = .ok (.bipush 8, 2) := by decide +kernel
theorem d_Mo_methodLine_292 : decode b_Mo_methodLine 292 = .ok (.iand, 1) := by decide +kernel
theorem d_Mo_methodLine_293 : decode b_Mo_methodLine 293 = .ok (.ifCond .eq 7, 3) := by decide +kernel
theorem d_Mo_methodLine_296 : decode b_Mo_methodLine 296 = .ok (.iconst 1, 1) := by decide +kernel
theorem d_Mo_methodLine_297 : decode b_Mo_methodLine 297 = .ok (.goto 4, 3) := by decide +kernel
theorem d_Mo_methodLine_300 : decode b_Mo_methodLine 300 = .ok (.iconst 0, 1) := by decide +kernel
theorem d_Mo_methodLine_301 : decode b_Mo_methodLine 301 = .ok (.istore 8, 2) := by decide +kernel
theorem d_Mo_methodLine_303 : decode b_Mo_methodLine 303 = .ok (.aload_n 0, 1) := by decide +kernel
theorem d_Mo_methodLine_304 : decode b_Mo_methodLine 304 = .ok (.iconst 4, 1) := by decide +kernel
theorem d_Mo_methodLine_305 : decode b_Mo_methodLine 305 = .ok (.iload 8, 2) := by decide +kernel
theorem d_Mo_methodLine_307 : decode b_Mo_methodLine 307 = .ok (.ifCond .eq 21, 3) := by decide +kernel
theorem d_Mo_methodLine_310 : decode b_Mo_methodLine 310 = .ok (.iload_n 1, 1) := by decide +kernel
theorem d_Mo_methodLine_311 : decode b_Mo_methodLine 311 = .ok (.bipush 8, 2) := by decide +kernel
theorem d_Mo_methodLine_313 : decode b_Mo_methodLine 313 = .ok (.if_icmp .eq 15, 3) := by decide +kernel
theorem d_Mo_methodLine_316 : decode b_Mo_methodLine 316 = .ok (.aload_n 0, 1) := by decide +kernel
theorem d_Mo_methodLine_317 : decode b_Mo_methodLine 317 = .ok (.iconst 0, 1) := by decide +kernel
theorem d_Mo_methodLine_318 : decode b_Mo_methodLine 318 = .ok (.invokevirtual 609, 3) := by decide +kernel
theorem d_Mo_methodLine_321 : decode b_Mo_methodLine 321 = .ok (.ifCond .ne 7, 3) := by decide +kernel
theorem d_Mo_methodLine_324 : decode b_Mo_methodLine 324 = .ok (.iconst 1, 1) := by decide +kernel
theorem d_Mo_methodLine_325 : decode b_Mo_methodLine 325 = .ok (.goto 4, 3) := by decide +kernel
theorem d_Mo_methodLine_328 : decode b_Mo_methodLine 328 = .ok (.iconst 0, 1) := by decide +kernel
theorem d_Mo_methodLine_329 : decode b_Mo_methodLine 329 = .ok (.invokevirtual 605, 3) := by decide +kernel
theorem d_Mo_methodLine_332 : decode b_Mo_methodLine 332 = .ok (.aload_n 0, 1) := by decide +kernel
theorem d_Mo_methodLine_333 : decode b_Mo_methodLine 333 = .ok (.iconst 5, 1) := by decide +kernel
theorem d_Mo_methodLine_334 : decode b_Mo_methodLine 334 = .ok (.iload 7, 2) := by decide +kernel
theorem d_Mo_methodLine_336 : decode b_Mo_methodLine 336 = .ok (.ifCond .eq 30, 3) := by decide +kernel
theorem d_Mo_methodLine_339 : decode b_Mo_methodLine 339 = .ok (.aload_n 0, 1) := by decide +kernel
theorem d_Mo_methodLine_340 : decode b_Mo_methodLine 340 = .ok (.iconst 1, 1) := by decide +kernel
theorem d_Mo_methodLine_341 : decode b_Mo_methodLine 341 = .ok (.invokevirtual 609, 3) := by decide +kernel
theorem d_Mo_methodLine_344 : decode b_Mo_methodLine 344 = .ok (.ifCond .ne 22, 3) := by decide +kernel
theorem d_Mo_methodLine_347 : decode b_Mo_methodLine 347 = .ok (.iload_n 1, 1) := by decide +kernel
theorem d_Mo_methodLine_348 : decode b_Mo_methodLine 348 = .ok (.bipush 6, 2) := by decide +kernel
theorem d_Mo_methodLine_350 : decode b_Mo_methodLine 350 = .ok (.iand, 1) := by decide +kernel
theorem d_Mo_methodLine_351 : decode b_Mo_methodLine 351 = .ok (.ifCond .ne 11, 3) := by decide +kernel
theorem d_Mo_methodLine_354 : decode b_Mo_methodLine 354 = .ok (.iload_n 3, 1) := by decide +kernel
theorem d_Mo_methodLine_355 : decode b_Mo_methodLine 355 = .ok (.aload_n 0, 1) := by decide +kernel
theorem d_Mo_methodLine_356 : decode b_Mo_methodLine 356 = .ok (.getfield 121, 3) := by decide +kernel
theorem d_Mo_methodLine_359 : decode b_Mo_methodLine 359 = .ok (.if_icmp .ne 7, 3) := by decide +kernel
theorem d_Mo_methodLine_362 : decode b_Mo_methodLine 362 = .ok (.iconst 1, 1) := by decide +kernel
theorem d_Mo_methodLine_363 : decode b_Mo_methodLine 363 = .ok (.goto 4, 3) := by decide +kernel
theorem d_Mo_methodLine_366 : decode b_Mo_methodLine 366 = .ok (.iconst 0, 1) := by decide +kernel
theorem d_Mo_methodLine_367 : decode b_Mo_methodLine 367 = .ok (.invokevirtual 605, 3) := by decide +kernel
theorem d_Mo_methodLine_370 : decode b_Mo_methodLine 370 = .ok (.aload_n 0, 1) := by decide +kernel
theorem d_Mo_methodLine_371 : decode b_Mo_methodLine 371 = .ok (.bipush 6, 2) := by decide +kernel
theorem d_Mo_methodLine_373 : decode b_Mo_methodLine 373 = .ok (.iload 8, 2) := by decide +kernel
theorem d_Mo_methodLine_375 : decode b_Mo_methodLine 375 = .ok (.ifCond .eq 33, 3) := by decide +kernel
theorem d_Mo_methodLine_378 : decode b_Mo_methodLine 378 = .ok (.aload_n 0, 1) := by decide +kernel
theorem d_Mo_methodLine_379 : decode b_Mo_methodLine 379 = .ok (.getfield 522, 3) := by decide +kernel
theorem d_Mo_methodLine_382 : decode b_Mo_methodLine 382 = .ok (.getfield 429, 3) := by decide +kernel
theorem d_Mo_methodLine_385 : decode b_Mo_methodLine 385 = .ok (.aload_n 0, 1) := by decide +kernel
theorem d_Mo_methodLine_386 : decode b_Mo_methodLine 386 = .ok (.getfield 615, 3) := by decide +kernel
theorem d_Mo_methodLine_389 : decode b_Mo_methodLine 389 = .ok (.iaload, 1) := by decide +kernel
theorem d_Mo_methodLine_390 : decode b_Mo_methodLine 390 = .ok (.bipush 6, 2) := by decide +kernel
theorem d_Mo_methodLine_392 : decode b_Mo_methodLine 392 = .ok (.iand, 1) := by decide +kernel
theorem d_Mo_methodLine_393 : decode b_Mo_methodLine 393 = .ok (.ifCond .ne 15, 3) := by decide +kernel
theorem d_Mo_methodLine_396 : decode b_Mo_methodLine 396 = .ok (.aload_n 0, 1) := by decide +kernel
theorem d_Mo_methodLine_397 : decode b_Mo_methodLine 397 = .ok (.iconst 2, 1) := by decide +kernel
theorem d_Mo_methodLine_398 : decode b_Mo_methodLine 398 = .ok (.invokevirtual 609, 3) := by decide +kernel
theorem d_Mo_methodLine_401 : decode b_Mo_methodLine 401 = .ok (.ifCond .ne 7, 3) := by decide +kernel
theorem d_Mo_methodLine_404 : decode b_Mo_methodLine 404 = .ok (.iconst 1, 1) := by decide +kernel
theorem d_Mo_methodLine_405 : decode b_Mo_methodLine 405 = .ok (.goto 4, 3) := by decide +kernel
theorem d_Mo_methodLine_408 : decode b_Mo_methodLine 408 = .ok (.iconst 0, 1) := by decide +kernel
theorem d_Mo_methodLine_409 : decode b_Mo_methodLine 409 = .ok (.invokevirtual 605, 3) := by decide +kernel
theorem d_Mo_methodLine_412 : decode b_Mo_methodLine 412 = .ok (.aload_n 0, 1) := by decide +kernel
theorem d_Mo_methodLine_413 : decode b_Mo_methodLine 413 = .ok (.bipush 7, 2) := by decide +kernel
theorem d_Mo_methodLine_415 : decode b_Mo_methodLine 415 = .ok (.iload_n 3, 1) := by decide +kernel
theorem d_Mo_methodLine_416 : decode b_Mo_methodLine 416 = .ok (.aload_n 0, 1) := by decide +kernel
theorem d_Mo_methodLine_417 : decode b_Mo_methodLine 417 = .ok (.getfield 121, 3) := by decide +kernel
theorem d_Mo_methodLine_420 : decode b_Mo_methodLine 420 = .ok (.if_icmp .ne 24, 3) := by decide +kernel
theorem d_Mo_methodLine_423 : decode b_Mo_methodLine 423 = .ok (.iload_n 1, 1) := by decide +kernel
theorem d_Mo_methodLine_424 : decode b_Mo_methodLine 424 = .ok (.bipush 11, 2) := by decide +kernel
theorem d_Mo_methodLine_426 : decode b_Mo_methodLine 426 = .ok (.iand, 1) := by decide +kernel
theorem d_Mo_methodLine_427 : decode b_Mo_methodLine 427 = .ok (.ifCond .ne 13, 3) := by decide +kernel
theorem d_Mo_methodLine_430 : decode b_Mo_methodLine 430 = .ok (.aload_n 0, 1) := by decide +kernel
theorem d_Mo_methodLine_431 : decode b_Mo_methodLine 431 = .ok (.getfield 83, 3) := by decide +kernel
theorem d_Mo_methodLine_434 : decode b_Mo_methodLine 434 = .ok (.iload 4, 2) := by decide +kernel
theorem d_Mo_methodLine_436 : decode b_Mo_methodLine 436 = .ok (.iaload, 1) := by decide +kernel
theorem d_Mo_methodLine_437 : decode b_Mo_methodLine 437 = .ok (.ifCond .eq 7, 3) := by decide +kernel
theorem d_Mo_methodLine_440 : decode b_Mo_methodLine 440 = .ok (.iconst 1, 1) := by decide +kernel
theorem d_Mo_methodLine_441 : decode b_Mo_methodLine 441 = .ok (.goto 4, 3) := by decide +kernel
theorem d_Mo_methodLine_444 : decode b_Mo_methodLine 444 = .ok (.iconst 0, 1) := by decide +kernel
theorem d_Mo_methodLine_445 : decode b_Mo_methodLine 445 = .ok (.invokevirtual 605, 3) := by decide +kernel
theorem d_Mo_methodLine_448 : decode b_Mo_methodLine 448 = .ok (.aload_n 0, 1) := by decide +kernel
theorem d_Mo_methodLine_449 : decode b_Mo_methodLine 449 = .ok (.bipush 7, 2) := by decide +kernel
theorem d_Mo_methodLine_451 : decode b_Mo_methodLine 451 = .ok (.iload_n 3, 1) := by decide +kernel
theorem d_Mo_methodLine_452 : decode b_Mo_methodLine 452 = .ok (.aload_n 0, 1) := by decide +kernel
theorem d_Mo_methodLine_453 : decode b_Mo_methodLine 453 = .ok (.getfield 127, 3) := by decide +kernel
theorem d_Mo_methodLine_456 : decode b_Mo_methodLine 456 = .ok (.if_icmp .ne 29, 3) := by decide +kernel
theorem d_Mo_methodLine_459 : decode b_Mo_methodLine 459 = .ok (.iload_n 1, 1) := by decide +kernel
theorem d_Mo_methodLine_460 : decode b_Mo_methodLine 460 = .ok (.iconst 1, 1) := by decide +kernel
theorem d_Mo_methodLine_461 : decode b_Mo_methodLine 461 = .ok (.iand, 1) := by decide +kernel
theorem d_Mo_methodLine_462 : decode b_Mo_methodLine 462 = .ok (.ifCond .eq 19, 3) := by decide +kernel
theorem d_Mo_methodLine_465 : decode b_Mo_methodLine 465 = .ok (.iload_n 1, 1) := by decide +kernel
theorem d_Mo_methodLine_466 : decode b_Mo_methodLine 466 = .ok (.bipush 14, 2) := by decide +kernel
theorem d_Mo_methodLine_468 : decode b_Mo_methodLine 468 = .ok (.iand, 1) := by decide +kernel
theorem d_Mo_methodLine_469 : decode b_Mo_methodLine 469 = .ok (.ifCond .ne 12, 3) := by decide +kernel
theorem d_Mo_methodLine_472 : decode b_Mo_methodLine 472 = .ok (.iload 4, 2) := by decide +kernel
theorem d_Mo_methodLine_474 : decode b_Mo_methodLine 474 = .ok (.aload_n 0, 1) := by decide +kernel
theorem d_Mo_methodLine_475 : decode b_Mo_methodLine 475 = .ok (.getfield 258, 3) := by decide +kernel
theorem d_Mo_methodLine_478 : decode b_Mo_methodLine 478 = .ok (.if_icmp .eq 7, 3) := by decide +kernel
theorem d_Mo_methodLine_481 : decode b_Mo_methodLine 481 = .ok (.iconst 1, 1) := by decide +kernel
theorem d_Mo_methodLine_482 : decode b_Mo_methodLine 482 = .ok (.goto 4, 3) := by decide +kernel
theorem d_Mo_methodLine_485 : decode b_Mo_methodLine 485 = .ok (.iconst 0, 1) := by decide +kernel
theorem d_Mo_methodLine_486 : decode b_Mo_methodLine 486 = .ok (.invokevirtual 605, 3) := by decide +kernel
theorem d_Mo_methodLine_489 : decode b_Mo_methodLine 489 = .ok (.aload_n 0, 1) := by decide +kernel
theorem d_Mo_methodLine_490 : decode b_Mo_methodLine 490 = .ok (.bipush 12, 2) := by decide +kernel
theorem d_Mo_methodLine_492 : decode b_Mo_methodLine 492 = .ok (.iload 5, 2) := by decide +kernel
theorem d_Mo_methodLine_494 : decode b_Mo_methodLine 494 = .ok (.bipush 12, 2) := by decide +kernel
theorem d_Mo_methodLine_496 : decode b_Mo_methodLine 496 = .ok (.if_icmp .eq 15, 3) := by decide +kernel
theorem d_Mo_methodLine_499 : decode b_Mo_methodLine 499 = .ok (.aload_n 0, 1) := by decide +kernel
theorem d_Mo_methodLine_500 : decode b_Mo_methodLine 500 = .ok (.getfield 80, 3) := by decide +kernel
theorem d_Mo_methodLine_503 : decode b_Mo_methodLine 503 = .ok (.iload 4, 2) := by decide +kernel
theorem d_Mo_methodLine_505 : decode b_Mo_methodLine 505 = .ok (.iaload, 1) := by decide +kernel
theorem d_Mo_methodLine_506 : decode b_Mo_methodLine 506 = .ok (.bipush 6, 2) := by decide +kernel
theorem d_Mo_methodLine_508 : decode b_Mo_methodLine 508 = .ok (.if_icmp .le 7, 3) := by decide +kernel
theorem d_Mo_methodLine_511 : decode b_Mo_methodLine 511 = .ok (.iconst 1, 1) := by decide +kernel
theorem d_Mo_methodLine_512 : decode b_Mo_methodLine 512 = .ok (.goto 4, 3) := by decide +kernel
theorem d_Mo_methodLine_515 : decode b_Mo_methodLine 515 = .ok (.iconst 0, 1) := by decide +kernel
theorem d_Mo_methodLine_516 : decode b_Mo_methodLine 516 = .ok (.invokevirtual 605, 3) := by decide +kernel
theorem d_Mo_methodLine_519 : decode b_Mo_methodLine 519 = .ok (.aload_n 0, 1) := by decide +kernel
theorem d_Mo_methodLine_520 : decode b_Mo_methodLine 520 = .ok (.getfield 532, 3) := by decide +kernel
theorem d_Mo_methodLine_523 : decode b_Mo_methodLine 523 = .ok (.bipush 99, 2) := by decide +kernel
theorem d_Mo_methodLine_525 : decode b_Mo_methodLine 525 = .ok (.if_icmp .ge 4, 3) := by decide +kernel
theorem d_Mo_methodLine_528 : decode b_Mo_methodLine 528 = .ok (.return_, 1) := by decide +kernel
theorem d_Mo_methodLine_529 : decode b_Mo_methodLine 529 = .ok (.aload_n 0, 1) := by decide +kernel
theorem d_Mo_methodLine_530 : decode b_Mo_methodLine 530 = .ok (.iload 6, 2) := by decide +kernel
theorem d_Mo_methodLine_532 : decode b_Mo_methodLine 532 = .ok (.iload 5, 2) := by decide +kernel
theorem d_Mo_methodLine_534 : decode b_Mo_methodLine 534 = .ok (.iadd, 1) := by decide +kernel
theorem d_Mo_methodLine_535 : decode b_Mo_methodLine 535 = .ok (.putfield 642, 3) := by decide +kernel
theorem d_Mo_methodLine_538 : decode b_Mo_methodLine 538 = .ok (.aload_n 0, 1) := by decide +kernel
theorem d_Mo_methodLine_539 : decode b_Mo_methodLine 539 = .ok (.getfield 522, 3) := by decide +kernel
theorem d_Mo_methodLine_542 : decode b_Mo_methodLine 542 = .ok (.getfield 447, 3) := by decide +kernel
theorem d_Mo_methodLine_545 : decode b_Mo_methodLine 545 = .ok (.aload_n 0, 1) := by decide +kernel
theorem d_Mo_methodLine_546 : decode b_Mo_methodLine 546 = .ok (.getfield 642, 3) := by decide +kernel
theorem d_Mo_methodLine_549 : decode b_Mo_methodLine 549 = .ok (.iload_n 3, 1) := by decide +kernel
theorem d_Mo_methodLine_550 : decode b_Mo_methodLine 550 = .ok (.iastore, 1) := by decide +kernel
theorem d_Mo_methodLine_551 : decode b_Mo_methodLine 551 = .ok (.aload_n 0, 1) := by decide +kernel
theorem d_Mo_methodLine_552 : decode b_Mo_methodLine 552 = .ok (.getfield 522, 3) := by decide +kernel
theorem d_Mo_methodLine_555 : decode b_Mo_methodLine 555 = .ok (.getfield 450, 3) := by decide +kernel
theorem d_Mo_methodLine_558 : decode b_Mo_methodLine 558 = .ok (.aload_n 0, 1) := by decide +kernel
theorem d_Mo_methodLine_559 : decode b_Mo_methodLine 559 = .ok (.getfield 642, 3) := by decide +kernel
theorem d_Mo_methodLine_562 : decode b_Mo_methodLine 562 = .ok (.iload 4, 2) := by decide +kernel
theorem d_Mo_methodLine_564 : decode b_Mo_methodLine 564 = .ok (.iastore, 1) := by decide +kernel
theorem d_Mo_methodLine_565 : decode b_Mo_methodLine 565 = .ok (.aload_n 0, 1) := by decide +kernel
theorem d_Mo_methodLine_566 : decode b_Mo_methodLine 566 = .ok (.getfield 522, 3) := by decide +kernel
theorem d_Mo_methodLine_569 : decode b_Mo_methodLine 569 = .ok (.getfield 453, 3) := by decide +kernel
theorem d_Mo_methodLine_572 : decode b_Mo_methodLine 572 = .ok (.aload_n 0, 1) := by decide +kernel
theorem d_Mo_methodLine_573 : decode b_Mo_methodLine 573 = .ok (.getfield 642, 3) := by decide +kernel
theorem d_Mo_methodLine_576 : decode b_Mo_methodLine 576 = .ok (.iload_n 1, 1) := by decide +kernel
theorem d_Mo_methodLine_577 : decode b_Mo_methodLine 577 = .ok (.iastore, 1) := by decide +kernel
theorem d_Mo_methodLine_578 : decode b_Mo_methodLine 578 = .ok (.aload_n 0, 1) := by decide +kernel
theorem d_Mo_methodLine_579 : decode b_Mo_methodLine 579 = .ok (.getfield 522, 3) := by decide +kernel
theorem d_Mo_methodLine_582 : decode b_Mo_methodLine 582 = .ok (.getfield 456, 3) := by decide +kernel
theorem d_Mo_methodLine_585 : decode b_Mo_methodLine 585 = .ok (.aload_n 0, 1) := by decide +kernel
theorem d_Mo_methodLine_586 : decode b_Mo_methodLine 586 = .ok (.getfield 642, 3) := by decide +kernel
theorem d_Mo_methodLine_589 : decode b_Mo_methodLine 589 = .ok (.iconst 0, 1) := by decide +kernel
theorem d_Mo_methodLine_590 : decode b_Mo_methodLine 590 = .ok (.iastore, 1) := by decide +kernel
theorem d_Mo_methodLine_591 : decode b_Mo_methodLine 591 = .ok (.aload_n 0, 1) := by decide +kernel
theorem d_Mo_methodLine_592 : decode b_Mo_methodLine 592 = .ok (.getfield 522, 3) := by decide +kernel
theorem d_Mo_methodLine_595 : decode b_Mo_methodLine 595 = .ok (.getfield 459, 3) := by decide +kernel
theorem d_Mo_methodLine_598 : decode b_Mo_methodLine 598 = .ok (.aload_n 0, 1) := by decide +kernel
theorem d_Mo_methodLine_599 : decode b_Mo_methodLine 599 = .ok (.getfield 642, 3) := by decide +kernel
theorem d_Mo_methodLine_602 : decode b_Mo_methodLine 602 = .ok (.iconst 0, 1) := by decide +kernel
theorem d_Mo_methodLine_603 : decode b_Mo_methodLine 603 = .ok (.iastore, 1) := by decide +kernel
theorem d_Mo_methodLine_604 : decode b_Mo_methodLine 604 = .ok (.aload_n 0, 1) := by decide +kernel
theorem d_Mo_methodLine_605 : decode b_Mo_methodLine 605 = .ok (.getfield 522, 3) := by decide +kernel
theorem d_Mo_methodLine_608 : decode b_Mo_methodLine 608 = .ok (.getfield 462, 3) := by decide +kernel
theorem d_Mo_methodLine_611 : decode b_Mo_methodLine 611 = .ok (.aload_n 0, 1) := by decide +kernel
theorem d_Mo_methodLine_612 : decode b_Mo_methodLine 612 = .ok (.getfield 642, 3) := by decide +kernel
theorem d_Mo_methodLine_615 : decode b_Mo_methodLine 615 = .ok (.aload_n 0, 1) := by decide +kernel
theorem d_Mo_methodLine_616 : decode b_Mo_methodLine 616 = .ok (.getfield 522, 3) := by decide +kernel
theorem d_Mo_methodLine_619 : decode b_Mo_methodLine 619 = .ok (.getfield 471, 3) := by decide +kernel
theorem d_Mo_methodLine_622 : decode b_Mo_methodLine 622 = .ok (.iastore, 1) := by decide +kernel
theorem d_Mo_methodLine_623 : decode b_Mo_methodLine 623 = .ok (.aload_n 0, 1) := by decide +kernel
theorem d_Mo_methodLine_624 : decode b_Mo_methodLine 624 = .ok (.getfield 522, 3) := by decide +kernel
theorem d_Mo_methodLine_627 : decode b_Mo_methodLine 627 = .ok (.getfield 465, 3) := by decide +kernel
theorem d_Mo_methodLine_630 : decode b_Mo_methodLine 630 = .ok (.aload_n 0, 1) := by decide +kernel
theorem d_Mo_methodLine_631 : decode b_Mo_methodLine 631 = .ok (.getfield 642, 3) := by decide +kernel
theorem d_Mo_methodLine_634 : decode b_Mo_methodLine 634 = .ok (.iconst 0, 1) := by decide +kernel
theorem d_Mo_methodLine_635 : decode b_Mo_methodLine 635 = .ok (.iastore, 1) := by decide +kernel
theorem d_Mo_methodLine_636 : decode b_Mo_methodLine 636 = .ok (.aload_n 0, 1) := by decide +kernel
theorem d_Mo_methodLine_637 : decode b_Mo_methodLine 637 = .ok (.getfield 522, 3) := by decide +kernel
theorem d_Mo_methodLine_640 : decode b_Mo_methodLine 640 = .ok (.getfield 468, 3) := by decide +kernel
theorem d_Mo_methodLine_643 : decode b_Mo_methodLine 643 = .ok (.aload_n 0, 1) := by decide +kernel
theorem d_Mo_methodLine_644 : decode b_Mo_methodLine 644 = .ok (.getfield 642, 3) := by decide +kernel
theorem d_Mo_methodLine_647 : decode b_Mo_methodLine 647 = .ok (.iconst 0, 1) := by decide +kernel
theorem d_Mo_methodLine_648 : decode b_Mo_methodLine 648 = .ok (.iastore, 1) := by decide +kernel
theorem d_Mo_methodLine_649 : decode b_Mo_methodLine 649 = .ok (.aload_n 0, 1) := by decide +kernel
theorem d_Mo_methodLine_650 : decode b_Mo_methodLine 650 = .ok (.getfield 522, 3) := by decide +kernel
theorem d_Mo_methodLine_653 : decode b_Mo_methodLine 653 = .ok (.getfield 438, 3) := by decide +kernel
theorem d_Mo_methodLine_656 : decode b_Mo_methodLine 656 = .ok (.aload_n 0, 1) := by decide +kernel
theorem d_Mo_methodLine_657 : decode b_Mo_methodLine 657 = .ok (.getfield 615, 3) := by decide +kernel
theorem d_Mo_methodLine_660 : decode b_Mo_methodLine 660 = .ok (.dup2, 1) := by decide +kernel
theorem d_Mo_methodLine_661 : decode b_Mo_methodLine 661 = .ok (.iaload, 1) := by decide +kernel
theorem d_Mo_methodLine_662 : decode b_Mo_methodLine 662 = .ok (.iconst 1, 1) := by decide +kernel
theorem d_Mo_methodLine_663 : decode b_Mo_methodLine 663 = .ok (.iadd, 1) := by decide +kernel
theorem d_Mo_methodLine_664 : decode b_Mo_methodLine 664 = .ok (.iastore, 1) := by decide +kernel
theorem d_Mo_methodLine_665 : decode b_Mo_methodLine 665 = .ok (.aload_n 0, 1) := by decide +kernel
theorem d_Mo_methodLine_666 : decode b_Mo_methodLine 666 = .ok (.iconst 0, 1) := by decide +kernel
theorem d_Mo_methodLine_667 : decode b_Mo_methodLine 667 = .ok (.putfield 644, 3) := by decide +kernel
theorem d_Mo_methodLine_670 : decode b_Mo_methodLine 670 = .ok (.aload_n 0, 1) := by decide +kernel
theorem d_Mo_methodLine_671 : decode b_Mo_methodLine 671 = .ok (.iconst 0, 1) := by decide +kernel
theorem d_Mo_methodLine_672 : decode b_Mo_methodLine 672 = .ok (.putfield 647, 3) := by decide +kernel
theorem d_Mo_methodLine_675 : decode b_Mo_methodLine 675 = .ok (.aload_n 0, 1) := by decide +kernel
theorem d_Mo_methodLine_676 : decode b_Mo_methodLine 676 = .ok (.iconst 0, 1) := by decide +kernel
theorem d_Mo_methodLine_677 : decode b_Mo_methodLine 677 = .ok (.putfield 650, 3) := by decide +kernel
theorem d_Mo_methodLine_680 : decode b_Mo_methodLine 680 = .ok (.aload_n 0, 1) := by decide +kernel
theorem d_Mo_methodLine_681 : decode b_Mo_methodLine 681 = .ok (.iload 8, 2) := by decide +kernel
theorem d_Mo_methodLine_683 : decode b_Mo_methodLine 683 = .ok (.ifCond .eq 7, 3) := by decide +kernel
theorem d_Mo_methodLine_686 : decode b_Mo_methodLine 686 = .ok (.iconst 1, 1) := by decide +kernel
theorem d_Mo_methodLine_687 : decode b_Mo_methodLine 687 = .ok (.goto 4, 3) := by decide +kernel
theorem d_Mo_methodLine_690 : decode b_Mo_methodLine 690 = .ok (.iconst 2, 1) := by decide +kernel
theorem d_Mo_methodLine_691 : decode b_Mo_methodLine 691 = .ok (.putfield 566, 3) := by decide +kernel
theorem d_Mo_methodLine_694 : decode b_Mo_methodLine 694 = .ok (.return_, 1) := by decide +kernel
abbrev ra_Mo_methodLine (mc ms : Nat) : Room := { frames := 7, cells := mc, slots := ms, locals := 196 }
def wja_Mo_methodLine_691 (mc ms : Nat) (Post : Ly → St → Nat → Nat → Prop) (PX : Ly → St → Nat → Nat → Prop) (a0 : Nat) (y_j691 : Ly) (s_j691 : St) (d_j691 e_j691 : Nat) (z1j691 : Int32) : Prop := (d_j691 ≤ mc ∧ e_j691 ≤ ms) ∧ xP (uV s_j691 a0 52 z1j691) (fun s_81 : St => Post y_j691 s_81 d_j691 e_j691)
def wja_Mo_methodLine_516 (mc ms : Nat) (Post : Ly → St → Nat → Nat → Prop) (PX : Ly → St → Nat → Nat → Prop) (a0 : Nat) (y_j516 : Ly) (s_j516 : St) (d_j516 e_j516 : Nat) (x1j516 : Int32) (x3j516 : Int32) (x4j516 : Int32) (x5j516 : Int32) (x6j516 : Int32) (x8j516 : Int32) (z1j516 : Int32) (z2j516 : Int32) : Prop := (d_j516 ≤ mc ∧ e_j516 ≤ ms) ∧ wu_Mo_asks y_j516 (fun (s_39 : St) => ((99 ≤ (sV s_39 a0 51) → xP (uV s_39 a0 54 (x6j516 + x5j516)) (fun s_40 : St => ∃ b_41 : Nat, sO s_40 a0 45 = some b_41 ∧ cl b_41 = 13 ∧ xS y_j516 s_40 b_41 18 (sV s_40 a0 54) x3j516 (fun s_44 : St => ∃ b_45 : Nat, sO s_44 a0 45 = some b_45 ∧ cl b_45 = 13 ∧ xS y_j516 s_44 b_45 19 (sV s_44 a0 54) x4j516 (fun s_48 : St => ∃ b_49 : Nat, sO s_48 a0 45 = some b_49 ∧ cl b_49 = 13 ∧ xS y_j516 s_48 b_49 20 (sV s_48 a0 54) x1j516 (fun s_52 : St => ∃ b_53 : Nat, sO s_52 a0 45 = some b_53 ∧ cl b_53 = 13 ∧ xS y_j516 s_52 b_53 21 (sV s_52 a0 54) 0 (fun s_56 : St => ∃ b_57 : Nat, sO s_56 a0 45 = some b_57 ∧ cl b_57 = 13 ∧ xS y_j516 s_56 b_57 22 (sV s_56 a0 54) 0 (fun s_60 : St => ∃ b_61 : Nat, sO s_60 a0 45 = some b_61 ∧ cl b_61 = 13 ∧ xS y_j516 s_60 b_61 23 (sV s_60 a0 54) (sV s_60 b_61 35) (fun s_64 : St => ∃ b_65 : Nat, sO s_64 a0 45 = some b_65 ∧ cl b_65 = 13 ∧ xS y_j516 s_64 b_65 24 (sV s_64 a0 54) 0 (fun s_68 : St => ∃ b_69 : Nat, sO s_68 a0 45 = some b_69 ∧ cl b_69 = 13 ∧ xS y_j516 s_68 b_69 25 (sV s_68 a0 54) 0 (fun s_72 : St => ∃ b_73 : Nat, sO s_72 a0 45 = some b_73 ∧ cl b_73 = 13 ∧ xA y_j516 s_72 b_73 9 (sV s_72 a0 53) (fun x_76 : Int32 => xS y_j516 s_72 b_73 9 (sV s_72 a0 53) (x_76 + 1) (fun s_77 : St => xP (uV s_77 a0 60 0) (fun s_78 : St => xP (uV s_78 a0 64 0) (fun s_79 : St => xP (uV s_79 a0 65 0) (fun s_80 : St => ((x8j516 = 0 → wja_Mo_methodLine_691 mc ms Post PX a0 y_j516 s_80 d_j516 e_j516 2) ∧ (¬ (x8j516 = 0) → wja_Mo_methodLine_691 mc ms Post PX a0 y_j516 s_80 d_j516 e_j516 1))))))))))))))))) ∧ (¬ (99 ≤ (sV s_39 a0 51)) → Post y_j516 s_39 d_j516 e_j516))) s_j516 a0 z1j516 z2j516
def wja_Mo_methodLine_511 (mc ms : Nat) (Post : Ly → St → Nat → Nat → Prop) (PX : Ly → St → Nat → Nat → Prop) (a0 : Nat) (y_j511 : Ly) (s_j511 : St) (d_j511 e_j511 : Nat) (x1j511 : Int32) (x3j511 : Int32) (x4j511 : Int32) (x5j511 : Int32) (x6j511 : Int32) (x8j511 : Int32) (z1j511 : Int32) : Prop := (d_j511 ≤ mc ∧ e_j511 ≤ ms) ∧ wja_Mo_methodLine_516 mc ms Post PX a0 y_j511 s_j511 d_j511 e_j511 x1j511 x3j511 x4j511 x5j511 x6j511 x8j511 z1j511 1
def wja_Mo_methodLine_486 (mc ms : Nat) (Post : Ly → St → Nat → Nat → Prop) (PX : Ly → St → Nat → Nat → Prop) (a0 : Nat) (y_j486 : Ly) (s_j486 : St) (d_j486 e_j486 : Nat) (x1j486 : Int32) (x3j486 : Int32) (x4j486 : Int32) (x5j486 : Int32) (x6j486 : Int32) (x8j486 : Int32) (z1j486 : Int32) (z2j486 : Int32) : Prop := (d_j486 ≤ mc ∧ e_j486 ≤ ms) ∧ wu_Mo_asks y_j486 (fun (s_37 : St) => ((x5j486 = 12 → wja_Mo_methodLine_511 mc ms Post PX a0 y_j486 s_37 d_j486 e_j486 x1j486 x3j486 x4j486 x5j486 x6j486 x8j486 12) ∧ (¬ (x5j486 = 12) → xA y_j486 s_37 a0 31 x4j486 (fun x_82 : Int32 => ((x_82 ≤ 6 → wja_Mo_methodLine_516 mc ms Post PX a0 y_j486 s_37 d_j486 e_j486 x1j486 x3j486 x4j486 x5j486 x6j486 x8j486 12 0) ∧ (¬ (x_82 ≤ 6) → wja_Mo_methodLine_511 mc ms Post PX a0 y_j486 s_37 d_j486 e_j486 x1j486 x3j486 x4j486 x5j486 x6j486 x8j486 12)))))) s_j486 a0 z1j486 z2j486
def wja_Mo_methodLine_485 (mc ms : Nat) (Post : Ly → St → Nat → Nat → Prop) (PX : Ly → St → Nat → Nat → Prop) (a0 : Nat) (y_j485 : Ly) (s_j485 : St) (d_j485 e_j485 : Nat) (x1j485 : Int32) (x3j485 : Int32) (x4j485 : Int32) (x5j485 : Int32) (x6j485 : Int32) (x8j485 : Int32) (z1j485 : Int32) : Prop := (d_j485 ≤ mc ∧ e_j485 ≤ ms) ∧ wja_Mo_methodLine_486 mc ms Post PX a0 y_j485 s_j485 d_j485 e_j485 x1j485 x3j485 x4j485 x5j485 x6j485 x8j485 z1j485 0
def wja_Mo_methodLine_481 (mc ms : Nat) (Post : Ly → St → Nat → Nat → Prop) (PX : Ly → St → Nat → Nat → Prop) (a0 : Nat) (y_j481 : Ly) (s_j481 : St) (d_j481 e_j481 : Nat) (x1j481 : Int32) (x3j481 : Int32) (x4j481 : Int32) (x5j481 : Int32) (x6j481 : Int32) (x8j481 : Int32) (z1j481 : Int32) : Prop := (d_j481 ≤ mc ∧ e_j481 ≤ ms) ∧ wja_Mo_methodLine_486 mc ms Post PX a0 y_j481 s_j481 d_j481 e_j481 x1j481 x3j481 x4j481 x5j481 x6j481 x8j481 z1j481 1
def wja_Mo_methodLine_445 (mc ms : Nat) (Post : Ly → St → Nat → Nat → Prop) (PX : Ly → St → Nat → Nat → Prop) (a0 : Nat) (y_j445 : Ly) (s_j445 : St) (d_j445 e_j445 : Nat) (x1j445 : Int32) (x3j445 : Int32) (x4j445 : Int32) (x5j445 : Int32) (x6j445 : Int32) (x8j445 : Int32) (z1j445 : Int32) (z2j445 : Int32) : Prop := (d_j445 ≤ mc ∧ e_j445 ≤ ms) ∧ wu_Mo_asks y_j445 (fun (s_35 : St) => ((¬ x3j445 = (sV s_35 a0 7) → wja_Mo_methodLine_485 mc ms Post PX a0 y_j445 s_35 d_j445 e_j445 x1j445 x3j445 x4j445 x5j445 x6j445 x8j445 7) ∧ (x3j445 = (sV s_35 a0 7) → (((x1j445 &&& 1) = 0 → wja_Mo_methodLine_481 mc ms Post PX a0 y_j445 s_35 d_j445 e_j445 x1j445 x3j445 x4j445 x5j445 x6j445 x8j445 7) ∧ (¬ ((x1j445 &&& 1) = 0) → ((¬ (x1j445 &&& 14) = 0 → wja_Mo_methodLine_481 mc ms Post PX a0 y_j445 s_35 d_j445 e_j445 x1j445 x3j445 x4j445 x5j445 x6j445 x8j445 7) ∧ ((x1j445 &&& 14) = 0 → ((x4j445 = (sV s_35 a0 38) → wja_Mo_methodLine_485 mc ms Post PX a0 y_j445 s_35 d_j445 e_j445 x1j445 x3j445 x4j445 x5j445 x6j445 x8j445 7) ∧ (¬ (x4j445 = (sV s_35 a0 38)) → wja_Mo_methodLine_481 mc ms Post PX a0 y_j445 s_35 d_j445 e_j445 x1j445 x3j445 x4j445 x5j445 x6j445 x8j445 7))))))))) s_j445 a0 z1j445 z2j445
def wja_Mo_methodLine_444 (mc ms : Nat) (Post : Ly → St → Nat → Nat → Prop) (PX : Ly → St → Nat → Nat → Prop) (a0 : Nat) (y_j444 : Ly) (s_j444 : St) (d_j444 e_j444 : Nat) (x1j444 : Int32) (x3j444 : Int32) (x4j444 : Int32) (x5j444 : Int32) (x6j444 : Int32) (x8j444 : Int32) (z1j444 : Int32) : Prop := (d_j444 ≤ mc ∧ e_j444 ≤ ms) ∧ wja_Mo_methodLine_445 mc ms Post PX a0 y_j444 s_j444 d_j444 e_j444 x1j444 x3j444 x4j444 x5j444 x6j444 x8j444 z1j444 0
def wja_Mo_methodLine_440 (mc ms : Nat) (Post : Ly → St → Nat → Nat → Prop) (PX : Ly → St → Nat → Nat → Prop) (a0 : Nat) (y_j440 : Ly) (s_j440 : St) (d_j440 e_j440 : Nat) (x1j440 : Int32) (x3j440 : Int32) (x4j440 : Int32) (x5j440 : Int32) (x6j440 : Int32) (x8j440 : Int32) (z1j440 : Int32) : Prop := (d_j440 ≤ mc ∧ e_j440 ≤ ms) ∧ wja_Mo_methodLine_445 mc ms Post PX a0 y_j440 s_j440 d_j440 e_j440 x1j440 x3j440 x4j440 x5j440 x6j440 x8j440 z1j440 1
def wja_Mo_methodLine_409 (mc ms : Nat) (Post : Ly → St → Nat → Nat → Prop) (PX : Ly → St → Nat → Nat → Prop) (a0 : Nat) (y_j409 : Ly) (s_j409 : St) (d_j409 e_j409 : Nat) (x1j409 : Int32) (x3j409 : Int32) (x4j409 : Int32) (x5j409 : Int32) (x6j409 : Int32) (x8j409 : Int32) (z1j409 : Int32) (z2j409 : Int32) : Prop := (d_j409 ≤ mc ∧ e_j409 ≤ ms) ∧ wu_Mo_asks y_j409 (fun (s_33 : St) => ((¬ x3j409 = (sV s_33 a0 6) → wja_Mo_methodLine_444 mc ms Post PX a0 y_j409 s_33 d_j409 e_j409 x1j409 x3j409 x4j409 x5j409 x6j409 x8j409 7) ∧ (x3j409 = (sV s_33 a0 6) → ((¬ (x1j409 &&& 11) = 0 → wja_Mo_methodLine_440 mc ms Post PX a0 y_j409 s_33 d_j409 e_j409 x1j409 x3j409 x4j409 x5j409 x6j409 x8j409 7) ∧ ((x1j409 &&& 11) = 0 → xA y_j409 s_33 a0 32 x4j409 (fun x_83 : Int32 => ((x_83 = 0 → wja_Mo_methodLine_444 mc ms Post PX a0 y_j409 s_33 d_j409 e_j409 x1j409 x3j409 x4j409 x5j409 x6j409 x8j409 7) ∧ (¬ (x_83 = 0) → wja_Mo_methodLine_440 mc ms Post PX a0 y_j409 s_33 d_j409 e_j409 x1j409 x3j409 x4j409 x5j409 x6j409 x8j409 7)))))))) s_j409 a0 z1j409 z2j409
def wja_Mo_methodLine_408 (mc ms : Nat) (Post : Ly → St → Nat → Nat → Prop) (PX : Ly → St → Nat → Nat → Prop) (a0 : Nat) (y_j408 : Ly) (s_j408 : St) (d_j408 e_j408 : Nat) (x1j408 : Int32) (x3j408 : Int32) (x4j408 : Int32) (x5j408 : Int32) (x6j408 : Int32) (x8j408 : Int32) (z1j408 : Int32) : Prop := (d_j408 ≤ mc ∧ e_j408 ≤ ms) ∧ wja_Mo_methodLine_409 mc ms Post PX a0 y_j408 s_j408 d_j408 e_j408 x1j408 x3j408 x4j408 x5j408 x6j408 x8j408 z1j408 0
def wja_Mo_methodLine_367 (mc ms : Nat) (Post : Ly → St → Nat → Nat → Prop) (PX : Ly → St → Nat → Nat → Prop) (a0 : Nat) (y_j367 : Ly) (s_j367 : St) (d_j367 e_j367 : Nat) (x1j367 : Int32) (x3j367 : Int32) (x4j367 : Int32) (x5j367 : Int32) (x6j367 : Int32) (x8j367 : Int32) (z1j367 : Int32) (z2j367 : Int32) : Prop := (d_j367 ≤ mc ∧ e_j367 ≤ ms) ∧ wu_Mo_asks y_j367 (fun (s_31 : St) => ((x8j367 = 0 → wja_Mo_methodLine_408 mc ms Post PX a0 y_j367 s_31 d_j367 e_j367 x1j367 x3j367 x4j367 x5j367 x6j367 x8j367 6) ∧ (¬ (x8j367 = 0) → ∃ b_84 : Nat, sO s_31 a0 45 = some b_84 ∧ cl b_84 = 13 ∧ xA y_j367 s_31 b_84 5 (sV s_31 a0 53) (fun x_87 : Int32 => ((¬ (x_87 &&& 6) = 0 → wja_Mo_methodLine_408 mc ms Post PX a0 y_j367 s_31 d_j367 e_j367 x1j367 x3j367 x4j367 x5j367 x6j367 x8j367 6) ∧ ((x_87 &&& 6) = 0 → wu_Mo_isOff y_j367 (fun (s_89 : St) (r_88 : Int32) => ((¬ r_88 = 0 → wja_Mo_methodLine_408 mc ms Post PX a0 y_j367 s_89 d_j367 e_j367 x1j367 x3j367 x4j367 x5j367 x6j367 x8j367 6) ∧ (r_88 = 0 → wja_Mo_methodLine_409 mc ms Post PX a0 y_j367 s_89 d_j367 e_j367 x1j367 x3j367 x4j367 x5j367 x6j367 x8j367 6 1))) s_31 a0 2)))))) s_j367 a0 z1j367 z2j367
def wja_Mo_methodLine_366 (mc ms : Nat) (Post : Ly → St → Nat → Nat → Prop) (PX : Ly → St → Nat → Nat → Prop) (a0 : Nat) (y_j366 : Ly) (s_j366 : St) (d_j366 e_j366 : Nat) (x1j366 : Int32) (x3j366 : Int32) (x4j366 : Int32) (x5j366 : Int32) (x6j366 : Int32) (x8j366 : Int32) (z1j366 : Int32) : Prop := (d_j366 ≤ mc ∧ e_j366 ≤ ms) ∧ wja_Mo_methodLine_367 mc ms Post PX a0 y_j366 s_j366 d_j366 e_j366 x1j366 x3j366 x4j366 x5j366 x6j366 x8j366 z1j366 0
def wja_Mo_methodLine_362 (mc ms : Nat) (Post : Ly → St → Nat → Nat → Prop) (PX : Ly → St → Nat → Nat → Prop) (a0 : Nat) (y_j362 : Ly) (s_j362 : St) (d_j362 e_j362 : Nat) (x1j362 : Int32) (x3j362 : Int32) (x4j362 : Int32) (x5j362 : Int32) (x6j362 : Int32) (x8j362 : Int32) (z1j362 : Int32) : Prop := (d_j362 ≤ mc ∧ e_j362 ≤ ms) ∧ wja_Mo_methodLine_367 mc ms Post PX a0 y_j362 s_j362 d_j362 e_j362 x1j362 x3j362 x4j362 x5j362 x6j362 x8j362 z1j362 1
def wja_Mo_methodLine_329 (mc ms : Nat) (Post : Ly → St → Nat → Nat → Prop) (PX : Ly → St → Nat → Nat → Prop) (a0 : Nat) (y_j329 : Ly) (s_j329 : St) (d_j329 e_j329 : Nat) (x1j329 : Int32) (x3j329 : Int32) (x4j329 : Int32) (x5j329 : Int32) (x6j329 : Int32) (x7j329 : Int32) (x8j329 : Int32) (z1j329 : Int32) (z2j329 : Int32) : Prop := (d_j329 ≤ mc ∧ e_j329 ≤ ms) ∧ wu_Mo_asks y_j329 (fun (s_29 : St) => ((x7j329 = 0 → wja_Mo_methodLine_366 mc ms Post PX a0 y_j329 s_29 d_j329 e_j329 x1j329 x3j329 x4j329 x5j329 x6j329 x8j329 5) ∧ (¬ (x7j329 = 0) → wu_Mo_isOff y_j329 (fun (s_91 : St) (r_90 : Int32) => ((¬ r_90 = 0 → wja_Mo_methodLine_366 mc ms Post PX a0 y_j329 s_91 d_j329 e_j329 x1j329 x3j329 x4j329 x5j329 x6j329 x8j329 5) ∧ (r_90 = 0 → ((¬ (x1j329 &&& 6) = 0 → wja_Mo_methodLine_362 mc ms Post PX a0 y_j329 s_91 d_j329 e_j329 x1j329 x3j329 x4j329 x5j329 x6j329 x8j329 5) ∧ ((x1j329 &&& 6) = 0 → ((¬ x3j329 = (sV s_91 a0 6) → wja_Mo_methodLine_366 mc ms Post PX a0 y_j329 s_91 d_j329 e_j329 x1j329 x3j329 x4j329 x5j329 x6j329 x8j329 5) ∧ (x3j329 = (sV s_91 a0 6) → wja_Mo_methodLine_362 mc ms Post PX a0 y_j329 s_91 d_j329 e_j329 x1j329 x3j329 x4j329 x5j329 x6j329 x8j329 5))))))) s_29 a0 1))) s_j329 a0 z1j329 z2j329
def wja_Mo_methodLine_328 (mc ms : Nat) (Post : Ly → St → Nat → Nat → Prop) (PX : Ly → St → Nat → Nat → Prop) (a0 : Nat) (y_j328 : Ly) (s_j328 : St) (d_j328 e_j328 : Nat) (x1j328 : Int32) (x3j328 : Int32) (x4j328 : Int32) (x5j328 : Int32) (x6j328 : Int32) (x7j328 : Int32) (x8j328 : Int32) (z1j328 : Int32) : Prop := (d_j328 ≤ mc ∧ e_j328 ≤ ms) ∧ wja_Mo_methodLine_329 mc ms Post PX a0 y_j328 s_j328 d_j328 e_j328 x1j328 x3j328 x4j328 x5j328 x6j328 x7j328 x8j328 z1j328 0
def wja_Mo_methodLine_301 (mc ms : Nat) (Post : Ly → St → Nat → Nat → Prop) (PX : Ly → St → Nat → Nat → Prop) (a0 : Nat) (y_j301 : Ly) (s_j301 : St) (d_j301 e_j301 : Nat) (x1j301 : Int32) (x3j301 : Int32) (x4j301 : Int32) (x5j301 : Int32) (x6j301 : Int32) (x7j301 : Int32) (z0j301 : Int32) : Prop := (d_j301 ≤ mc ∧ e_j301 ≤ ms) ∧ ((z0j301 = 0 → wja_Mo_methodLine_328 mc ms Post PX a0 y_j301 s_j301 d_j301 e_j301 x1j301 x3j301 x4j301 x5j301 x6j301 x7j301 z0j301 4) ∧ (¬ (z0j301 = 0) → ((x1j301 = 8 → wja_Mo_methodLine_328 mc ms Post PX a0 y_j301 s_j301 d_j301 e_j301 x1j301 x3j301 x4j301 x5j301 x6j301 x7j301 z0j301 4) ∧ (¬ (x1j301 = 8) → wu_Mo_isOff y_j301 (fun (s_93 : St) (r_92 : Int32) => ((¬ r_92 = 0 → wja_Mo_methodLine_328 mc ms Post PX a0 y_j301 s_93 d_j301 e_j301 x1j301 x3j301 x4j301 x5j301 x6j301 x7j301 z0j301 4) ∧ (r_92 = 0 → wja_Mo_methodLine_329 mc ms Post PX a0 y_j301 s_93 d_j301 e_j301 x1j301 x3j301 x4j301 x5j301 x6j301 x7j301 z0j301 4 1))) s_j301 a0 0))))
def wja_Mo_methodLine_287 (mc ms : Nat) (Post : Ly → St → Nat → Nat → Prop) (PX : Ly → St → Nat → Nat → Prop) (a0 : Nat) (y_j287 : Ly) (s_j287 : St) (d_j287 e_j287 : Nat) (x1j287 : Int32) (x3j287 : Int32) (x4j287 : Int32) (x5j287 : Int32) (x6j287 : Int32) (z0j287 : Int32) : Prop := (d_j287 ≤ mc ∧ e_j287 ≤ ms) ∧ (((x1j287 &&& 8) = 0 → wja_Mo_methodLine_301 mc ms Post PX a0 y_j287 s_j287 d_j287 e_j287 x1j287 x3j287 x4j287 x5j287 x6j287 z0j287 0) ∧ (¬ ((x1j287 &&& 8) = 0) → wja_Mo_methodLine_301 mc ms Post PX a0 y_j287 s_j287 d_j287 e_j287 x1j287 x3j287 x4j287 x5j287 x6j287 z0j287 1))
def wja_Mo_methodLine_256 (mc ms : Nat) (Post : Ly → St → Nat → Nat → Prop) (PX : Ly → St → Nat → Nat → Prop) (K_207 : Ly → St → Nat → Nat → Int32 → Int32 → Int32 → Int32 → Int32 → Int32 → Prop) (a0 : Nat) (y_j256 : Ly) (s_j256 : St) (d_j256 e_j256 : Nat) (x1j256 : Int32) (x3j256 : Int32) (x4j256 : Int32) (x5j256 : Int32) (x6j256 : Int32) (x7j256 : Int32) (z1j256 : Int32) (z2j256 : Int32) : Prop := (d_j256 ≤ mc ∧ e_j256 ≤ ms) ∧ wu_Mo_asks y_j256 (fun (s_99 : St) => K_207 y_j256 s_99 d_j256 e_j256 x1j256 x3j256 x4j256 x5j256 x6j256 (x7j256 + 1)) s_j256 a0 z1j256 z2j256
def wja_Mo_methodLine_255 (mc ms : Nat) (Post : Ly → St → Nat → Nat → Prop) (PX : Ly → St → Nat → Nat → Prop) (K_207 : Ly → St → Nat → Nat → Int32 → Int32 → Int32 → Int32 → Int32 → Int32 → Prop) (a0 : Nat) (y_j255 : Ly) (s_j255 : St) (d_j255 e_j255 : Nat) (x1j255 : Int32) (x3j255 : Int32) (x4j255 : Int32) (x5j255 : Int32) (x6j255 : Int32) (x7j255 : Int32) (z1j255 : Int32) : Prop := (d_j255 ≤ mc ∧ e_j255 ≤ ms) ∧ wja_Mo_methodLine_256 mc ms Post PX K_207 a0 y_j255 s_j255 d_j255 e_j255 x1j255 x3j255 x4j255 x5j255 x6j255 x7j255 z1j255 0
def wba_Mo_methodLine_207 (mc ms : Nat) (Post : Ly → St → Nat → Nat → Prop) (PX : Ly → St → Nat → Nat → Prop) (K_207 : Ly → St → Nat → Nat → Int32 → Int32 → Int32 → Int32 → Int32 → Int32 → Prop) (a0 : Nat) (y_h207 : Ly) (s_h207 : St) (d_h207 e_h207 : Nat) (x1h207 : Int32) (x3h207 : Int32) (x4h207 : Int32) (x5h207 : Int32) (x6h207 : Int32) (x7h207 : Int32) : Prop := (d_h207 ≤ mc ∧ e_h207 ≤ ms) ∧ ((x5h207 ≤ x7h207 → ∃ b_24 : Nat, sO s_h207 a0 45 = some b_24 ∧ cl b_24 = 13 ∧ xA y_h207 s_h207 b_24 5 (sV s_h207 a0 53) (fun x_27 : Int32 => (((x_27 &&& 4) = 0 → wja_Mo_methodLine_287 mc ms Post PX a0 y_h207 s_h207 d_h207 e_h207 x1h207 x3h207 x4h207 x5h207 x6h207 0) ∧ (¬ ((x_27 &&& 4) = 0) → wja_Mo_methodLine_287 mc ms Post PX a0 y_h207 s_h207 d_h207 e_h207 x1h207 x3h207 x4h207 x5h207 x6h207 1)))) ∧ (¬ (x5h207 ≤ x7h207) → ∃ b_94 : Nat, sO s_h207 a0 45 = some b_94 ∧ cl b_94 = 13 ∧ xA y_h207 s_h207 b_94 18 (x6h207 + x7h207) (fun x_97 : Int32 => ((¬ x_97 = x3h207 → wja_Mo_methodLine_255 mc ms Post PX K_207 a0 y_h207 s_h207 d_h207 e_h207 x1h207 x3h207 x4h207 x5h207 x6h207 x7h207 3) ∧ (x_97 = x3h207 → xA y_h207 s_h207 b_94 19 (x6h207 + x7h207) (fun x_100 : Int32 => ((¬ x_100 = x4h207 → wja_Mo_methodLine_255 mc ms Post PX K_207 a0 y_h207 s_h207 d_h207 e_h207 x1h207 x3h207 x4h207 x5h207 x6h207 x7h207 3) ∧ (x_100 = x4h207 → wja_Mo_methodLine_256 mc ms Post PX K_207 a0 y_h207 s_h207 d_h207 e_h207 x1h207 x3h207 x4h207 x5h207 x6h207 x7h207 3 1))))))))
def wla_Mo_methodLine_207 (mc ms : Nat) (Post : Ly → St → Nat → Nat → Prop) (PX : Ly → St → Nat → Nat → Prop) (a0 : Nat) (y_h207 : Ly) (s_h207 : St) (d_h207 e_h207 : Nat) (x1h207 : Int32) (x3h207 : Int32) (x4h207 : Int32) (x5h207 : Int32) (x6h207 : Int32) (x7h207 : Int32) : Prop := ∃ (I : Ly → St → Nat → Nat → Int32 → Int32 → Int32 → Int32 → Int32 → Int32 → Prop) (μ : Ly → St → Nat → Nat → Int32 → Int32 → Int32 → Int32 → Int32 → Int32 → Nat), I y_h207 s_h207 d_h207 e_h207 x1h207 x3h207 x4h207 x5h207 x6h207 x7h207 ∧ ∀ (u1 : Ly) (u2 : St) (u3 u4 : Nat) (t0 : Int32) (t1 : Int32) (t2 : Int32) (t3 : Int32) (t4 : Int32) (t5 : Int32), I u1 u2 u3 u4 t0 t1 t2 t3 t4 t5 → wba_Mo_methodLine_207 mc ms Post PX (fun z1 z2 z3 z4 t0q t1q t2q t3q t4q t5q => I z1 z2 z3 z4 t0q t1q t2q t3q t4q t5q ∧ μ z1 z2 z3 z4 t0q t1q t2q t3q t4q t5q < μ u1 u2 u3 u4 t0 t1 t2 t3 t4 t5) a0 u1 u2 u3 u4 t0 t1 t2 t3 t4 t5
def wja_Mo_methodLine_150 (mc ms : Nat) (Post : Ly → St → Nat → Nat → Prop) (PX : Ly → St → Nat → Nat → Prop) (a0 : Nat) (y_j150 : Ly) (s_j150 : St) (d_j150 e_j150 : Nat) (x1j150 : Int32) : Prop := (d_j150 ≤ mc ∧ e_j150 ≤ ms) ∧ xA y_j150 s_j150 a0 40 (sV s_j150 a0 43) (fun x_2 : Int32 => xP (uV s_j150 a0 43 ((sV s_j150 a0 43) + 1)) (fun s_3 : St => ∃ mc_9 ms_10 : Nat, (d_j150 + mc_9 ≤ mc ∧ e_j150 + ms_10 ≤ ms) ∧ wx_Mo_wholeSignature mc_9 ms_10 y_j150 (fun (y_6 : Ly) (s_5 : St) (r_4 : Int32) (d_7 e_8 : Nat) => (d_j150 + d_7 ≤ mc ∧ e_j150 + e_8 ≤ ms) ∧ ∃ mc_17 ms_18 : Nat, (d_j150 + d_7 + mc_17 ≤ mc ∧ e_j150 + e_8 + ms_18 ≤ ms) ∧ wx_Mo_need mc_17 ms_18 y_6 (fun (y_14 : Ly) (s_13 : St) (d_15 e_16 : Nat) => (d_j150 + d_7 + d_15 ≤ mc ∧ e_j150 + e_8 + e_16 ≤ ms) ∧ ∃ b_20 : Nat, sO s_13 a0 45 = some b_20 ∧ cl b_20 = 13 ∧ xA y_14 s_13 b_20 9 (sV s_13 a0 53) (fun x_23 : Int32 => wla_Mo_methodLine_207 mc ms Post PX a0 y_14 s_13 (d_j150 + d_7 + d_15) (e_j150 + e_8 + e_16) x1j150 x_2 r_4 x_23 (12 * (sV s_13 a0 53)) 0)) (fun (y_14 : Ly) (s_13 : St) (d_15 e_16 : Nat) => ((d_j150 + d_7 + d_15 ≤ mc ∧ e_j150 + e_8 + e_16 ≤ ms) ∧ PX y_14 s_13 (d_j150 + d_7 + d_15) (e_j150 + e_8 + e_16))) s_5 a0 0) (fun (y_6 : Ly) (s_5 : St) (d_7 e_8 : Nat) => ((d_j150 + d_7 ≤ mc ∧ e_j150 + e_8 ≤ ms) ∧ PX y_6 s_5 (d_j150 + d_7) (e_j150 + e_8))) s_3 a0))
def wja_Mo_methodLine_113 (mc ms : Nat) (Post : Ly → St → Nat → Nat → Prop) (PX : Ly → St → Nat → Nat → Prop) (K_4 : Ly → St → Nat → Nat → Int32 → Int32 → Prop) (a0 : Nat) (y_j113 : Ly) (s_j113 : St) (d_j113 e_j113 : Nat) (x1j113 : Int32) (x2j113 : Int32) (z1j113 : Int32) (z2j113 : Int32) : Prop := (d_j113 ≤ mc ∧ e_j113 ≤ ms) ∧ xP (uV s_j113 a0 43 (z1j113 + z2j113)) (fun s_112 : St => K_4 y_j113 s_112 d_j113 e_j113 x1j113 x2j113)
def wja_Mo_methodLine_97 (mc ms : Nat) (Post : Ly → St → Nat → Nat → Prop) (PX : Ly → St → Nat → Nat → Prop) (K_4 : Ly → St → Nat → Nat → Int32 → Int32 → Prop) (a0 : Nat) (y_j97 : Ly) (s_j97 : St) (d_j97 e_j97 : Nat) (x2j97 : Int32) (z0j97 : Int32) (z1j97 : Int32) : Prop := (d_j97 ≤ mc ∧ e_j97 ≤ ms) ∧ ((x2j97 = 0 → wja_Mo_methodLine_113 mc ms Post PX K_4 a0 y_j97 s_j97 d_j97 e_j97 (z0j97 ||| z1j97) x2j97 (sV s_j97 a0 43) 0) ∧ (¬ (x2j97 = 0) → wja_Mo_methodLine_113 mc ms Post PX K_4 a0 y_j97 s_j97 d_j97 e_j97 (z0j97 ||| z1j97) x2j97 (sV s_j97 a0 43) 1))
def wja_Mo_methodLine_86 (mc ms : Nat) (Post : Ly → St → Nat → Nat → Prop) (PX : Ly → St → Nat → Nat → Prop) (K_4 : Ly → St → Nat → Nat → Int32 → Int32 → Prop) (a0 : Nat) (y_j86 : Ly) (s_j86 : St) (d_j86 e_j86 : Nat) (x1j86 : Int32) (x3j86 : Int32) (z0j86 : Int32) : Prop := (d_j86 ≤ mc ∧ e_j86 ≤ ms) ∧ ((z0j86 = 0 → wja_Mo_methodLine_97 mc ms Post PX K_4 a0 y_j86 s_j86 d_j86 e_j86 z0j86 x1j86 0) ∧ (¬ (z0j86 = 0) → wja_Mo_methodLine_97 mc ms Post PX K_4 a0 y_j86 s_j86 d_j86 e_j86 z0j86 x1j86 x3j86))
def wja_Mo_methodLine_85 (mc ms : Nat) (Post : Ly → St → Nat → Nat → Prop) (PX : Ly → St → Nat → Nat → Prop) (K_4 : Ly → St → Nat → Nat → Int32 → Int32 → Prop) (a0 : Nat) (y_j85 : Ly) (s_j85 : St) (d_j85 e_j85 : Nat) (x1j85 : Int32) (x3j85 : Int32) : Prop := (d_j85 ≤ mc ∧ e_j85 ≤ ms) ∧ wja_Mo_methodLine_86 mc ms Post PX K_4 a0 y_j85 s_j85 d_j85 e_j85 x1j85 x3j85 0
def wja_Mo_methodLine_70 (mc ms : Nat) (Post : Ly → St → Nat → Nat → Prop) (PX : Ly → St → Nat → Nat → Prop) (K_4 : Ly → St → Nat → Nat → Int32 → Int32 → Prop) (a0 : Nat) (y_j70 : Ly) (s_j70 : St) (d_j70 e_j70 : Nat) (x1j70 : Int32) (z0j70 : Int32) : Prop := (d_j70 ≤ mc ∧ e_j70 ≤ ms) ∧ ((z0j70 = 0 → wja_Mo_methodLine_85 mc ms Post PX K_4 a0 y_j70 s_j70 d_j70 e_j70 x1j70 z0j70) ∧ (¬ (z0j70 = 0) → ((¬ (x1j70 &&& z0j70) = 0 → wja_Mo_methodLine_85 mc ms Post PX K_4 a0 y_j70 s_j70 d_j70 e_j70 x1j70 z0j70) ∧ ((x1j70 &&& z0j70) = 0 → wja_Mo_methodLine_86 mc ms Post PX K_4 a0 y_j70 s_j70 d_j70 e_j70 x1j70 z0j70 1))))
def wba_Mo_methodLine_4 (mc ms : Nat) (Post : Ly → St → Nat → Nat → Prop) (PX : Ly → St → Nat → Nat → Prop) (K_4 : Ly → St → Nat → Nat → Int32 → Int32 → Prop) (a0 : Nat) (y_h4 : Ly) (s_h4 : St) (d_h4 e_h4 : Nat) (x1h4 : Int32) (x2h4 : Int32) : Prop := (d_h4 ≤ mc ∧ e_h4 ≤ ms) ∧ ((x2h4 = 0 → xA y_h4 s_h4 a0 39 (sV s_h4 a0 43) (fun x_1 : Int32 => ((x_1 = 2 → wja_Mo_methodLine_150 mc ms Post PX a0 y_h4 s_h4 d_h4 e_h4 x1h4) ∧ (¬ (x_1 = 2) → xA y_h4 s_h4 a0 39 (sV s_h4 a0 43) (fun x_101 : Int32 => ((x_101 = 3 → wja_Mo_methodLine_150 mc ms Post PX a0 y_h4 s_h4 d_h4 e_h4 x1h4) ∧ (¬ (x_101 = 3) → ∃ mc_107 ms_108 : Nat, (d_h4 + mc_107 ≤ mc ∧ e_h4 + ms_108 ≤ ms) ∧ wx_Mo_wrong mc_107 ms_108 y_h4 (fun (y_104 : Ly) (s_103 : St) (d_105 e_106 : Nat) => (d_h4 + d_105 ≤ mc ∧ e_h4 + e_106 ≤ ms) ∧ wja_Mo_methodLine_150 mc ms Post PX a0 y_104 s_103 (d_h4 + d_105) (e_h4 + e_106) x1h4) (fun (y_104 : Ly) (s_103 : St) (d_105 e_106 : Nat) => ((d_h4 + d_105 ≤ mc ∧ e_h4 + e_106 ≤ ms) ∧ PX y_104 s_103 (d_h4 + d_105) (e_h4 + e_106))) s_h4 a0))))))) ∧ (¬ (x2h4 = 0) → wu_Mo_isWord y_h4 (fun (s_111 : St) (r_110 : Int32) => ((r_110 = 0 → wu_Mo_isWord y_h4 (fun (s_114 : St) (r_113 : Int32) => ((r_113 = 0 → wu_Mo_isWord y_h4 (fun (s_116 : St) (r_115 : Int32) => ((r_115 = 0 → wu_Mo_isWord y_h4 (fun (s_118 : St) (r_117 : Int32) => ((r_117 = 0 → wja_Mo_methodLine_70 mc ms Post PX K_4 a0 y_h4 s_118 d_h4 e_h4 x1h4 0) ∧ (¬ (r_117 = 0) → wja_Mo_methodLine_70 mc ms Post PX K_4 a0 y_h4 s_118 d_h4 e_h4 x1h4 8))) s_116 a0 (sV s_116 a0 11)) ∧ (¬ (r_115 = 0) → wja_Mo_methodLine_70 mc ms Post PX K_4 a0 y_h4 s_116 d_h4 e_h4 x1h4 4))) s_114 a0 (sV s_114 a0 15)) ∧ (¬ (r_113 = 0) → wja_Mo_methodLine_70 mc ms Post PX K_4 a0 y_h4 s_114 d_h4 e_h4 x1h4 2))) s_111 a0 (sV s_111 a0 10)) ∧ (¬ (r_110 = 0) → wja_Mo_methodLine_70 mc ms Post PX K_4 a0 y_h4 s_111 d_h4 e_h4 x1h4 1))) s_h4 a0 (sV s_h4 a0 29)))
def wla_Mo_methodLine_4 (mc ms : Nat) (Post : Ly → St → Nat → Nat → Prop) (PX : Ly → St → Nat → Nat → Prop) (a0 : Nat) (y_h4 : Ly) (s_h4 : St) (d_h4 e_h4 : Nat) (x1h4 : Int32) (x2h4 : Int32) : Prop := ∃ (I : Ly → St → Nat → Nat → Int32 → Int32 → Prop) (μ : Ly → St → Nat → Nat → Int32 → Int32 → Nat), I y_h4 s_h4 d_h4 e_h4 x1h4 x2h4 ∧ ∀ (u1 : Ly) (u2 : St) (u3 u4 : Nat) (t0 : Int32) (t1 : Int32), I u1 u2 u3 u4 t0 t1 → wba_Mo_methodLine_4 mc ms Post PX (fun z1 z2 z3 z4 t0q t1q => I z1 z2 z3 z4 t0q t1q ∧ μ z1 z2 z3 z4 t0q t1q < μ u1 u2 u3 u4 t0 t1) a0 u1 u2 u3 u4 t0 t1
def wx_Mo_methodLine (mc ms : Nat) (y : Ly) (Post : Ly → St → Nat → Nat → Prop) (PX : Ly → St → Nat → Nat → Prop) (σ : St) (a0 : Nat) : Prop := wla_Mo_methodLine_4 mc ms Post PX a0 y σ 0 0 0 1
set_option maxHeartbeats 4000000 in
set_option maxRecDepth 100000 in
theorem cx_Mo_methodLine (l : Launch) (D : va_G) (g : Nat → ClassId) (ad : Nat → Nat) (mc ms : Nat) (y : Ly) (Post : Ly → St → Nat → Nat → Prop) (PX : Ly → St → Nat → Nat → Prop) (σ : St) (a0 : Nat) (sz uz : Nat) (h_a0 : cl a0 = 14) (h : wx_Mo_methodLine mc ms y Post PX σ a0) : vx_Met l y_Mo_methodLine (mw y_Mo_methodLine b_Mo_methodLine 9 (none)) (ra_Mo_methodLine mc ms) (PCu g D [] [.ref (ad a0)] sz uz (ws g ad y σ)) (va_Qv (fun (u : Ly × St × Nat × Nat) => Post u.1 u.2.1 u.2.2.1 u.2.2.2) (QU D (va_A (ws g ad y σ) sz) (fun u => ws g ad u.1 u.2.1) sz uz (fun u => u.2.2.1) (fun u => u.2.2.2)) (va_A (ws g ad y σ) sz)) (XQ D g ad (va_A (ws g ad y σ) sz) sz uz PX) mc ms (va_A (ws g ad y σ) sz) := by
  refine ofVx (by decide +kernel) (Nat.le_of_ble_eq_true rfl) ?_
  intro p e s m args below meth c A Q ls H locs G hsz hP hD hS hl hret hretX
  subst hsz
  have hl : lv_has ls 9 [(0, .ref (ad a0))] := hl
  have hd : 0 ≤ mc ∧ 0 ≤ ms := ⟨Nat.zero_le _, Nat.zero_le _⟩
  unfold wx_Mo_methodLine at h
  refine lv_iconst (v := 0) G.1 G.2.1 d_Mo_methodLine_0 (by decide) ?_
  refine lv_istore_n (lv' := [(1, .int 0), (0, .ref (ad a0))]) G.1 G.2.1 d_Mo_methodLine_1 rfl hl (by decide) rfl (fun ls hl => ?_)
  refine lv_iconst (v := 1) G.1 G.2.1 d_Mo_methodLine_2 (by decide) ?_
  refine lv_istore_n (lv' := [(2, .int 1), (1, .int 0), (0, .ref (ad a0))]) G.1 G.2.1 d_Mo_methodLine_3 rfl hl (by decide) rfl (fun ls hl => ?_)
  unfold wla_Mo_methodLine_4 at h
  obtain ⟨I_4, μ_4, hI_4, hB_4⟩ := h
  have L_4 : ∀ (n_4 : Nat) (y_h4 : Ly) (s_h4 : St) (d_h4 e_h4 : Nat) (x1h4 : Int32) (x2h4 : Int32), μ_4 y_h4 s_h4 d_h4 e_h4 x1h4 x2h4 < n_4 → I_4 y_h4 s_h4 d_h4 e_h4 x1h4 x2h4 → ∀ (H : Heap) (locs : List Loc), va_P D CL (ws g ad y_h4 s_h4) H → va_D A (ws g ad y_h4 s_h4) → va_S A s.heap H locs → ∀ ls, lv_has ls 9 [(0, .ref (ad a0)), (1, .int x1h4), (2, .int x2h4)] → W p l e (ra_Mo_methodLine mc ms) s m args below meth c H locs d_h4 e_h4 Q (F0 m 4 ls []) := by
    intro n_4
    induction n_4 with
    | zero => intro y_h4 s_h4 d_h4 e_h4 x1h4 x2h4 hμ; exact absurd hμ (Nat.not_lt_zero _)
    | succ n_4 ih_4 =>
      intro y_h4 s_h4 d_h4 e_h4 x1h4 x2h4 hμ_4 hJ H locs hP hD hS ls hl
      obtain ⟨K_4, hK_4, h⟩ : ∃ K : Ly → St → Nat → Nat → Int32 → Int32 → Prop, (∀ z1 z2 z3 z4 (t0 : Int32) (t1 : Int32), K z1 z2 z3 z4 t0 t1 → I_4 z1 z2 z3 z4 t0 t1 ∧ μ_4 z1 z2 z3 z4 t0 t1 < μ_4 y_h4 s_h4 d_h4 e_h4 x1h4 x2h4) ∧ wba_Mo_methodLine_4 mc ms Post PX K a0 y_h4 s_h4 d_h4 e_h4 x1h4 x2h4 := ⟨_, fun _ _ _ _ _ _ h => h, hB_4 y_h4 s_h4 d_h4 e_h4 x1h4 x2h4 hJ⟩
      unfold wba_Mo_methodLine_4 at h
      obtain ⟨hd, h⟩ := h
      refine lv_iload_n G.1 G.2.1 d_Mo_methodLine_4 rfl (lv_at hl 2 rfl) ?_
      refine lv_if_eq (tgt := 120) G.1 G.2.1 d_Mo_methodLine_5 (by decide) (fun c5 => ?_) (fun c5 => ?_)
      · skip
        have h := h.1 c5
        refine lv_aload_n G.1 G.2.1 d_Mo_methodLine_120 rfl (lv_at hl 0 rfl) ?_
        refine ugf (v := .ref (yP y_h4 a0 39)) G hP h_a0 iMo rfl 39 (by decide) rfl q3103 rfl rfl d_Mo_methodLine_121 ?_
        refine lv_aload_n G.1 G.2.1 d_Mo_methodLine_124 rfl (lv_at hl 0 rfl) ?_
        refine ugf (v := .int (sV s_h4 a0 43)) G hP h_a0 iMo rfl 43 (by decide) rfl q3107 rfl rfl d_Mo_methodLine_125 ?_
        refine ubald G hP (kdp h_a0 rfl) (typ h_a0 rfl) h d_Mo_methodLine_128 (fun x_1 h => ?_)
        refine lv_iconst (v := 2) G.1 G.2.1 d_Mo_methodLine_129 (by decide) ?_
        have J_150 : ∀ (y_j150 : Ly) (s_j150 : St) (d_j150 e_j150 : Nat) (x1j150 : Int32) (H : Heap) (locs : List Loc), wja_Mo_methodLine_150 mc ms Post PX a0 y_j150 s_j150 d_j150 e_j150 x1j150 → va_P D CL (ws g ad y_j150 s_j150) H → va_D A (ws g ad y_j150 s_j150) → va_S A s.heap H locs → ∀ ls, lv_has ls 9 [(0, .ref (ad a0)), (1, .int x1j150)] → W p l e (ra_Mo_methodLine mc ms) s m args below meth c H locs d_j150 e_j150 Q (F0 m 150 ls []) := by
          intro y_j150 s_j150 d_j150 e_j150 x1j150 H locs h hP hD hS ls hl
          unfold wja_Mo_methodLine_150 at h
          obtain ⟨hd, h⟩ := h
          refine lv_aload_n G.1 G.2.1 d_Mo_methodLine_150 rfl (lv_at hl 0 rfl) ?_
          refine ugf (v := .ref (yP y_j150 a0 40)) G hP h_a0 iMo rfl 40 (by decide) rfl q3104 rfl rfl d_Mo_methodLine_151 ?_
          refine lv_aload_n G.1 G.2.1 d_Mo_methodLine_154 rfl (lv_at hl 0 rfl) ?_
          refine ugf (v := .int (sV s_j150 a0 43)) G hP h_a0 iMo rfl 43 (by decide) rfl q3107 rfl rfl d_Mo_methodLine_155 ?_
          refine uiald G hP (kdp h_a0 rfl) (typ h_a0 rfl) h d_Mo_methodLine_158 (fun x_2 h => ?_)
          refine lv_istore_n (lv' := [(3, .int x_2), (0, .ref (ad a0)), (1, .int x1j150)]) G.1 G.2.1 d_Mo_methodLine_159 rfl hl (by decide) rfl (fun ls hl => ?_)
          refine lv_aload_n G.1 G.2.1 d_Mo_methodLine_160 rfl (lv_at hl 1 rfl) ?_
          refine lv_dup G.1 G.2.1 d_Mo_methodLine_161 rfl ?_
          refine ugf (v := .int (sV s_j150 a0 43)) G hP h_a0 iMo rfl 43 (by decide) rfl q3107 rfl rfl d_Mo_methodLine_162 ?_
          refine lv_iconst (v := 1) G.1 G.2.1 d_Mo_methodLine_165 (by decide) ?_
          refine lv_iadd G.1 G.2.1 d_Mo_methodLine_166 ?_
          refine W.eq (g2 := F0 m 167 ls [.int ((sV s_j150 a0 43) + 1), .ref (ad a0)]) rfl ?_
          refine upf G hP hD hS h 43 putV h_a0 iMo tMo tMo_ok nMo rfl (by decide) rfl q3107 rfl rfl fV rfl rfl d_Mo_methodLine_167 (fun s_3 H locs h hP hD hS => ?_)
          refine lv_aload_n G.1 G.2.1 d_Mo_methodLine_170 rfl (lv_at hl 1 rfl) ?_
          obtain ⟨mc_9, ms_10, hr_11, h⟩ := h
          refine uxVi (As := []) (rest := []) G hP hD hS (cx_Mo_wholeSignature l D g ad mc_9 ms_10 y_j150 _ _ s_3 a0 H.size (us H) h_a0 h) (fun _ h => absurd h List.not_mem_nil) w9_Mo_wholeSignature q3600 ⟨Nat.le_of_ble_eq_true rfl, Nat.le_of_ble_eq_true rfl⟩ rfl rfl h_a0 (q := (RMo, TMo, 131)) rfl rfl hl.1 rfl (Nat.le_of_ble_eq_true rfl) rfl hr_11 d_Mo_methodLine_171 (fun y_6 s_5 d_7 e_8 H locs q9 ce h hP hD hS hce hcv hcl => ?_) (fun r_4 y_6 s_5 d_7 e_8 H locs h hP hD hS => ?_)
          · skip
            obtain ⟨hd, h⟩ := h
            exact hretX h hP hD hS hd.1 hd.2 hce hcv hcl
          obtain ⟨hd, h⟩ := h
          refine lv_istore (lv' := [(4, .int r_4), (3, .int x_2), (0, .ref (ad a0)), (1, .int x1j150)]) G.1 G.2.1 d_Mo_methodLine_174 hl (by decide) rfl (fun ls hl => ?_)
          refine lv_aload_n G.1 G.2.1 d_Mo_methodLine_176 rfl (lv_at hl 2 rfl) ?_
          refine lv_iconst (v := 0) G.1 G.2.1 d_Mo_methodLine_177 (by decide) ?_
          obtain ⟨mc_17, ms_18, hr_19, h⟩ := h
          refine uxVv (As := [.int 0]) (rest := []) G hP hD hS (cx_Mo_need l D g ad mc_17 ms_18 y_6 _ _ s_5 a0 0 H.size (us H) h_a0 h) (fun _ h => absurd h List.not_mem_nil) w9_Mo_need q3567 ⟨Nat.le_of_ble_eq_true rfl, Nat.le_of_ble_eq_true rfl⟩ rfl rfl h_a0 (q := (RMo, TMo, 131)) rfl rfl hl.1 rfl (Nat.le_of_ble_eq_true rfl) rfl hr_19 d_Mo_methodLine_178 (fun y_14 s_13 d_15 e_16 H locs q9 ce h hP hD hS hce hcv hcl => ?_) (fun y_14 s_13 d_15 e_16 H locs h hP hD hS => ?_)
          · skip
            obtain ⟨hd, h⟩ := h
            exact hretX h hP hD hS hd.1 hd.2 hce hcv hcl
          obtain ⟨hd, h⟩ := h
          refine lv_aload_n G.1 G.2.1 d_Mo_methodLine_181 rfl (lv_at hl 2 rfl) ?_
          obtain ⟨b_20, e_21, c_22, h⟩ := h
          refine ugf (v := .ref (ad b_20)) G hP h_a0 iMo rfl 45 (by decide) rfl q3109 rfl (by show va_rf ((sO s_13 a0 45).map ad) = _; rw [e_21]; rfl) d_Mo_methodLine_182 ?_
          refine ugfN (v := .ref (yP y_14 b_20 9)) G hP c_22 iMw rfl 9 (by decide) rfl q2722 rfl rfl d_Mo_methodLine_185 ?_
          refine lv_aload_n G.1 G.2.1 d_Mo_methodLine_188 rfl (lv_at hl 2 rfl) ?_
          refine ugf (v := .int (sV s_13 a0 53)) G hP h_a0 iMo rfl 53 (by decide) rfl q3117 rfl rfl d_Mo_methodLine_189 ?_
          refine W.eq (g2 := F0 m 192 ls [.int (sV s_13 a0 53), .ref (yP y_14 b_20 9)]) rfl ?_
          refine uiald G hP (kdp c_22 rfl) (typ c_22 rfl) h d_Mo_methodLine_192 (fun x_23 h => ?_)
          refine lv_istore (lv' := [(5, .int x_23), (4, .int r_4), (3, .int x_2), (0, .ref (ad a0)), (1, .int x1j150)]) G.1 G.2.1 d_Mo_methodLine_193 hl (by decide) rfl (fun ls hl => ?_)
          refine lv_bipush (v := 12) G.1 G.2.1 d_Mo_methodLine_195 (by decide) ?_
          refine lv_aload_n G.1 G.2.1 d_Mo_methodLine_197 rfl (lv_at hl 3 rfl) ?_
          refine ugf (v := .int (sV s_13 a0 53)) G hP h_a0 iMo rfl 53 (by decide) rfl q3117 rfl rfl d_Mo_methodLine_198 ?_
          refine lv_imul G.1 G.2.1 d_Mo_methodLine_201 ?_
          refine lv_istore (lv' := [(6, .int (12 * (sV s_13 a0 53))), (5, .int x_23), (4, .int r_4), (3, .int x_2), (0, .ref (ad a0)), (1, .int x1j150)]) G.1 G.2.1 d_Mo_methodLine_202 hl (by decide) rfl (fun ls hl => ?_)
          refine lv_iconst (v := 0) G.1 G.2.1 d_Mo_methodLine_204 (by decide) ?_
          refine lv_istore (lv' := [(7, .int 0), (6, .int (12 * (sV s_13 a0 53))), (5, .int x_23), (4, .int r_4), (3, .int x_2), (0, .ref (ad a0)), (1, .int x1j150)]) G.1 G.2.1 d_Mo_methodLine_205 hl (by decide) rfl (fun ls hl => ?_)
          unfold wla_Mo_methodLine_207 at h
          obtain ⟨I_207, μ_207, hI_207, hB_207⟩ := h
          have L_207 : ∀ (n_207 : Nat) (y_h207 : Ly) (s_h207 : St) (d_h207 e_h207 : Nat) (x1h207 : Int32) (x3h207 : Int32) (x4h207 : Int32) (x5h207 : Int32) (x6h207 : Int32) (x7h207 : Int32), μ_207 y_h207 s_h207 d_h207 e_h207 x1h207 x3h207 x4h207 x5h207 x6h207 x7h207 < n_207 → I_207 y_h207 s_h207 d_h207 e_h207 x1h207 x3h207 x4h207 x5h207 x6h207 x7h207 → ∀ (H : Heap) (locs : List Loc), va_P D CL (ws g ad y_h207 s_h207) H → va_D A (ws g ad y_h207 s_h207) → va_S A s.heap H locs → ∀ ls, lv_has ls 9 [(0, .ref (ad a0)), (1, .int x1h207), (3, .int x3h207), (4, .int x4h207), (5, .int x5h207), (6, .int x6h207), (7, .int x7h207)] → W p l e (ra_Mo_methodLine mc ms) s m args below meth c H locs d_h207 e_h207 Q (F0 m 207 ls []) := by
            intro n_207
            induction n_207 with
            | zero => intro y_h207 s_h207 d_h207 e_h207 x1h207 x3h207 x4h207 x5h207 x6h207 x7h207 hμ; exact absurd hμ (Nat.not_lt_zero _)
            | succ n_207 ih_207 =>
              intro y_h207 s_h207 d_h207 e_h207 x1h207 x3h207 x4h207 x5h207 x6h207 x7h207 hμ_207 hJ H locs hP hD hS ls hl
              obtain ⟨K_207, hK_207, h⟩ : ∃ K : Ly → St → Nat → Nat → Int32 → Int32 → Int32 → Int32 → Int32 → Int32 → Prop, (∀ z1 z2 z3 z4 (t0 : Int32) (t1 : Int32) (t2 : Int32) (t3 : Int32) (t4 : Int32) (t5 : Int32), K z1 z2 z3 z4 t0 t1 t2 t3 t4 t5 → I_207 z1 z2 z3 z4 t0 t1 t2 t3 t4 t5 ∧ μ_207 z1 z2 z3 z4 t0 t1 t2 t3 t4 t5 < μ_207 y_h207 s_h207 d_h207 e_h207 x1h207 x3h207 x4h207 x5h207 x6h207 x7h207) ∧ wba_Mo_methodLine_207 mc ms Post PX K a0 y_h207 s_h207 d_h207 e_h207 x1h207 x3h207 x4h207 x5h207 x6h207 x7h207 := ⟨_, fun _ _ _ _ _ _ _ _ _ _ h => h, hB_207 y_h207 s_h207 d_h207 e_h207 x1h207 x3h207 x4h207 x5h207 x6h207 x7h207 hJ⟩
              unfold wba_Mo_methodLine_207 at h
              obtain ⟨hd, h⟩ := h
              refine lv_iload G.1 G.2.1 d_Mo_methodLine_207 (lv_at hl 6 rfl) ?_
              refine lv_iload G.1 G.2.1 d_Mo_methodLine_209 (lv_at hl 4 rfl) ?_
              refine lv_icmp_ge (tgt := 265) G.1 G.2.1 d_Mo_methodLine_211 (by decide) (fun c211 => ?_) (fun c211 => ?_)
              · skip
                have h := h.1 c211
                refine lv_aload_n G.1 G.2.1 d_Mo_methodLine_265 rfl (lv_at hl 0 rfl) ?_
                obtain ⟨b_24, e_25, c_26, h⟩ := h
                refine ugf (v := .ref (ad b_24)) G hP h_a0 iMo rfl 45 (by decide) rfl q3109 rfl (by show va_rf ((sO s_h207 a0 45).map ad) = _; rw [e_25]; rfl) d_Mo_methodLine_266 ?_
                refine ugfN (v := .ref (yP y_h207 b_24 5)) G hP c_26 iMw rfl 5 (by decide) rfl q2714 rfl rfl d_Mo_methodLine_269 ?_
                refine lv_aload_n G.1 G.2.1 d_Mo_methodLine_272 rfl (lv_at hl 0 rfl) ?_
                refine ugf (v := .int (sV s_h207 a0 53)) G hP h_a0 iMo rfl 53 (by decide) rfl q3117 rfl rfl d_Mo_methodLine_273 ?_
                refine uiald G hP (kdp c_26 rfl) (typ c_26 rfl) h d_Mo_methodLine_276 (fun x_27 h => ?_)
                refine lv_iconst (v := 4) G.1 G.2.1 d_Mo_methodLine_277 (by decide) ?_
                refine lv_iand G.1 G.2.1 d_Mo_methodLine_278 ?_
                have J_287 : ∀ (y_j287 : Ly) (s_j287 : St) (d_j287 e_j287 : Nat) (x1j287 : Int32) (x3j287 : Int32) (x4j287 : Int32) (x5j287 : Int32) (x6j287 : Int32) (z0j287 : Int32) (H : Heap) (locs : List Loc), wja_Mo_methodLine_287 mc ms Post PX a0 y_j287 s_j287 d_j287 e_j287 x1j287 x3j287 x4j287 x5j287 x6j287 z0j287 → va_P D CL (ws g ad y_j287 s_j287) H → va_D A (ws g ad y_j287 s_j287) → va_S A s.heap H locs → ∀ ls, lv_has ls 9 [(0, .ref (ad a0)), (1, .int x1j287), (3, .int x3j287), (4, .int x4j287), (5, .int x5j287), (6, .int x6j287)] → W p l e (ra_Mo_methodLine mc ms) s m args below meth c H locs d_j287 e_j287 Q (F0 m 287 ls [.int z0j287]) := by
                  intro y_j287 s_j287 d_j287 e_j287 x1j287 x3j287 x4j287 x5j287 x6j287 z0j287 H locs h hP hD hS ls hl
                  unfold wja_Mo_methodLine_287 at h
                  obtain ⟨hd, h⟩ := h
                  refine lv_istore (lv' := [(7, .int z0j287), (0, .ref (ad a0)), (1, .int x1j287), (3, .int x3j287), (4, .int x4j287), (5, .int x5j287), (6, .int x6j287)]) G.1 G.2.1 d_Mo_methodLine_287 hl (by decide) rfl (fun ls hl => ?_)
                  refine lv_iload_n G.1 G.2.1 d_Mo_methodLine_289 rfl (lv_at hl 2 rfl) ?_
                  refine lv_bipush (v := 8) G.1 G.2.1 d_Mo_methodLine_290 (by decide) ?_
                  refine lv_iand G.1 G.2.1 d_Mo_methodLine_292 ?_
                  have J_301 : ∀ (y_j301 : Ly) (s_j301 : St) (d_j301 e_j301 : Nat) (x1j301 : Int32) (x3j301 : Int32) (x4j301 : Int32) (x5j301 : Int32) (x6j301 : Int32) (x7j301 : Int32) (z0j301 : Int32) (H : Heap) (locs : List Loc), wja_Mo_methodLine_301 mc ms Post PX a0 y_j301 s_j301 d_j301 e_j301 x1j301 x3j301 x4j301 x5j301 x6j301 x7j301 z0j301 → va_P D CL (ws g ad y_j301 s_j301) H → va_D A (ws g ad y_j301 s_j301) → va_S A s.heap H locs → ∀ ls, lv_has ls 9 [(0, .ref (ad a0)), (1, .int x1j301), (3, .int x3j301), (4, .int x4j301), (5, .int x5j301), (6, .int x6j301), (7, .int x7j301)] → W p l e (ra_Mo_methodLine mc ms) s m args below meth c H locs d_j301 e_j301 Q (F0 m 301 ls [.int z0j301]) := by
                    intro y_j301 s_j301 d_j301 e_j301 x1j301 x3j301 x4j301 x5j301 x6j301 x7j301 z0j301 H locs h hP hD hS ls hl
                    unfold wja_Mo_methodLine_301 at h
                    obtain ⟨hd, h⟩ := h
                    refine lv_istore (lv' := [(8, .int z0j301), (0, .ref (ad a0)), (1, .int x1j301), (3, .int x3j301), (4, .int x4j301), (5, .int x5j301), (6, .int x6j301), (7, .int x7j301)]) G.1 G.2.1 d_Mo_methodLine_301 hl (by decide) rfl (fun ls hl => ?_)
                    refine lv_aload_n G.1 G.2.1 d_Mo_methodLine_303 rfl (lv_at hl 1 rfl) ?_
                    refine lv_iconst (v := 4) G.1 G.2.1 d_Mo_methodLine_304 (by decide) ?_
                    refine lv_iload G.1 G.2.1 d_Mo_methodLine_305 (lv_at hl 0 rfl) ?_
                    have J_329 : ∀ (y_j329 : Ly) (s_j329 : St) (d_j329 e_j329 : Nat) (x1j329 : Int32) (x3j329 : Int32) (x4j329 : Int32) (x5j329 : Int32) (x6j329 : Int32) (x7j329 : Int32) (x8j329 : Int32) (z1j329 : Int32) (z2j329 : Int32) (H : Heap) (locs : List Loc), wja_Mo_methodLine_329 mc ms Post PX a0 y_j329 s_j329 d_j329 e_j329 x1j329 x3j329 x4j329 x5j329 x6j329 x7j329 x8j329 z1j329 z2j329 → va_P D CL (ws g ad y_j329 s_j329) H → va_D A (ws g ad y_j329 s_j329) → va_S A s.heap H locs → ∀ ls, lv_has ls 9 [(0, .ref (ad a0)), (1, .int x1j329), (3, .int x3j329), (4, .int x4j329), (5, .int x5j329), (6, .int x6j329), (7, .int x7j329), (8, .int x8j329)] → W p l e (ra_Mo_methodLine mc ms) s m args below meth c H locs d_j329 e_j329 Q (F0 m 329 ls [.int z2j329, .int z1j329, .ref (ad a0)]) := by
                      intro y_j329 s_j329 d_j329 e_j329 x1j329 x3j329 x4j329 x5j329 x6j329 x7j329 x8j329 z1j329 z2j329 H locs h hP hD hS ls hl
                      unfold wja_Mo_methodLine_329 at h
                      obtain ⟨hd, h⟩ := h
                      refine ucVv (As := [.int z1j329, .int z2j329]) (rest := []) G hP hD hS (cu_Mo_asks l D g ad y_j329 _ s_j329 a0 z1j329 z2j329 H.size h_a0 h) w9_Mo_asks q3575 ⟨Nat.le_of_ble_eq_true rfl, Nat.le_of_ble_eq_true rfl⟩ rfl rfl h_a0 (q := (RMo, TMo, 131)) rfl rfl hl.1 rfl (Nat.le_of_ble_eq_true rfl) rfl hd d_Mo_methodLine_329 (fun s_29 H locs h hP hD hS => ?_)
                      refine lv_aload_n G.1 G.2.1 d_Mo_methodLine_332 rfl (lv_at hl 0 rfl) ?_
                      refine lv_iconst (v := 5) G.1 G.2.1 d_Mo_methodLine_333 (by decide) ?_
                      refine lv_iload G.1 G.2.1 d_Mo_methodLine_334 (lv_at hl 6 rfl) ?_
                      have J_367 : ∀ (y_j367 : Ly) (s_j367 : St) (d_j367 e_j367 : Nat) (x1j367 : Int32) (x3j367 : Int32) (x4j367 : Int32) (x5j367 : Int32) (x6j367 : Int32) (x8j367 : Int32) (z1j367 : Int32) (z2j367 : Int32) (H : Heap) (locs : List Loc), wja_Mo_methodLine_367 mc ms Post PX a0 y_j367 s_j367 d_j367 e_j367 x1j367 x3j367 x4j367 x5j367 x6j367 x8j367 z1j367 z2j367 → va_P D CL (ws g ad y_j367 s_j367) H → va_D A (ws g ad y_j367 s_j367) → va_S A s.heap H locs → ∀ ls, lv_has ls 9 [(0, .ref (ad a0)), (1, .int x1j367), (3, .int x3j367), (4, .int x4j367), (5, .int x5j367), (6, .int x6j367), (8, .int x8j367)] → W p l e (ra_Mo_methodLine mc ms) s m args below meth c H locs d_j367 e_j367 Q (F0 m 367 ls [.int z2j367, .int z1j367, .ref (ad a0)]) := by
                        intro y_j367 s_j367 d_j367 e_j367 x1j367 x3j367 x4j367 x5j367 x6j367 x8j367 z1j367 z2j367 H locs h hP hD hS ls hl
                        unfold wja_Mo_methodLine_367 at h
                        obtain ⟨hd, h⟩ := h
                        refine ucVv (As := [.int z1j367, .int z2j367]) (rest := []) G hP hD hS (cu_Mo_asks l D g ad y_j367 _ s_j367 a0 z1j367 z2j367 H.size h_a0 h) w9_Mo_asks q3575 ⟨Nat.le_of_ble_eq_true rfl, Nat.le_of_ble_eq_true rfl⟩ rfl rfl h_a0 (q := (RMo, TMo, 131)) rfl rfl hl.1 rfl (Nat.le_of_ble_eq_true rfl) rfl hd d_Mo_methodLine_367 (fun s_31 H locs h hP hD hS => ?_)
                        refine lv_aload_n G.1 G.2.1 d_Mo_methodLine_370 rfl (lv_at hl 0 rfl) ?_
                        refine lv_bipush (v := 6) G.1 G.2.1 d_Mo_methodLine_371 (by decide) ?_
                        refine lv_iload G.1 G.2.1 d_Mo_methodLine_373 (lv_at hl 6 rfl) ?_
                        have J_409 : ∀ (y_j409 : Ly) (s_j409 : St) (d_j409 e_j409 : Nat) (x1j409 : Int32) (x3j409 : Int32) (x4j409 : Int32) (x5j409 : Int32) (x6j409 : Int32) (x8j409 : Int32) (z1j409 : Int32) (z2j409 : Int32) (H : Heap) (locs : List Loc), wja_Mo_methodLine_409 mc ms Post PX a0 y_j409 s_j409 d_j409 e_j409 x1j409 x3j409 x4j409 x5j409 x6j409 x8j409 z1j409 z2j409 → va_P D CL (ws g ad y_j409 s_j409) H → va_D A (ws g ad y_j409 s_j409) → va_S A s.heap H locs → ∀ ls, lv_has ls 9 [(0, .ref (ad a0)), (1, .int x1j409), (3, .int x3j409), (4, .int x4j409), (5, .int x5j409), (6, .int x6j409), (8, .int x8j409)] → W p l e (ra_Mo_methodLine mc ms) s m args below meth c H locs d_j409 e_j409 Q (F0 m 409 ls [.int z2j409, .int z1j409, .ref (ad a0)]) := by
                          intro y_j409 s_j409 d_j409 e_j409 x1j409 x3j409 x4j409 x5j409 x6j409 x8j409 z1j409 z2j409 H locs h hP hD hS ls hl
                          unfold wja_Mo_methodLine_409 at h
                          obtain ⟨hd, h⟩ := h
                          refine ucVv (As := [.int z1j409, .int z2j409]) (rest := []) G hP hD hS (cu_Mo_asks l D g ad y_j409 _ s_j409 a0 z1j409 z2j409 H.size h_a0 h) w9_Mo_asks q3575 ⟨Nat.le_of_ble_eq_true rfl, Nat.le_of_ble_eq_true rfl⟩ rfl rfl h_a0 (q := (RMo, TMo, 131)) rfl rfl hl.1 rfl (Nat.le_of_ble_eq_true rfl) rfl hd d_Mo_methodLine_409 (fun s_33 H locs h hP hD hS => ?_)
                          refine lv_aload_n G.1 G.2.1 d_Mo_methodLine_412 rfl (lv_at hl 0 rfl) ?_
                          refine lv_bipush (v := 7) G.1 G.2.1 d_Mo_methodLine_413 (by decide) ?_
                          refine lv_iload_n G.1 G.2.1 d_Mo_methodLine_415 rfl (lv_at hl 2 rfl) ?_
                          refine lv_aload_n G.1 G.2.1 d_Mo_methodLine_416 rfl (lv_at hl 0 rfl) ?_
                          refine ugf (v := .int (sV s_33 a0 6)) G hP h_a0 iMo rfl 6 (by decide) rfl q3070 rfl rfl d_Mo_methodLine_417 ?_
                          have J_445 : ∀ (y_j445 : Ly) (s_j445 : St) (d_j445 e_j445 : Nat) (x1j445 : Int32) (x3j445 : Int32) (x4j445 : Int32) (x5j445 : Int32) (x6j445 : Int32) (x8j445 : Int32) (z1j445 : Int32) (z2j445 : Int32) (H : Heap) (locs : List Loc), wja_Mo_methodLine_445 mc ms Post PX a0 y_j445 s_j445 d_j445 e_j445 x1j445 x3j445 x4j445 x5j445 x6j445 x8j445 z1j445 z2j445 → va_P D CL (ws g ad y_j445 s_j445) H → va_D A (ws g ad y_j445 s_j445) → va_S A s.heap H locs → ∀ ls, lv_has ls 9 [(0, .ref (ad a0)), (1, .int x1j445), (3, .int x3j445), (4, .int x4j445), (5, .int x5j445), (6, .int x6j445), (8, .int x8j445)] → W p l e (ra_Mo_methodLine mc ms) s m args below meth c H locs d_j445 e_j445 Q (F0 m 445 ls [.int z2j445, .int z1j445, .ref (ad a0)]) := by
                            intro y_j445 s_j445 d_j445 e_j445 x1j445 x3j445 x4j445 x5j445 x6j445 x8j445 z1j445 z2j445 H locs h hP hD hS ls hl
                            unfold wja_Mo_methodLine_445 at h
                            obtain ⟨hd, h⟩ := h
                            refine ucVv (As := [.int z1j445, .int z2j445]) (rest := []) G hP hD hS (cu_Mo_asks l D g ad y_j445 _ s_j445 a0 z1j445 z2j445 H.size h_a0 h) w9_Mo_asks q3575 ⟨Nat.le_of_ble_eq_true rfl, Nat.le_of_ble_eq_true rfl⟩ rfl rfl h_a0 (q := (RMo, TMo, 131)) rfl rfl hl.1 rfl (Nat.le_of_ble_eq_true rfl) rfl hd d_Mo_methodLine_445 (fun s_35 H locs h hP hD hS => ?_)
                            refine lv_aload_n G.1 G.2.1 d_Mo_methodLine_448 rfl (lv_at hl 0 rfl) ?_
                            refine lv_bipush (v := 7) G.1 G.2.1 d_Mo_methodLine_449 (by decide) ?_
                            refine lv_iload_n G.1 G.2.1 d_Mo_methodLine_451 rfl (lv_at hl 2 rfl) ?_
                            refine lv_aload_n G.1 G.2.1 d_Mo_methodLine_452 rfl (lv_at hl 0 rfl) ?_
                            refine ugf (v := .int (sV s_35 a0 7)) G hP h_a0 iMo rfl 7 (by decide) rfl q3071 rfl rfl d_Mo_methodLine_453 ?_
                            have J_486 : ∀ (y_j486 : Ly) (s_j486 : St) (d_j486 e_j486 : Nat) (x1j486 : Int32) (x3j486 : Int32) (x4j486 : Int32) (x5j486 : Int32) (x6j486 : Int32) (x8j486 : Int32) (z1j486 : Int32) (z2j486 : Int32) (H : Heap) (locs : List Loc), wja_Mo_methodLine_486 mc ms Post PX a0 y_j486 s_j486 d_j486 e_j486 x1j486 x3j486 x4j486 x5j486 x6j486 x8j486 z1j486 z2j486 → va_P D CL (ws g ad y_j486 s_j486) H → va_D A (ws g ad y_j486 s_j486) → va_S A s.heap H locs → ∀ ls, lv_has ls 9 [(0, .ref (ad a0)), (1, .int x1j486), (3, .int x3j486), (4, .int x4j486), (5, .int x5j486), (6, .int x6j486), (8, .int x8j486)] → W p l e (ra_Mo_methodLine mc ms) s m args below meth c H locs d_j486 e_j486 Q (F0 m 486 ls [.int z2j486, .int z1j486, .ref (ad a0)]) := by
                              intro y_j486 s_j486 d_j486 e_j486 x1j486 x3j486 x4j486 x5j486 x6j486 x8j486 z1j486 z2j486 H locs h hP hD hS ls hl
                              unfold wja_Mo_methodLine_486 at h
                              obtain ⟨hd, h⟩ := h
                              refine ucVv (As := [.int z1j486, .int z2j486]) (rest := []) G hP hD hS (cu_Mo_asks l D g ad y_j486 _ s_j486 a0 z1j486 z2j486 H.size h_a0 h) w9_Mo_asks q3575 ⟨Nat.le_of_ble_eq_true rfl, Nat.le_of_ble_eq_true rfl⟩ rfl rfl h_a0 (q := (RMo, TMo, 131)) rfl rfl hl.1 rfl (Nat.le_of_ble_eq_true rfl) rfl hd d_Mo_methodLine_486 (fun s_37 H locs h hP hD hS => ?_)
                              refine lv_aload_n G.1 G.2.1 d_Mo_methodLine_489 rfl (lv_at hl 0 rfl) ?_
                              refine lv_bipush (v := 12) G.1 G.2.1 d_Mo_methodLine_490 (by decide) ?_
                              refine lv_iload G.1 G.2.1 d_Mo_methodLine_492 (lv_at hl 4 rfl) ?_
                              refine lv_bipush (v := 12) G.1 G.2.1 d_Mo_methodLine_494 (by decide) ?_
                              have J_516 : ∀ (y_j516 : Ly) (s_j516 : St) (d_j516 e_j516 : Nat) (x1j516 : Int32) (x3j516 : Int32) (x4j516 : Int32) (x5j516 : Int32) (x6j516 : Int32) (x8j516 : Int32) (z1j516 : Int32) (z2j516 : Int32) (H : Heap) (locs : List Loc), wja_Mo_methodLine_516 mc ms Post PX a0 y_j516 s_j516 d_j516 e_j516 x1j516 x3j516 x4j516 x5j516 x6j516 x8j516 z1j516 z2j516 → va_P D CL (ws g ad y_j516 s_j516) H → va_D A (ws g ad y_j516 s_j516) → va_S A s.heap H locs → ∀ ls, lv_has ls 9 [(0, .ref (ad a0)), (1, .int x1j516), (3, .int x3j516), (4, .int x4j516), (5, .int x5j516), (6, .int x6j516), (8, .int x8j516)] → W p l e (ra_Mo_methodLine mc ms) s m args below meth c H locs d_j516 e_j516 Q (F0 m 516 ls [.int z2j516, .int z1j516, .ref (ad a0)]) := by
                                intro y_j516 s_j516 d_j516 e_j516 x1j516 x3j516 x4j516 x5j516 x6j516 x8j516 z1j516 z2j516 H locs h hP hD hS ls hl
                                unfold wja_Mo_methodLine_516 at h
                                obtain ⟨hd, h⟩ := h
                                refine ucVv (As := [.int z1j516, .int z2j516]) (rest := []) G hP hD hS (cu_Mo_asks l D g ad y_j516 _ s_j516 a0 z1j516 z2j516 H.size h_a0 h) w9_Mo_asks q3575 ⟨Nat.le_of_ble_eq_true rfl, Nat.le_of_ble_eq_true rfl⟩ rfl rfl h_a0 (q := (RMo, TMo, 131)) rfl rfl hl.1 rfl (Nat.le_of_ble_eq_true rfl) rfl hd d_Mo_methodLine_516 (fun s_39 H locs h hP hD hS => ?_)
                                refine lv_aload_n G.1 G.2.1 d_Mo_methodLine_519 rfl (lv_at hl 0 rfl) ?_
                                refine ugf (v := .int (sV s_39 a0 51)) G hP h_a0 iMo rfl 51 (by decide) rfl q3115 rfl rfl d_Mo_methodLine_520 ?_
                                refine lv_bipush (v := 99) G.1 G.2.1 d_Mo_methodLine_523 (by decide) ?_
                                refine lv_icmp_ge (tgt := 529) G.1 G.2.1 d_Mo_methodLine_525 (by decide) (fun c525 => ?_) (fun c525 => ?_)
                                · skip
                                  have h := h.1 c525
                                  refine lv_aload_n G.1 G.2.1 d_Mo_methodLine_529 rfl (lv_at hl 0 rfl) ?_
                                  refine lv_iload G.1 G.2.1 d_Mo_methodLine_530 (lv_at hl 5 rfl) ?_
                                  refine lv_iload G.1 G.2.1 d_Mo_methodLine_532 (lv_at hl 4 rfl) ?_
                                  refine lv_iadd G.1 G.2.1 d_Mo_methodLine_534 ?_
                                  refine upf G hP hD hS h 54 putV h_a0 iMo tMo tMo_ok nMo rfl (by decide) rfl q3118 rfl rfl fV rfl rfl d_Mo_methodLine_535 (fun s_40 H locs h hP hD hS => ?_)
                                  refine lv_aload_n G.1 G.2.1 d_Mo_methodLine_538 rfl (lv_at hl 0 rfl) ?_
                                  refine W.eq (g2 := F0 m 539 ls [.ref (ad a0)]) rfl ?_
                                  obtain ⟨b_41, e_42, c_43, h⟩ := h
                                  refine ugf (v := .ref (ad b_41)) G hP h_a0 iMo rfl 45 (by decide) rfl q3109 rfl (by show va_rf ((sO s_40 a0 45).map ad) = _; rw [e_42]; rfl) d_Mo_methodLine_539 ?_
                                  refine ugfN (v := .ref (yP y_j516 b_41 18)) G hP c_43 iMw rfl 18 (by decide) rfl q2740 rfl rfl d_Mo_methodLine_542 ?_
                                  refine lv_aload_n G.1 G.2.1 d_Mo_methodLine_545 rfl (lv_at hl 0 rfl) ?_
                                  refine ugf (v := .int (sV s_40 a0 54)) G hP h_a0 iMo rfl 54 (by decide) rfl q3118 rfl rfl d_Mo_methodLine_546 ?_
                                  refine lv_iload_n G.1 G.2.1 d_Mo_methodLine_549 rfl (lv_at hl 2 rfl) ?_
                                  refine uiast G hP hD hS (kdp c_43 rfl) (typ c_43 rfl) h d_Mo_methodLine_550 (fun s_44 H locs h hP hD hS => ?_)
                                  refine lv_aload_n G.1 G.2.1 d_Mo_methodLine_551 rfl (lv_at hl 0 rfl) ?_
                                  obtain ⟨b_45, e_46, c_47, h⟩ := h
                                  refine ugf (v := .ref (ad b_45)) G hP h_a0 iMo rfl 45 (by decide) rfl q3109 rfl (by show va_rf ((sO s_44 a0 45).map ad) = _; rw [e_46]; rfl) d_Mo_methodLine_552 ?_
                                  refine ugfN (v := .ref (yP y_j516 b_45 19)) G hP c_47 iMw rfl 19 (by decide) rfl q2742 rfl rfl d_Mo_methodLine_555 ?_
                                  refine lv_aload_n G.1 G.2.1 d_Mo_methodLine_558 rfl (lv_at hl 0 rfl) ?_
                                  refine ugf (v := .int (sV s_44 a0 54)) G hP h_a0 iMo rfl 54 (by decide) rfl q3118 rfl rfl d_Mo_methodLine_559 ?_
                                  refine lv_iload G.1 G.2.1 d_Mo_methodLine_562 (lv_at hl 3 rfl) ?_
                                  refine W.eq (g2 := F0 m 564 ls [.int x4j516, .int (sV s_44 a0 54), .ref (yP y_j516 b_45 19)]) rfl ?_
                                  refine uiast G hP hD hS (kdp c_47 rfl) (typ c_47 rfl) h d_Mo_methodLine_564 (fun s_48 H locs h hP hD hS => ?_)
                                  refine lv_aload_n G.1 G.2.1 d_Mo_methodLine_565 rfl (lv_at hl 0 rfl) ?_
                                  obtain ⟨b_49, e_50, c_51, h⟩ := h
                                  refine ugf (v := .ref (ad b_49)) G hP h_a0 iMo rfl 45 (by decide) rfl q3109 rfl (by show va_rf ((sO s_48 a0 45).map ad) = _; rw [e_50]; rfl) d_Mo_methodLine_566 ?_
                                  refine ugfN (v := .ref (yP y_j516 b_49 20)) G hP c_51 iMw rfl 20 (by decide) rfl q2744 rfl rfl d_Mo_methodLine_569 ?_
                                  refine lv_aload_n G.1 G.2.1 d_Mo_methodLine_572 rfl (lv_at hl 0 rfl) ?_
                                  refine ugf (v := .int (sV s_48 a0 54)) G hP h_a0 iMo rfl 54 (by decide) rfl q3118 rfl rfl d_Mo_methodLine_573 ?_
                                  refine lv_iload_n G.1 G.2.1 d_Mo_methodLine_576 rfl (lv_at hl 1 rfl) ?_
                                  refine uiast G hP hD hS (kdp c_51 rfl) (typ c_51 rfl) h d_Mo_methodLine_577 (fun s_52 H locs h hP hD hS => ?_)
                                  refine lv_aload_n G.1 G.2.1 d_Mo_methodLine_578 rfl (lv_at hl 0 rfl) ?_
                                  obtain ⟨b_53, e_54, c_55, h⟩ := h
                                  refine ugf (v := .ref (ad b_53)) G hP h_a0 iMo rfl 45 (by decide) rfl q3109 rfl (by show va_rf ((sO s_52 a0 45).map ad) = _; rw [e_54]; rfl) d_Mo_methodLine_579 ?_
                                  refine ugfN (v := .ref (yP y_j516 b_53 21)) G hP c_55 iMw rfl 21 (by decide) rfl q2746 rfl rfl d_Mo_methodLine_582 ?_
                                  refine lv_aload_n G.1 G.2.1 d_Mo_methodLine_585 rfl (lv_at hl 0 rfl) ?_
                                  refine W.eq (g2 := F0 m 586 ls [.ref (ad a0), .ref (yP y_j516 b_53 21)]) rfl ?_
                                  refine ugf (v := .int (sV s_52 a0 54)) G hP h_a0 iMo rfl 54 (by decide) rfl q3118 rfl rfl d_Mo_methodLine_586 ?_
                                  refine lv_iconst (v := 0) G.1 G.2.1 d_Mo_methodLine_589 (by decide) ?_
                                  refine uiast G hP hD hS (kdp c_55 rfl) (typ c_55 rfl) h d_Mo_methodLine_590 (fun s_56 H locs h hP hD hS => ?_)
                                  refine lv_aload_n G.1 G.2.1 d_Mo_methodLine_591 rfl (lv_at hl 0 rfl) ?_
                                  obtain ⟨b_57, e_58, c_59, h⟩ := h
                                  refine ugf (v := .ref (ad b_57)) G hP h_a0 iMo rfl 45 (by decide) rfl q3109 rfl (by show va_rf ((sO s_56 a0 45).map ad) = _; rw [e_58]; rfl) d_Mo_methodLine_592 ?_
                                  refine ugfN (v := .ref (yP y_j516 b_57 22)) G hP c_59 iMw rfl 22 (by decide) rfl q2748 rfl rfl d_Mo_methodLine_595 ?_
                                  refine lv_aload_n G.1 G.2.1 d_Mo_methodLine_598 rfl (lv_at hl 0 rfl) ?_
                                  refine ugf (v := .int (sV s_56 a0 54)) G hP h_a0 iMo rfl 54 (by decide) rfl q3118 rfl rfl d_Mo_methodLine_599 ?_
                                  refine lv_iconst (v := 0) G.1 G.2.1 d_Mo_methodLine_602 (by decide) ?_
                                  refine uiast G hP hD hS (kdp c_59 rfl) (typ c_59 rfl) h d_Mo_methodLine_603 (fun s_60 H locs h hP hD hS => ?_)
                                  refine lv_aload_n G.1 G.2.1 d_Mo_methodLine_604 rfl (lv_at hl 0 rfl) ?_
                                  obtain ⟨b_61, e_62, c_63, h⟩ := h
                                  refine ugf (v := .ref (ad b_61)) G hP h_a0 iMo rfl 45 (by decide) rfl q3109 rfl (by show va_rf ((sO s_60 a0 45).map ad) = _; rw [e_62]; rfl) d_Mo_methodLine_605 ?_
                                  refine W.eq (g2 := F0 m 608 ls [.ref (ad b_61)]) rfl ?_
                                  refine ugfN (v := .ref (yP y_j516 b_61 23)) G hP c_63 iMw rfl 23 (by decide) rfl q2750 rfl rfl d_Mo_methodLine_608 ?_
                                  refine lv_aload_n G.1 G.2.1 d_Mo_methodLine_611 rfl (lv_at hl 0 rfl) ?_
                                  refine ugf (v := .int (sV s_60 a0 54)) G hP h_a0 iMo rfl 54 (by decide) rfl q3118 rfl rfl d_Mo_methodLine_612 ?_
                                  refine lv_aload_n G.1 G.2.1 d_Mo_methodLine_615 rfl (lv_at hl 0 rfl) ?_
                                  refine ugf (v := .ref (ad b_61)) G hP h_a0 iMo rfl 45 (by decide) rfl q3109 rfl (by show va_rf ((sO s_60 a0 45).map ad) = _; rw [e_62]; rfl) d_Mo_methodLine_616 ?_
                                  refine ugfN (v := .int (sV s_60 b_61 35)) G hP c_63 iMw rfl 35 (by decide) rfl q2773 rfl rfl d_Mo_methodLine_619 ?_
                                  refine uiast G hP hD hS (kdp c_63 rfl) (typ c_63 rfl) h d_Mo_methodLine_622 (fun s_64 H locs h hP hD hS => ?_)
                                  refine lv_aload_n G.1 G.2.1 d_Mo_methodLine_623 rfl (lv_at hl 0 rfl) ?_
                                  obtain ⟨b_65, e_66, c_67, h⟩ := h
                                  refine ugf (v := .ref (ad b_65)) G hP h_a0 iMo rfl 45 (by decide) rfl q3109 rfl (by show va_rf ((sO s_64 a0 45).map ad) = _; rw [e_66]; rfl) d_Mo_methodLine_624 ?_
                                  refine ugfN (v := .ref (yP y_j516 b_65 24)) G hP c_67 iMw rfl 24 (by decide) rfl q2752 rfl rfl d_Mo_methodLine_627 ?_
                                  refine lv_aload_n G.1 G.2.1 d_Mo_methodLine_630 rfl (lv_at hl 0 rfl) ?_
                                  refine ugf (v := .int (sV s_64 a0 54)) G hP h_a0 iMo rfl 54 (by decide) rfl q3118 rfl rfl d_Mo_methodLine_631 ?_
                                  refine W.eq (g2 := F0 m 634 ls [.int (sV s_64 a0 54), .ref (yP y_j516 b_65 24)]) rfl ?_
                                  refine lv_iconst (v := 0) G.1 G.2.1 d_Mo_methodLine_634 (by decide) ?_
                                  refine uiast G hP hD hS (kdp c_67 rfl) (typ c_67 rfl) h d_Mo_methodLine_635 (fun s_68 H locs h hP hD hS => ?_)
                                  refine lv_aload_n G.1 G.2.1 d_Mo_methodLine_636 rfl (lv_at hl 0 rfl) ?_
                                  obtain ⟨b_69, e_70, c_71, h⟩ := h
                                  refine ugf (v := .ref (ad b_69)) G hP h_a0 iMo rfl 45 (by decide) rfl q3109 rfl (by show va_rf ((sO s_68 a0 45).map ad) = _; rw [e_70]; rfl) d_Mo_methodLine_637 ?_
                                  refine ugfN (v := .ref (yP y_j516 b_69 25)) G hP c_71 iMw rfl 25 (by decide) rfl q2754 rfl rfl d_Mo_methodLine_640 ?_
                                  refine lv_aload_n G.1 G.2.1 d_Mo_methodLine_643 rfl (lv_at hl 0 rfl) ?_
                                  refine ugf (v := .int (sV s_68 a0 54)) G hP h_a0 iMo rfl 54 (by decide) rfl q3118 rfl rfl d_Mo_methodLine_644 ?_
                                  refine lv_iconst (v := 0) G.1 G.2.1 d_Mo_methodLine_647 (by decide) ?_
                                  refine uiast G hP hD hS (kdp c_71 rfl) (typ c_71 rfl) h d_Mo_methodLine_648 (fun s_72 H locs h hP hD hS => ?_)
                                  refine lv_aload_n G.1 G.2.1 d_Mo_methodLine_649 rfl (lv_at hl 0 rfl) ?_
                                  obtain ⟨b_73, e_74, c_75, h⟩ := h
                                  refine ugf (v := .ref (ad b_73)) G hP h_a0 iMo rfl 45 (by decide) rfl q3109 rfl (by show va_rf ((sO s_72 a0 45).map ad) = _; rw [e_74]; rfl) d_Mo_methodLine_650 ?_
                                  refine ugfN (v := .ref (yP y_j516 b_73 9)) G hP c_75 iMw rfl 9 (by decide) rfl q2722 rfl rfl d_Mo_methodLine_653 ?_
                                  refine W.eq (g2 := F0 m 656 ls [.ref (yP y_j516 b_73 9)]) rfl ?_
                                  refine lv_aload_n G.1 G.2.1 d_Mo_methodLine_656 rfl (lv_at hl 0 rfl) ?_
                                  refine ugf (v := .int (sV s_72 a0 53)) G hP h_a0 iMo rfl 53 (by decide) rfl q3117 rfl rfl d_Mo_methodLine_657 ?_
                                  refine lv_dup2_11 G.1 G.2.1 d_Mo_methodLine_660 rfl rfl ?_
                                  refine uiald G hP (kdp c_75 rfl) (typ c_75 rfl) h d_Mo_methodLine_661 (fun x_76 h => ?_)
                                  refine lv_iconst (v := 1) G.1 G.2.1 d_Mo_methodLine_662 (by decide) ?_
                                  refine lv_iadd G.1 G.2.1 d_Mo_methodLine_663 ?_
                                  refine uiast G hP hD hS (kdp c_75 rfl) (typ c_75 rfl) h d_Mo_methodLine_664 (fun s_77 H locs h hP hD hS => ?_)
                                  refine lv_aload_n G.1 G.2.1 d_Mo_methodLine_665 rfl (lv_at hl 0 rfl) ?_
                                  refine lv_iconst (v := 0) G.1 G.2.1 d_Mo_methodLine_666 (by decide) ?_
                                  refine upf G hP hD hS h 60 putV h_a0 iMo tMo tMo_ok nMo rfl (by decide) rfl q3124 rfl rfl fV rfl rfl d_Mo_methodLine_667 (fun s_78 H locs h hP hD hS => ?_)
                                  refine lv_aload_n G.1 G.2.1 d_Mo_methodLine_670 rfl (lv_at hl 0 rfl) ?_
                                  refine lv_iconst (v := 0) G.1 G.2.1 d_Mo_methodLine_671 (by decide) ?_
                                  refine W.eq (g2 := F0 m 672 ls [.int 0, .ref (ad a0)]) rfl ?_
                                  refine upf G hP hD hS h 64 putV h_a0 iMo tMo tMo_ok nMo rfl (by decide) rfl q3128 rfl rfl fV rfl rfl d_Mo_methodLine_672 (fun s_79 H locs h hP hD hS => ?_)
                                  refine lv_aload_n G.1 G.2.1 d_Mo_methodLine_675 rfl (lv_at hl 0 rfl) ?_
                                  refine lv_iconst (v := 0) G.1 G.2.1 d_Mo_methodLine_676 (by decide) ?_
                                  refine upf G hP hD hS h 65 putV h_a0 iMo tMo tMo_ok nMo rfl (by decide) rfl q3129 rfl rfl fV rfl rfl d_Mo_methodLine_677 (fun s_80 H locs h hP hD hS => ?_)
                                  refine lv_aload_n G.1 G.2.1 d_Mo_methodLine_680 rfl (lv_at hl 0 rfl) ?_
                                  refine lv_iload G.1 G.2.1 d_Mo_methodLine_681 (lv_at hl 6 rfl) ?_
                                  have J_691 : ∀ (y_j691 : Ly) (s_j691 : St) (d_j691 e_j691 : Nat) (z1j691 : Int32) (H : Heap) (locs : List Loc), wja_Mo_methodLine_691 mc ms Post PX a0 y_j691 s_j691 d_j691 e_j691 z1j691 → va_P D CL (ws g ad y_j691 s_j691) H → va_D A (ws g ad y_j691 s_j691) → va_S A s.heap H locs → ∀ ls, lv_has ls 9 [] → W p l e (ra_Mo_methodLine mc ms) s m args below meth c H locs d_j691 e_j691 Q (F0 m 691 ls [.int z1j691, .ref (ad a0)]) := by
                                    intro y_j691 s_j691 d_j691 e_j691 z1j691 H locs h hP hD hS ls hl
                                    unfold wja_Mo_methodLine_691 at h
                                    obtain ⟨hd, h⟩ := h
                                    refine upf G hP hD hS h 52 putV h_a0 iMo tMo tMo_ok nMo rfl (by decide) rfl q3116 rfl rfl fV rfl rfl d_Mo_methodLine_691 (fun s_81 H locs h hP hD hS => ?_)
                                    exact hret (y_j691, s_81, d_j691, e_j691) _ _ _ _ _ ls h hP hD hS (Nat.le_refl _) (Nat.le_refl _) hd.1 hd.2 d_Mo_methodLine_694
                                  refine lv_if_eq (tgt := 690) G.1 G.2.1 d_Mo_methodLine_683 (by decide) (fun c683 => ?_) (fun c683 => ?_)
                                  · skip
                                    have h := h.1 c683
                                    refine lv_iconst (v := 2) G.1 G.2.1 d_Mo_methodLine_690 (by decide) ?_
                                    exact J_691 y_j516 s_80 d_j516 e_j516 2 H locs h hP hD hS ls (lv_sub hl [] rfl)
                                  · skip
                                    have h := h.2 c683
                                    refine lv_iconst (v := 1) G.1 G.2.1 d_Mo_methodLine_686 (by decide) ?_
                                    refine lv_goto (tgt := 691) G.1 G.2.1 d_Mo_methodLine_687 (by decide) ?_
                                    exact J_691 y_j516 s_80 d_j516 e_j516 1 H locs h hP hD hS ls (lv_sub hl [] rfl)
                                · skip
                                  have h := h.2 c525
                                  exact hret (y_j516, s_39, d_j516, e_j516) _ _ _ _ _ ls h hP hD hS (Nat.le_refl _) (Nat.le_refl _) hd.1 hd.2 d_Mo_methodLine_528
                              have J_511 : ∀ (y_j511 : Ly) (s_j511 : St) (d_j511 e_j511 : Nat) (x1j511 : Int32) (x3j511 : Int32) (x4j511 : Int32) (x5j511 : Int32) (x6j511 : Int32) (x8j511 : Int32) (z1j511 : Int32) (H : Heap) (locs : List Loc), wja_Mo_methodLine_511 mc ms Post PX a0 y_j511 s_j511 d_j511 e_j511 x1j511 x3j511 x4j511 x5j511 x6j511 x8j511 z1j511 → va_P D CL (ws g ad y_j511 s_j511) H → va_D A (ws g ad y_j511 s_j511) → va_S A s.heap H locs → ∀ ls, lv_has ls 9 [(0, .ref (ad a0)), (1, .int x1j511), (3, .int x3j511), (4, .int x4j511), (5, .int x5j511), (6, .int x6j511), (8, .int x8j511)] → W p l e (ra_Mo_methodLine mc ms) s m args below meth c H locs d_j511 e_j511 Q (F0 m 511 ls [.int z1j511, .ref (ad a0)]) := by
                                intro y_j511 s_j511 d_j511 e_j511 x1j511 x3j511 x4j511 x5j511 x6j511 x8j511 z1j511 H locs h hP hD hS ls hl
                                unfold wja_Mo_methodLine_511 at h
                                obtain ⟨hd, h⟩ := h
                                refine lv_iconst (v := 1) G.1 G.2.1 d_Mo_methodLine_511 (by decide) ?_
                                refine lv_goto (tgt := 516) G.1 G.2.1 d_Mo_methodLine_512 (by decide) ?_
                                exact J_516 y_j511 s_j511 d_j511 e_j511 x1j511 x3j511 x4j511 x5j511 x6j511 x8j511 z1j511 1 H locs h hP hD hS ls (lv_sub hl [0, 1, 2, 3, 4, 5, 6] rfl)
                              refine lv_icmp_eq (tgt := 511) G.1 G.2.1 d_Mo_methodLine_496 (by decide) (fun c496 => ?_) (fun c496 => ?_)
                              · skip
                                have h := h.1 c496
                                exact J_511 y_j486 s_37 d_j486 e_j486 x1j486 x3j486 x4j486 x5j486 x6j486 x8j486 12 H locs h hP hD hS ls (lv_sub hl [0, 1, 2, 3, 4, 5, 6] rfl)
                              · skip
                                have h := h.2 c496
                                refine lv_aload_n G.1 G.2.1 d_Mo_methodLine_499 rfl (lv_at hl 0 rfl) ?_
                                refine ugf (v := .ref (yP y_j486 a0 31)) G hP h_a0 iMo rfl 31 (by decide) rfl q3095 rfl rfl d_Mo_methodLine_500 ?_
                                refine lv_iload G.1 G.2.1 d_Mo_methodLine_503 (lv_at hl 3 rfl) ?_
                                refine uiald G hP (kdp h_a0 rfl) (typ h_a0 rfl) h d_Mo_methodLine_505 (fun x_82 h => ?_)
                                refine lv_bipush (v := 6) G.1 G.2.1 d_Mo_methodLine_506 (by decide) ?_
                                refine W.eq (g2 := F0 m 508 ls [.int 6, .int x_82, .int 12, .ref (ad a0)]) rfl ?_
                                refine lv_icmp_le (tgt := 515) G.1 G.2.1 d_Mo_methodLine_508 (by decide) (fun c508 => ?_) (fun c508 => ?_)
                                · skip
                                  have h := h.1 c508
                                  refine lv_iconst (v := 0) G.1 G.2.1 d_Mo_methodLine_515 (by decide) ?_
                                  exact J_516 y_j486 s_37 d_j486 e_j486 x1j486 x3j486 x4j486 x5j486 x6j486 x8j486 12 0 H locs h hP hD hS ls (lv_sub hl [0, 1, 2, 3, 4, 5, 6] rfl)
                                · skip
                                  have h := h.2 c508
                                  exact J_511 y_j486 s_37 d_j486 e_j486 x1j486 x3j486 x4j486 x5j486 x6j486 x8j486 12 H locs h hP hD hS ls (lv_sub hl [0, 1, 2, 3, 4, 5, 6] rfl)
                            have J_485 : ∀ (y_j485 : Ly) (s_j485 : St) (d_j485 e_j485 : Nat) (x1j485 : Int32) (x3j485 : Int32) (x4j485 : Int32) (x5j485 : Int32) (x6j485 : Int32) (x8j485 : Int32) (z1j485 : Int32) (H : Heap) (locs : List Loc), wja_Mo_methodLine_485 mc ms Post PX a0 y_j485 s_j485 d_j485 e_j485 x1j485 x3j485 x4j485 x5j485 x6j485 x8j485 z1j485 → va_P D CL (ws g ad y_j485 s_j485) H → va_D A (ws g ad y_j485 s_j485) → va_S A s.heap H locs → ∀ ls, lv_has ls 9 [(0, .ref (ad a0)), (1, .int x1j485), (3, .int x3j485), (4, .int x4j485), (5, .int x5j485), (6, .int x6j485), (8, .int x8j485)] → W p l e (ra_Mo_methodLine mc ms) s m args below meth c H locs d_j485 e_j485 Q (F0 m 485 ls [.int z1j485, .ref (ad a0)]) := by
                              intro y_j485 s_j485 d_j485 e_j485 x1j485 x3j485 x4j485 x5j485 x6j485 x8j485 z1j485 H locs h hP hD hS ls hl
                              unfold wja_Mo_methodLine_485 at h
                              obtain ⟨hd, h⟩ := h
                              refine lv_iconst (v := 0) G.1 G.2.1 d_Mo_methodLine_485 (by decide) ?_
                              exact J_486 y_j485 s_j485 d_j485 e_j485 x1j485 x3j485 x4j485 x5j485 x6j485 x8j485 z1j485 0 H locs h hP hD hS ls (lv_sub hl [0, 1, 2, 3, 4, 5, 6] rfl)
                            refine lv_icmp_ne (tgt := 485) G.1 G.2.1 d_Mo_methodLine_456 (by decide) (fun c456 => ?_) (fun c456 => ?_)
                            · skip
                              have h := h.1 c456
                              exact J_485 y_j445 s_35 d_j445 e_j445 x1j445 x3j445 x4j445 x5j445 x6j445 x8j445 7 H locs h hP hD hS ls (lv_sub hl [0, 1, 2, 3, 4, 5, 6] rfl)
                            · skip
                              have h := h.2 c456
                              refine lv_iload_n G.1 G.2.1 d_Mo_methodLine_459 rfl (lv_at hl 1 rfl) ?_
                              refine lv_iconst (v := 1) G.1 G.2.1 d_Mo_methodLine_460 (by decide) ?_
                              refine lv_iand G.1 G.2.1 d_Mo_methodLine_461 ?_
                              have J_481 : ∀ (y_j481 : Ly) (s_j481 : St) (d_j481 e_j481 : Nat) (x1j481 : Int32) (x3j481 : Int32) (x4j481 : Int32) (x5j481 : Int32) (x6j481 : Int32) (x8j481 : Int32) (z1j481 : Int32) (H : Heap) (locs : List Loc), wja_Mo_methodLine_481 mc ms Post PX a0 y_j481 s_j481 d_j481 e_j481 x1j481 x3j481 x4j481 x5j481 x6j481 x8j481 z1j481 → va_P D CL (ws g ad y_j481 s_j481) H → va_D A (ws g ad y_j481 s_j481) → va_S A s.heap H locs → ∀ ls, lv_has ls 9 [(0, .ref (ad a0)), (1, .int x1j481), (3, .int x3j481), (4, .int x4j481), (5, .int x5j481), (6, .int x6j481), (8, .int x8j481)] → W p l e (ra_Mo_methodLine mc ms) s m args below meth c H locs d_j481 e_j481 Q (F0 m 481 ls [.int z1j481, .ref (ad a0)]) := by
                                intro y_j481 s_j481 d_j481 e_j481 x1j481 x3j481 x4j481 x5j481 x6j481 x8j481 z1j481 H locs h hP hD hS ls hl
                                unfold wja_Mo_methodLine_481 at h
                                obtain ⟨hd, h⟩ := h
                                refine lv_iconst (v := 1) G.1 G.2.1 d_Mo_methodLine_481 (by decide) ?_
                                refine lv_goto (tgt := 486) G.1 G.2.1 d_Mo_methodLine_482 (by decide) ?_
                                exact J_486 y_j481 s_j481 d_j481 e_j481 x1j481 x3j481 x4j481 x5j481 x6j481 x8j481 z1j481 1 H locs h hP hD hS ls (lv_sub hl [0, 1, 2, 3, 4, 5, 6] rfl)
                              refine lv_if_eq (tgt := 481) G.1 G.2.1 d_Mo_methodLine_462 (by decide) (fun c462 => ?_) (fun c462 => ?_)
                              · skip
                                have h := h.1 c462
                                exact J_481 y_j445 s_35 d_j445 e_j445 x1j445 x3j445 x4j445 x5j445 x6j445 x8j445 7 H locs h hP hD hS ls (lv_sub hl [0, 1, 2, 3, 4, 5, 6] rfl)
                              · skip
                                have h := h.2 c462
                                refine W.eq (g2 := F0 m 465 ls [.int 7, .ref (ad a0)]) rfl ?_
                                refine lv_iload_n G.1 G.2.1 d_Mo_methodLine_465 rfl (lv_at hl 1 rfl) ?_
                                refine lv_bipush (v := 14) G.1 G.2.1 d_Mo_methodLine_466 (by decide) ?_
                                refine lv_iand G.1 G.2.1 d_Mo_methodLine_468 ?_
                                refine lv_if_ne (tgt := 481) G.1 G.2.1 d_Mo_methodLine_469 (by decide) (fun c469 => ?_) (fun c469 => ?_)
                                · skip
                                  have h := h.1 c469
                                  exact J_481 y_j445 s_35 d_j445 e_j445 x1j445 x3j445 x4j445 x5j445 x6j445 x8j445 7 H locs h hP hD hS ls (lv_sub hl [0, 1, 2, 3, 4, 5, 6] rfl)
                                · skip
                                  have h := h.2 c469
                                  refine lv_iload G.1 G.2.1 d_Mo_methodLine_472 (lv_at hl 3 rfl) ?_
                                  refine lv_aload_n G.1 G.2.1 d_Mo_methodLine_474 rfl (lv_at hl 0 rfl) ?_
                                  refine ugf (v := .int (sV s_35 a0 38)) G hP h_a0 iMo rfl 38 (by decide) rfl q3102 rfl rfl d_Mo_methodLine_475 ?_
                                  refine lv_icmp_eq (tgt := 485) G.1 G.2.1 d_Mo_methodLine_478 (by decide) (fun c478 => ?_) (fun c478 => ?_)
                                  · skip
                                    have h := h.1 c478
                                    exact J_485 y_j445 s_35 d_j445 e_j445 x1j445 x3j445 x4j445 x5j445 x6j445 x8j445 7 H locs h hP hD hS ls (lv_sub hl [0, 1, 2, 3, 4, 5, 6] rfl)
                                  · skip
                                    have h := h.2 c478
                                    exact J_481 y_j445 s_35 d_j445 e_j445 x1j445 x3j445 x4j445 x5j445 x6j445 x8j445 7 H locs h hP hD hS ls (lv_sub hl [0, 1, 2, 3, 4, 5, 6] rfl)
                          have J_444 : ∀ (y_j444 : Ly) (s_j444 : St) (d_j444 e_j444 : Nat) (x1j444 : Int32) (x3j444 : Int32) (x4j444 : Int32) (x5j444 : Int32) (x6j444 : Int32) (x8j444 : Int32) (z1j444 : Int32) (H : Heap) (locs : List Loc), wja_Mo_methodLine_444 mc ms Post PX a0 y_j444 s_j444 d_j444 e_j444 x1j444 x3j444 x4j444 x5j444 x6j444 x8j444 z1j444 → va_P D CL (ws g ad y_j444 s_j444) H → va_D A (ws g ad y_j444 s_j444) → va_S A s.heap H locs → ∀ ls, lv_has ls 9 [(0, .ref (ad a0)), (1, .int x1j444), (3, .int x3j444), (4, .int x4j444), (5, .int x5j444), (6, .int x6j444), (8, .int x8j444)] → W p l e (ra_Mo_methodLine mc ms) s m args below meth c H locs d_j444 e_j444 Q (F0 m 444 ls [.int z1j444, .ref (ad a0)]) := by
                            intro y_j444 s_j444 d_j444 e_j444 x1j444 x3j444 x4j444 x5j444 x6j444 x8j444 z1j444 H locs h hP hD hS ls hl
                            unfold wja_Mo_methodLine_444 at h
                            obtain ⟨hd, h⟩ := h
                            refine lv_iconst (v := 0) G.1 G.2.1 d_Mo_methodLine_444 (by decide) ?_
                            exact J_445 y_j444 s_j444 d_j444 e_j444 x1j444 x3j444 x4j444 x5j444 x6j444 x8j444 z1j444 0 H locs h hP hD hS ls (lv_sub hl [0, 1, 2, 3, 4, 5, 6] rfl)
                          refine lv_icmp_ne (tgt := 444) G.1 G.2.1 d_Mo_methodLine_420 (by decide) (fun c420 => ?_) (fun c420 => ?_)
                          · skip
                            have h := h.1 c420
                            exact J_444 y_j409 s_33 d_j409 e_j409 x1j409 x3j409 x4j409 x5j409 x6j409 x8j409 7 H locs h hP hD hS ls (lv_sub hl [0, 1, 2, 3, 4, 5, 6] rfl)
                          · skip
                            have h := h.2 c420
                            refine lv_iload_n G.1 G.2.1 d_Mo_methodLine_423 rfl (lv_at hl 1 rfl) ?_
                            refine lv_bipush (v := 11) G.1 G.2.1 d_Mo_methodLine_424 (by decide) ?_
                            refine lv_iand G.1 G.2.1 d_Mo_methodLine_426 ?_
                            have J_440 : ∀ (y_j440 : Ly) (s_j440 : St) (d_j440 e_j440 : Nat) (x1j440 : Int32) (x3j440 : Int32) (x4j440 : Int32) (x5j440 : Int32) (x6j440 : Int32) (x8j440 : Int32) (z1j440 : Int32) (H : Heap) (locs : List Loc), wja_Mo_methodLine_440 mc ms Post PX a0 y_j440 s_j440 d_j440 e_j440 x1j440 x3j440 x4j440 x5j440 x6j440 x8j440 z1j440 → va_P D CL (ws g ad y_j440 s_j440) H → va_D A (ws g ad y_j440 s_j440) → va_S A s.heap H locs → ∀ ls, lv_has ls 9 [(0, .ref (ad a0)), (1, .int x1j440), (3, .int x3j440), (4, .int x4j440), (5, .int x5j440), (6, .int x6j440), (8, .int x8j440)] → W p l e (ra_Mo_methodLine mc ms) s m args below meth c H locs d_j440 e_j440 Q (F0 m 440 ls [.int z1j440, .ref (ad a0)]) := by
                              intro y_j440 s_j440 d_j440 e_j440 x1j440 x3j440 x4j440 x5j440 x6j440 x8j440 z1j440 H locs h hP hD hS ls hl
                              unfold wja_Mo_methodLine_440 at h
                              obtain ⟨hd, h⟩ := h
                              refine lv_iconst (v := 1) G.1 G.2.1 d_Mo_methodLine_440 (by decide) ?_
                              refine lv_goto (tgt := 445) G.1 G.2.1 d_Mo_methodLine_441 (by decide) ?_
                              exact J_445 y_j440 s_j440 d_j440 e_j440 x1j440 x3j440 x4j440 x5j440 x6j440 x8j440 z1j440 1 H locs h hP hD hS ls (lv_sub hl [0, 1, 2, 3, 4, 5, 6] rfl)
                            refine lv_if_ne (tgt := 440) G.1 G.2.1 d_Mo_methodLine_427 (by decide) (fun c427 => ?_) (fun c427 => ?_)
                            · skip
                              have h := h.1 c427
                              exact J_440 y_j409 s_33 d_j409 e_j409 x1j409 x3j409 x4j409 x5j409 x6j409 x8j409 7 H locs h hP hD hS ls (lv_sub hl [0, 1, 2, 3, 4, 5, 6] rfl)
                            · skip
                              have h := h.2 c427
                              refine W.eq (g2 := F0 m 430 ls [.int 7, .ref (ad a0)]) rfl ?_
                              refine lv_aload_n G.1 G.2.1 d_Mo_methodLine_430 rfl (lv_at hl 0 rfl) ?_
                              refine ugf (v := .ref (yP y_j409 a0 32)) G hP h_a0 iMo rfl 32 (by decide) rfl q3096 rfl rfl d_Mo_methodLine_431 ?_
                              refine lv_iload G.1 G.2.1 d_Mo_methodLine_434 (lv_at hl 3 rfl) ?_
                              refine uiald G hP (kdp h_a0 rfl) (typ h_a0 rfl) h d_Mo_methodLine_436 (fun x_83 h => ?_)
                              refine lv_if_eq (tgt := 444) G.1 G.2.1 d_Mo_methodLine_437 (by decide) (fun c437 => ?_) (fun c437 => ?_)
                              · skip
                                have h := h.1 c437
                                exact J_444 y_j409 s_33 d_j409 e_j409 x1j409 x3j409 x4j409 x5j409 x6j409 x8j409 7 H locs h hP hD hS ls (lv_sub hl [0, 1, 2, 3, 4, 5, 6] rfl)
                              · skip
                                have h := h.2 c437
                                exact J_440 y_j409 s_33 d_j409 e_j409 x1j409 x3j409 x4j409 x5j409 x6j409 x8j409 7 H locs h hP hD hS ls (lv_sub hl [0, 1, 2, 3, 4, 5, 6] rfl)
                        have J_408 : ∀ (y_j408 : Ly) (s_j408 : St) (d_j408 e_j408 : Nat) (x1j408 : Int32) (x3j408 : Int32) (x4j408 : Int32) (x5j408 : Int32) (x6j408 : Int32) (x8j408 : Int32) (z1j408 : Int32) (H : Heap) (locs : List Loc), wja_Mo_methodLine_408 mc ms Post PX a0 y_j408 s_j408 d_j408 e_j408 x1j408 x3j408 x4j408 x5j408 x6j408 x8j408 z1j408 → va_P D CL (ws g ad y_j408 s_j408) H → va_D A (ws g ad y_j408 s_j408) → va_S A s.heap H locs → ∀ ls, lv_has ls 9 [(0, .ref (ad a0)), (1, .int x1j408), (3, .int x3j408), (4, .int x4j408), (5, .int x5j408), (6, .int x6j408), (8, .int x8j408)] → W p l e (ra_Mo_methodLine mc ms) s m args below meth c H locs d_j408 e_j408 Q (F0 m 408 ls [.int z1j408, .ref (ad a0)]) := by
                          intro y_j408 s_j408 d_j408 e_j408 x1j408 x3j408 x4j408 x5j408 x6j408 x8j408 z1j408 H locs h hP hD hS ls hl
                          unfold wja_Mo_methodLine_408 at h
                          obtain ⟨hd, h⟩ := h
                          refine lv_iconst (v := 0) G.1 G.2.1 d_Mo_methodLine_408 (by decide) ?_
                          exact J_409 y_j408 s_j408 d_j408 e_j408 x1j408 x3j408 x4j408 x5j408 x6j408 x8j408 z1j408 0 H locs h hP hD hS ls (lv_sub hl [0, 1, 2, 3, 4, 5, 6] rfl)
                        refine lv_if_eq (tgt := 408) G.1 G.2.1 d_Mo_methodLine_375 (by decide) (fun c375 => ?_) (fun c375 => ?_)
                        · skip
                          have h := h.1 c375
                          exact J_408 y_j367 s_31 d_j367 e_j367 x1j367 x3j367 x4j367 x5j367 x6j367 x8j367 6 H locs h hP hD hS ls (lv_sub hl [0, 1, 2, 3, 4, 5, 6] rfl)
                        · skip
                          have h := h.2 c375
                          refine lv_aload_n G.1 G.2.1 d_Mo_methodLine_378 rfl (lv_at hl 0 rfl) ?_
                          obtain ⟨b_84, e_85, c_86, h⟩ := h
                          refine ugf (v := .ref (ad b_84)) G hP h_a0 iMo rfl 45 (by decide) rfl q3109 rfl (by show va_rf ((sO s_31 a0 45).map ad) = _; rw [e_85]; rfl) d_Mo_methodLine_379 ?_
                          refine ugfN (v := .ref (yP y_j367 b_84 5)) G hP c_86 iMw rfl 5 (by decide) rfl q2714 rfl rfl d_Mo_methodLine_382 ?_
                          refine lv_aload_n G.1 G.2.1 d_Mo_methodLine_385 rfl (lv_at hl 0 rfl) ?_
                          refine ugf (v := .int (sV s_31 a0 53)) G hP h_a0 iMo rfl 53 (by decide) rfl q3117 rfl rfl d_Mo_methodLine_386 ?_
                          refine uiald G hP (kdp c_86 rfl) (typ c_86 rfl) h d_Mo_methodLine_389 (fun x_87 h => ?_)
                          refine W.eq (g2 := F0 m 390 ls [.int x_87, .int 6, .ref (ad a0)]) rfl ?_
                          refine lv_bipush (v := 6) G.1 G.2.1 d_Mo_methodLine_390 (by decide) ?_
                          refine lv_iand G.1 G.2.1 d_Mo_methodLine_392 ?_
                          refine lv_if_ne (tgt := 408) G.1 G.2.1 d_Mo_methodLine_393 (by decide) (fun c393 => ?_) (fun c393 => ?_)
                          · skip
                            have h := h.1 c393
                            exact J_408 y_j367 s_31 d_j367 e_j367 x1j367 x3j367 x4j367 x5j367 x6j367 x8j367 6 H locs h hP hD hS ls (lv_sub hl [0, 1, 2, 3, 4, 5, 6] rfl)
                          · skip
                            have h := h.2 c393
                            refine lv_aload_n G.1 G.2.1 d_Mo_methodLine_396 rfl (lv_at hl 0 rfl) ?_
                            refine lv_iconst (v := 2) G.1 G.2.1 d_Mo_methodLine_397 (by decide) ?_
                            refine ucVi (As := [.int 2]) (rest := [.int 6, .ref (ad a0)]) G hP hD hS (cu_Mo_isOff l D g ad y_j367 _ s_31 a0 2 H.size h_a0 h) w9_Mo_isOff q3579 ⟨Nat.le_of_ble_eq_true rfl, Nat.le_of_ble_eq_true rfl⟩ rfl rfl h_a0 (q := (RMo, TMo, 131)) rfl rfl hl.1 rfl (Nat.le_of_ble_eq_true rfl) rfl hd d_Mo_methodLine_398 (fun r_88 s_89 H locs h hP hD hS => ?_)
                            refine lv_if_ne (tgt := 408) G.1 G.2.1 d_Mo_methodLine_401 (by decide) (fun c401 => ?_) (fun c401 => ?_)
                            · skip
                              have h := h.1 c401
                              exact J_408 y_j367 s_89 d_j367 e_j367 x1j367 x3j367 x4j367 x5j367 x6j367 x8j367 6 H locs h hP hD hS ls (lv_sub hl [0, 1, 2, 3, 4, 5, 6] rfl)
                            · skip
                              have h := h.2 c401
                              refine lv_iconst (v := 1) G.1 G.2.1 d_Mo_methodLine_404 (by decide) ?_
                              refine lv_goto (tgt := 409) G.1 G.2.1 d_Mo_methodLine_405 (by decide) ?_
                              exact J_409 y_j367 s_89 d_j367 e_j367 x1j367 x3j367 x4j367 x5j367 x6j367 x8j367 6 1 H locs h hP hD hS ls (lv_sub hl [0, 1, 2, 3, 4, 5, 6] rfl)
                      have J_366 : ∀ (y_j366 : Ly) (s_j366 : St) (d_j366 e_j366 : Nat) (x1j366 : Int32) (x3j366 : Int32) (x4j366 : Int32) (x5j366 : Int32) (x6j366 : Int32) (x8j366 : Int32) (z1j366 : Int32) (H : Heap) (locs : List Loc), wja_Mo_methodLine_366 mc ms Post PX a0 y_j366 s_j366 d_j366 e_j366 x1j366 x3j366 x4j366 x5j366 x6j366 x8j366 z1j366 → va_P D CL (ws g ad y_j366 s_j366) H → va_D A (ws g ad y_j366 s_j366) → va_S A s.heap H locs → ∀ ls, lv_has ls 9 [(0, .ref (ad a0)), (1, .int x1j366), (3, .int x3j366), (4, .int x4j366), (5, .int x5j366), (6, .int x6j366), (8, .int x8j366)] → W p l e (ra_Mo_methodLine mc ms) s m args below meth c H locs d_j366 e_j366 Q (F0 m 366 ls [.int z1j366, .ref (ad a0)]) := by
                        intro y_j366 s_j366 d_j366 e_j366 x1j366 x3j366 x4j366 x5j366 x6j366 x8j366 z1j366 H locs h hP hD hS ls hl
                        unfold wja_Mo_methodLine_366 at h
                        obtain ⟨hd, h⟩ := h
                        refine lv_iconst (v := 0) G.1 G.2.1 d_Mo_methodLine_366 (by decide) ?_
                        exact J_367 y_j366 s_j366 d_j366 e_j366 x1j366 x3j366 x4j366 x5j366 x6j366 x8j366 z1j366 0 H locs h hP hD hS ls (lv_sub hl [0, 1, 2, 3, 4, 5, 6] rfl)
                      refine lv_if_eq (tgt := 366) G.1 G.2.1 d_Mo_methodLine_336 (by decide) (fun c336 => ?_) (fun c336 => ?_)
                      · skip
                        have h := h.1 c336
                        exact J_366 y_j329 s_29 d_j329 e_j329 x1j329 x3j329 x4j329 x5j329 x6j329 x8j329 5 H locs h hP hD hS ls (lv_sub hl [0, 1, 2, 3, 4, 5, 7] rfl)
                      · skip
                        have h := h.2 c336
                        refine lv_aload_n G.1 G.2.1 d_Mo_methodLine_339 rfl (lv_at hl 0 rfl) ?_
                        refine lv_iconst (v := 1) G.1 G.2.1 d_Mo_methodLine_340 (by decide) ?_
                        refine ucVi (As := [.int 1]) (rest := [.int 5, .ref (ad a0)]) G hP hD hS (cu_Mo_isOff l D g ad y_j329 _ s_29 a0 1 H.size h_a0 h) w9_Mo_isOff q3579 ⟨Nat.le_of_ble_eq_true rfl, Nat.le_of_ble_eq_true rfl⟩ rfl rfl h_a0 (q := (RMo, TMo, 131)) rfl rfl hl.1 rfl (Nat.le_of_ble_eq_true rfl) rfl hd d_Mo_methodLine_341 (fun r_90 s_91 H locs h hP hD hS => ?_)
                        refine lv_if_ne (tgt := 366) G.1 G.2.1 d_Mo_methodLine_344 (by decide) (fun c344 => ?_) (fun c344 => ?_)
                        · skip
                          have h := h.1 c344
                          exact J_366 y_j329 s_91 d_j329 e_j329 x1j329 x3j329 x4j329 x5j329 x6j329 x8j329 5 H locs h hP hD hS ls (lv_sub hl [0, 1, 2, 3, 4, 5, 7] rfl)
                        · skip
                          have h := h.2 c344
                          refine lv_iload_n G.1 G.2.1 d_Mo_methodLine_347 rfl (lv_at hl 1 rfl) ?_
                          refine lv_bipush (v := 6) G.1 G.2.1 d_Mo_methodLine_348 (by decide) ?_
                          refine W.eq (g2 := F0 m 350 ls [.int 6, .int x1j329, .int 5, .ref (ad a0)]) rfl ?_
                          refine lv_iand G.1 G.2.1 d_Mo_methodLine_350 ?_
                          have J_362 : ∀ (y_j362 : Ly) (s_j362 : St) (d_j362 e_j362 : Nat) (x1j362 : Int32) (x3j362 : Int32) (x4j362 : Int32) (x5j362 : Int32) (x6j362 : Int32) (x8j362 : Int32) (z1j362 : Int32) (H : Heap) (locs : List Loc), wja_Mo_methodLine_362 mc ms Post PX a0 y_j362 s_j362 d_j362 e_j362 x1j362 x3j362 x4j362 x5j362 x6j362 x8j362 z1j362 → va_P D CL (ws g ad y_j362 s_j362) H → va_D A (ws g ad y_j362 s_j362) → va_S A s.heap H locs → ∀ ls, lv_has ls 9 [(0, .ref (ad a0)), (1, .int x1j362), (3, .int x3j362), (4, .int x4j362), (5, .int x5j362), (6, .int x6j362), (8, .int x8j362)] → W p l e (ra_Mo_methodLine mc ms) s m args below meth c H locs d_j362 e_j362 Q (F0 m 362 ls [.int z1j362, .ref (ad a0)]) := by
                            intro y_j362 s_j362 d_j362 e_j362 x1j362 x3j362 x4j362 x5j362 x6j362 x8j362 z1j362 H locs h hP hD hS ls hl
                            unfold wja_Mo_methodLine_362 at h
                            obtain ⟨hd, h⟩ := h
                            refine lv_iconst (v := 1) G.1 G.2.1 d_Mo_methodLine_362 (by decide) ?_
                            refine lv_goto (tgt := 367) G.1 G.2.1 d_Mo_methodLine_363 (by decide) ?_
                            exact J_367 y_j362 s_j362 d_j362 e_j362 x1j362 x3j362 x4j362 x5j362 x6j362 x8j362 z1j362 1 H locs h hP hD hS ls (lv_sub hl [0, 1, 2, 3, 4, 5, 6] rfl)
                          refine lv_if_ne (tgt := 362) G.1 G.2.1 d_Mo_methodLine_351 (by decide) (fun c351 => ?_) (fun c351 => ?_)
                          · skip
                            have h := h.1 c351
                            exact J_362 y_j329 s_91 d_j329 e_j329 x1j329 x3j329 x4j329 x5j329 x6j329 x8j329 5 H locs h hP hD hS ls (lv_sub hl [0, 1, 2, 3, 4, 5, 7] rfl)
                          · skip
                            have h := h.2 c351
                            refine lv_iload_n G.1 G.2.1 d_Mo_methodLine_354 rfl (lv_at hl 2 rfl) ?_
                            refine lv_aload_n G.1 G.2.1 d_Mo_methodLine_355 rfl (lv_at hl 0 rfl) ?_
                            refine ugf (v := .int (sV s_91 a0 6)) G hP h_a0 iMo rfl 6 (by decide) rfl q3070 rfl rfl d_Mo_methodLine_356 ?_
                            refine lv_icmp_ne (tgt := 366) G.1 G.2.1 d_Mo_methodLine_359 (by decide) (fun c359 => ?_) (fun c359 => ?_)
                            · skip
                              have h := h.1 c359
                              exact J_366 y_j329 s_91 d_j329 e_j329 x1j329 x3j329 x4j329 x5j329 x6j329 x8j329 5 H locs h hP hD hS ls (lv_sub hl [0, 1, 2, 3, 4, 5, 7] rfl)
                            · skip
                              have h := h.2 c359
                              exact J_362 y_j329 s_91 d_j329 e_j329 x1j329 x3j329 x4j329 x5j329 x6j329 x8j329 5 H locs h hP hD hS ls (lv_sub hl [0, 1, 2, 3, 4, 5, 7] rfl)
                    have J_328 : ∀ (y_j328 : Ly) (s_j328 : St) (d_j328 e_j328 : Nat) (x1j328 : Int32) (x3j328 : Int32) (x4j328 : Int32) (x5j328 : Int32) (x6j328 : Int32) (x7j328 : Int32) (x8j328 : Int32) (z1j328 : Int32) (H : Heap) (locs : List Loc), wja_Mo_methodLine_328 mc ms Post PX a0 y_j328 s_j328 d_j328 e_j328 x1j328 x3j328 x4j328 x5j328 x6j328 x7j328 x8j328 z1j328 → va_P D CL (ws g ad y_j328 s_j328) H → va_D A (ws g ad y_j328 s_j328) → va_S A s.heap H locs → ∀ ls, lv_has ls 9 [(0, .ref (ad a0)), (1, .int x1j328), (3, .int x3j328), (4, .int x4j328), (5, .int x5j328), (6, .int x6j328), (7, .int x7j328), (8, .int x8j328)] → W p l e (ra_Mo_methodLine mc ms) s m args below meth c H locs d_j328 e_j328 Q (F0 m 328 ls [.int z1j328, .ref (ad a0)]) := by
                      intro y_j328 s_j328 d_j328 e_j328 x1j328 x3j328 x4j328 x5j328 x6j328 x7j328 x8j328 z1j328 H locs h hP hD hS ls hl
                      unfold wja_Mo_methodLine_328 at h
                      obtain ⟨hd, h⟩ := h
                      refine lv_iconst (v := 0) G.1 G.2.1 d_Mo_methodLine_328 (by decide) ?_
                      exact J_329 y_j328 s_j328 d_j328 e_j328 x1j328 x3j328 x4j328 x5j328 x6j328 x7j328 x8j328 z1j328 0 H locs h hP hD hS ls (lv_sub hl [0, 1, 2, 3, 4, 5, 6, 7] rfl)
                    refine lv_if_eq (tgt := 328) G.1 G.2.1 d_Mo_methodLine_307 (by decide) (fun c307 => ?_) (fun c307 => ?_)
                    · skip
                      have h := h.1 c307
                      exact J_328 y_j301 s_j301 d_j301 e_j301 x1j301 x3j301 x4j301 x5j301 x6j301 x7j301 z0j301 4 H locs h hP hD hS ls (lv_sub hl [1, 2, 3, 4, 5, 6, 7, 0] rfl)
                    · skip
                      have h := h.2 c307
                      refine lv_iload_n G.1 G.2.1 d_Mo_methodLine_310 rfl (lv_at hl 2 rfl) ?_
                      refine lv_bipush (v := 8) G.1 G.2.1 d_Mo_methodLine_311 (by decide) ?_
                      refine lv_icmp_eq (tgt := 328) G.1 G.2.1 d_Mo_methodLine_313 (by decide) (fun c313 => ?_) (fun c313 => ?_)
                      · skip
                        have h := h.1 c313
                        exact J_328 y_j301 s_j301 d_j301 e_j301 x1j301 x3j301 x4j301 x5j301 x6j301 x7j301 z0j301 4 H locs h hP hD hS ls (lv_sub hl [1, 2, 3, 4, 5, 6, 7, 0] rfl)
                      · skip
                        have h := h.2 c313
                        refine lv_aload_n G.1 G.2.1 d_Mo_methodLine_316 rfl (lv_at hl 1 rfl) ?_
                        refine lv_iconst (v := 0) G.1 G.2.1 d_Mo_methodLine_317 (by decide) ?_
                        refine ucVi (As := [.int 0]) (rest := [.int 4, .ref (ad a0)]) G hP hD hS (cu_Mo_isOff l D g ad y_j301 _ s_j301 a0 0 H.size h_a0 h) w9_Mo_isOff q3579 ⟨Nat.le_of_ble_eq_true rfl, Nat.le_of_ble_eq_true rfl⟩ rfl rfl h_a0 (q := (RMo, TMo, 131)) rfl rfl hl.1 rfl (Nat.le_of_ble_eq_true rfl) rfl hd d_Mo_methodLine_318 (fun r_92 s_93 H locs h hP hD hS => ?_)
                        refine W.eq (g2 := F0 m 321 ls [.int r_92, .int 4, .ref (ad a0)]) rfl ?_
                        refine lv_if_ne (tgt := 328) G.1 G.2.1 d_Mo_methodLine_321 (by decide) (fun c321 => ?_) (fun c321 => ?_)
                        · skip
                          have h := h.1 c321
                          exact J_328 y_j301 s_93 d_j301 e_j301 x1j301 x3j301 x4j301 x5j301 x6j301 x7j301 z0j301 4 H locs h hP hD hS ls (lv_sub hl [1, 2, 3, 4, 5, 6, 7, 0] rfl)
                        · skip
                          have h := h.2 c321
                          refine lv_iconst (v := 1) G.1 G.2.1 d_Mo_methodLine_324 (by decide) ?_
                          refine lv_goto (tgt := 329) G.1 G.2.1 d_Mo_methodLine_325 (by decide) ?_
                          exact J_329 y_j301 s_93 d_j301 e_j301 x1j301 x3j301 x4j301 x5j301 x6j301 x7j301 z0j301 4 1 H locs h hP hD hS ls (lv_sub hl [1, 2, 3, 4, 5, 6, 7, 0] rfl)
                  refine lv_if_eq (tgt := 300) G.1 G.2.1 d_Mo_methodLine_293 (by decide) (fun c293 => ?_) (fun c293 => ?_)
                  · skip
                    have h := h.1 c293
                    refine lv_iconst (v := 0) G.1 G.2.1 d_Mo_methodLine_300 (by decide) ?_
                    exact J_301 y_j287 s_j287 d_j287 e_j287 x1j287 x3j287 x4j287 x5j287 x6j287 z0j287 0 H locs h hP hD hS ls (lv_sub hl [1, 2, 3, 4, 5, 6, 0] rfl)
                  · skip
                    have h := h.2 c293
                    refine lv_iconst (v := 1) G.1 G.2.1 d_Mo_methodLine_296 (by decide) ?_
                    refine lv_goto (tgt := 301) G.1 G.2.1 d_Mo_methodLine_297 (by decide) ?_
                    exact J_301 y_j287 s_j287 d_j287 e_j287 x1j287 x3j287 x4j287 x5j287 x6j287 z0j287 1 H locs h hP hD hS ls (lv_sub hl [1, 2, 3, 4, 5, 6, 0] rfl)
                refine W.eq (g2 := F0 m 279 ls [.int (x_27 &&& 4)]) rfl ?_
                refine lv_if_eq (tgt := 286) G.1 G.2.1 d_Mo_methodLine_279 (by decide) (fun c279 => ?_) (fun c279 => ?_)
                · skip
                  have h := h.1 c279
                  refine lv_iconst (v := 0) G.1 G.2.1 d_Mo_methodLine_286 (by decide) ?_
                  exact J_287 y_h207 s_h207 d_h207 e_h207 x1h207 x3h207 x4h207 x5h207 x6h207 0 H locs h hP hD hS ls (lv_sub hl [0, 1, 2, 3, 4, 5] rfl)
                · skip
                  have h := h.2 c279
                  refine lv_iconst (v := 1) G.1 G.2.1 d_Mo_methodLine_282 (by decide) ?_
                  refine lv_goto (tgt := 287) G.1 G.2.1 d_Mo_methodLine_283 (by decide) ?_
                  exact J_287 y_h207 s_h207 d_h207 e_h207 x1h207 x3h207 x4h207 x5h207 x6h207 1 H locs h hP hD hS ls (lv_sub hl [0, 1, 2, 3, 4, 5] rfl)
              · skip
                have h := h.2 c211
                refine lv_aload_n G.1 G.2.1 d_Mo_methodLine_214 rfl (lv_at hl 0 rfl) ?_
                refine lv_iconst (v := 3) G.1 G.2.1 d_Mo_methodLine_215 (by decide) ?_
                refine lv_aload_n G.1 G.2.1 d_Mo_methodLine_216 rfl (lv_at hl 0 rfl) ?_
                obtain ⟨b_94, e_95, c_96, h⟩ := h
                refine ugf (v := .ref (ad b_94)) G hP h_a0 iMo rfl 45 (by decide) rfl q3109 rfl (by show va_rf ((sO s_h207 a0 45).map ad) = _; rw [e_95]; rfl) d_Mo_methodLine_217 ?_
                refine ugfN (v := .ref (yP y_h207 b_94 18)) G hP c_96 iMw rfl 18 (by decide) rfl q2740 rfl rfl d_Mo_methodLine_220 ?_
                refine lv_iload G.1 G.2.1 d_Mo_methodLine_223 (lv_at hl 5 rfl) ?_
                refine lv_iload G.1 G.2.1 d_Mo_methodLine_225 (lv_at hl 6 rfl) ?_
                refine lv_iadd G.1 G.2.1 d_Mo_methodLine_227 ?_
                refine W.eq (g2 := F0 m 228 ls [.int (x6h207 + x7h207), .ref (yP y_h207 b_94 18), .int 3, .ref (ad a0)]) rfl ?_
                refine uiald G hP (kdp c_96 rfl) (typ c_96 rfl) h d_Mo_methodLine_228 (fun x_97 h => ?_)
                refine lv_iload_n G.1 G.2.1 d_Mo_methodLine_229 rfl (lv_at hl 2 rfl) ?_
                have J_256 : ∀ (y_j256 : Ly) (s_j256 : St) (d_j256 e_j256 : Nat) (x1j256 : Int32) (x3j256 : Int32) (x4j256 : Int32) (x5j256 : Int32) (x6j256 : Int32) (x7j256 : Int32) (z1j256 : Int32) (z2j256 : Int32) (H : Heap) (locs : List Loc), wja_Mo_methodLine_256 mc ms Post PX K_207 a0 y_j256 s_j256 d_j256 e_j256 x1j256 x3j256 x4j256 x5j256 x6j256 x7j256 z1j256 z2j256 → va_P D CL (ws g ad y_j256 s_j256) H → va_D A (ws g ad y_j256 s_j256) → va_S A s.heap H locs → ∀ ls, lv_has ls 9 [(0, .ref (ad a0)), (1, .int x1j256), (3, .int x3j256), (4, .int x4j256), (5, .int x5j256), (6, .int x6j256), (7, .int x7j256)] → W p l e (ra_Mo_methodLine mc ms) s m args below meth c H locs d_j256 e_j256 Q (F0 m 256 ls [.int z2j256, .int z1j256, .ref (ad a0)]) := by
                  intro y_j256 s_j256 d_j256 e_j256 x1j256 x3j256 x4j256 x5j256 x6j256 x7j256 z1j256 z2j256 H locs h hP hD hS ls hl
                  unfold wja_Mo_methodLine_256 at h
                  obtain ⟨hd, h⟩ := h
                  refine ucVv (As := [.int z1j256, .int z2j256]) (rest := []) G hP hD hS (cu_Mo_asks l D g ad y_j256 _ s_j256 a0 z1j256 z2j256 H.size h_a0 h) w9_Mo_asks q3575 ⟨Nat.le_of_ble_eq_true rfl, Nat.le_of_ble_eq_true rfl⟩ rfl rfl h_a0 (q := (RMo, TMo, 131)) rfl rfl hl.1 rfl (Nat.le_of_ble_eq_true rfl) rfl hd d_Mo_methodLine_256 (fun s_99 H locs h hP hD hS => ?_)
                  refine lv_iinc (v := x7j256 + 1) (lv' := [(7, .int (x7j256 + 1)), (0, .ref (ad a0)), (1, .int x1j256), (3, .int x3j256), (4, .int x4j256), (5, .int x5j256), (6, .int x6j256)]) G.1 G.2.1 d_Mo_methodLine_259 hl (k := 6) rfl rfl (by decide) rfl (fun ls hl => ?_)
                  refine lv_goto (tgt := 207) G.1 G.2.1 d_Mo_methodLine_262 (by decide) ?_
                  have h := hK_207 y_j256 s_99 d_j256 e_j256 x1j256 x3j256 x4j256 x5j256 x6j256 (x7j256 + 1) h
                  exact ih_207 y_j256 s_99 d_j256 e_j256 x1j256 x3j256 x4j256 x5j256 x6j256 (x7j256 + 1) (Nat.lt_of_lt_of_le h.2 (Nat.le_of_lt_succ hμ_207)) h.1 H locs hP hD hS ls (lv_sub hl [1, 2, 3, 4, 5, 6, 0] rfl)
                have J_255 : ∀ (y_j255 : Ly) (s_j255 : St) (d_j255 e_j255 : Nat) (x1j255 : Int32) (x3j255 : Int32) (x4j255 : Int32) (x5j255 : Int32) (x6j255 : Int32) (x7j255 : Int32) (z1j255 : Int32) (H : Heap) (locs : List Loc), wja_Mo_methodLine_255 mc ms Post PX K_207 a0 y_j255 s_j255 d_j255 e_j255 x1j255 x3j255 x4j255 x5j255 x6j255 x7j255 z1j255 → va_P D CL (ws g ad y_j255 s_j255) H → va_D A (ws g ad y_j255 s_j255) → va_S A s.heap H locs → ∀ ls, lv_has ls 9 [(0, .ref (ad a0)), (1, .int x1j255), (3, .int x3j255), (4, .int x4j255), (5, .int x5j255), (6, .int x6j255), (7, .int x7j255)] → W p l e (ra_Mo_methodLine mc ms) s m args below meth c H locs d_j255 e_j255 Q (F0 m 255 ls [.int z1j255, .ref (ad a0)]) := by
                  intro y_j255 s_j255 d_j255 e_j255 x1j255 x3j255 x4j255 x5j255 x6j255 x7j255 z1j255 H locs h hP hD hS ls hl
                  unfold wja_Mo_methodLine_255 at h
                  obtain ⟨hd, h⟩ := h
                  refine lv_iconst (v := 0) G.1 G.2.1 d_Mo_methodLine_255 (by decide) ?_
                  exact J_256 y_j255 s_j255 d_j255 e_j255 x1j255 x3j255 x4j255 x5j255 x6j255 x7j255 z1j255 0 H locs h hP hD hS ls (lv_sub hl [0, 1, 2, 3, 4, 5, 6] rfl)
                refine lv_icmp_ne (tgt := 255) G.1 G.2.1 d_Mo_methodLine_230 (by decide) (fun c230 => ?_) (fun c230 => ?_)
                · skip
                  have h := h.1 c230
                  exact J_255 y_h207 s_h207 d_h207 e_h207 x1h207 x3h207 x4h207 x5h207 x6h207 x7h207 3 H locs h hP hD hS ls (lv_sub hl [0, 1, 2, 3, 4, 5, 6] rfl)
                · skip
                  have h := h.2 c230
                  refine lv_aload_n G.1 G.2.1 d_Mo_methodLine_233 rfl (lv_at hl 0 rfl) ?_
                  refine ugf (v := .ref (ad b_94)) G hP h_a0 iMo rfl 45 (by decide) rfl q3109 rfl (by show va_rf ((sO s_h207 a0 45).map ad) = _; rw [e_95]; rfl) d_Mo_methodLine_234 ?_
                  refine ugfN (v := .ref (yP y_h207 b_94 19)) G hP c_96 iMw rfl 19 (by decide) rfl q2742 rfl rfl d_Mo_methodLine_237 ?_
                  refine lv_iload G.1 G.2.1 d_Mo_methodLine_240 (lv_at hl 5 rfl) ?_
                  refine lv_iload G.1 G.2.1 d_Mo_methodLine_242 (lv_at hl 6 rfl) ?_
                  refine lv_iadd G.1 G.2.1 d_Mo_methodLine_244 ?_
                  refine uiald G hP (kdp c_96 rfl) (typ c_96 rfl) h d_Mo_methodLine_245 (fun x_100 h => ?_)
                  refine lv_iload G.1 G.2.1 d_Mo_methodLine_246 (lv_at hl 3 rfl) ?_
                  refine lv_icmp_ne (tgt := 255) G.1 G.2.1 d_Mo_methodLine_248 (by decide) (fun c248 => ?_) (fun c248 => ?_)
                  · skip
                    have h := h.1 c248
                    exact J_255 y_h207 s_h207 d_h207 e_h207 x1h207 x3h207 x4h207 x5h207 x6h207 x7h207 3 H locs h hP hD hS ls (lv_sub hl [0, 1, 2, 3, 4, 5, 6] rfl)
                  · skip
                    have h := h.2 c248
                    refine W.eq (g2 := F0 m 251 ls [.int 3, .ref (ad a0)]) rfl ?_
                    refine lv_iconst (v := 1) G.1 G.2.1 d_Mo_methodLine_251 (by decide) ?_
                    refine lv_goto (tgt := 256) G.1 G.2.1 d_Mo_methodLine_252 (by decide) ?_
                    exact J_256 y_h207 s_h207 d_h207 e_h207 x1h207 x3h207 x4h207 x5h207 x6h207 x7h207 3 1 H locs h hP hD hS ls (lv_sub hl [0, 1, 2, 3, 4, 5, 6] rfl)
          exact L_207 _ y_14 s_13 (d_j150 + d_7 + d_15) (e_j150 + e_8 + e_16) x1j150 x_2 r_4 x_23 (12 * (sV s_13 a0 53)) 0 (Nat.lt_succ_self _) hI_207 H locs hP hD hS ls (lv_sub hl [5, 6, 4, 3, 2, 1, 0] rfl)
        refine lv_icmp_eq (tgt := 150) G.1 G.2.1 d_Mo_methodLine_130 (by decide) (fun c130 => ?_) (fun c130 => ?_)
        · skip
          have h := h.1 c130
          exact J_150 y_h4 s_h4 d_h4 e_h4 x1h4 H locs h hP hD hS ls (lv_sub hl [0, 1] rfl)
        · skip
          have h := h.2 c130
          refine lv_aload_n G.1 G.2.1 d_Mo_methodLine_133 rfl (lv_at hl 0 rfl) ?_
          refine ugf (v := .ref (yP y_h4 a0 39)) G hP h_a0 iMo rfl 39 (by decide) rfl q3103 rfl rfl d_Mo_methodLine_134 ?_
          refine W.eq (g2 := F0 m 137 ls [.ref (yP y_h4 a0 39)]) rfl ?_
          refine lv_aload_n G.1 G.2.1 d_Mo_methodLine_137 rfl (lv_at hl 0 rfl) ?_
          refine ugf (v := .int (sV s_h4 a0 43)) G hP h_a0 iMo rfl 43 (by decide) rfl q3107 rfl rfl d_Mo_methodLine_138 ?_
          refine ubald G hP (kdp h_a0 rfl) (typ h_a0 rfl) h d_Mo_methodLine_141 (fun x_101 h => ?_)
          refine lv_iconst (v := 3) G.1 G.2.1 d_Mo_methodLine_142 (by decide) ?_
          refine lv_icmp_eq (tgt := 150) G.1 G.2.1 d_Mo_methodLine_143 (by decide) (fun c143 => ?_) (fun c143 => ?_)
          · skip
            have h := h.1 c143
            exact J_150 y_h4 s_h4 d_h4 e_h4 x1h4 H locs h hP hD hS ls (lv_sub hl [0, 1] rfl)
          · skip
            have h := h.2 c143
            refine lv_aload_n G.1 G.2.1 d_Mo_methodLine_146 rfl (lv_at hl 0 rfl) ?_
            obtain ⟨mc_107, ms_108, hr_109, h⟩ := h
            refine uxVv (As := []) (rest := []) G hP hD hS (cx_Mo_wrong l D g ad mc_107 ms_108 y_h4 _ _ s_h4 a0 H.size (us H) h_a0 h) (fun _ h => absurd h List.not_mem_nil) w9_Mo_wrong q3551 ⟨Nat.le_of_ble_eq_true rfl, Nat.le_of_ble_eq_true rfl⟩ rfl rfl h_a0 (q := (RMo, TMo, 131)) rfl rfl hl.1 rfl (Nat.le_of_ble_eq_true rfl) rfl hr_109 d_Mo_methodLine_147 (fun y_104 s_103 d_105 e_106 H locs q9 ce h hP hD hS hce hcv hcl => ?_) (fun y_104 s_103 d_105 e_106 H locs h hP hD hS => ?_)
            · skip
              obtain ⟨hd, h⟩ := h
              exact hretX h hP hD hS hd.1 hd.2 hce hcv hcl
            have hl := lv_sub (l' := [(0, .ref (ad a0)), (1, .int x1h4)]) hl [0, 1] rfl
            obtain ⟨hd, h⟩ := h
            exact J_150 y_104 s_103 (d_h4 + d_105) (e_h4 + e_106) x1h4 H locs h hP hD hS ls (lv_sub hl [0, 1] rfl)
      · skip
        have h := h.2 c5
        refine lv_aload_n G.1 G.2.1 d_Mo_methodLine_8 rfl (lv_at hl 0 rfl) ?_
        refine lv_aload_n G.1 G.2.1 d_Mo_methodLine_9 rfl (lv_at hl 0 rfl) ?_
        refine ugf (v := .int (sV s_h4 a0 29)) G hP h_a0 iMo rfl 29 (by decide) rfl q3093 rfl rfl d_Mo_methodLine_10 ?_
        refine ucVi (As := [.int (sV s_h4 a0 29)]) (rest := []) G hP hD hS (cu_Mo_isWord l D g ad y_h4 _ s_h4 a0 (sV s_h4 a0 29) H.size h_a0 h) w9_Mo_isWord q3522 ⟨Nat.le_of_ble_eq_true rfl, Nat.le_of_ble_eq_true rfl⟩ rfl rfl h_a0 (q := (RMo, TMo, 131)) rfl rfl hl.1 rfl (Nat.le_of_ble_eq_true rfl) rfl hd d_Mo_methodLine_13 (fun r_110 s_111 H locs h hP hD hS => ?_)
        have J_70 : ∀ (y_j70 : Ly) (s_j70 : St) (d_j70 e_j70 : Nat) (x1j70 : Int32) (z0j70 : Int32) (H : Heap) (locs : List Loc), wja_Mo_methodLine_70 mc ms Post PX K_4 a0 y_j70 s_j70 d_j70 e_j70 x1j70 z0j70 → va_P D CL (ws g ad y_j70 s_j70) H → va_D A (ws g ad y_j70 s_j70) → va_S A s.heap H locs → ∀ ls, lv_has ls 9 [(0, .ref (ad a0)), (1, .int x1j70)] → W p l e (ra_Mo_methodLine mc ms) s m args below meth c H locs d_j70 e_j70 Q (F0 m 70 ls [.int z0j70]) := by
          intro y_j70 s_j70 d_j70 e_j70 x1j70 z0j70 H locs h hP hD hS ls hl
          unfold wja_Mo_methodLine_70 at h
          obtain ⟨hd, h⟩ := h
          refine lv_istore_n (lv' := [(3, .int z0j70), (0, .ref (ad a0)), (1, .int x1j70)]) G.1 G.2.1 d_Mo_methodLine_70 rfl hl (by decide) rfl (fun ls hl => ?_)
          refine lv_iload_n G.1 G.2.1 d_Mo_methodLine_71 rfl (lv_at hl 0 rfl) ?_
          have J_86 : ∀ (y_j86 : Ly) (s_j86 : St) (d_j86 e_j86 : Nat) (x1j86 : Int32) (x3j86 : Int32) (z0j86 : Int32) (H : Heap) (locs : List Loc), wja_Mo_methodLine_86 mc ms Post PX K_4 a0 y_j86 s_j86 d_j86 e_j86 x1j86 x3j86 z0j86 → va_P D CL (ws g ad y_j86 s_j86) H → va_D A (ws g ad y_j86 s_j86) → va_S A s.heap H locs → ∀ ls, lv_has ls 9 [(0, .ref (ad a0)), (1, .int x1j86), (3, .int x3j86)] → W p l e (ra_Mo_methodLine mc ms) s m args below meth c H locs d_j86 e_j86 Q (F0 m 86 ls [.int z0j86]) := by
            intro y_j86 s_j86 d_j86 e_j86 x1j86 x3j86 z0j86 H locs h hP hD hS ls hl
            unfold wja_Mo_methodLine_86 at h
            obtain ⟨hd, h⟩ := h
            refine lv_istore_n (lv' := [(2, .int z0j86), (0, .ref (ad a0)), (1, .int x1j86), (3, .int x3j86)]) G.1 G.2.1 d_Mo_methodLine_86 rfl hl (by decide) rfl (fun ls hl => ?_)
            refine lv_iload_n G.1 G.2.1 d_Mo_methodLine_87 rfl (lv_at hl 2 rfl) ?_
            refine lv_iload_n G.1 G.2.1 d_Mo_methodLine_88 rfl (lv_at hl 0 rfl) ?_
            have J_97 : ∀ (y_j97 : Ly) (s_j97 : St) (d_j97 e_j97 : Nat) (x2j97 : Int32) (z0j97 : Int32) (z1j97 : Int32) (H : Heap) (locs : List Loc), wja_Mo_methodLine_97 mc ms Post PX K_4 a0 y_j97 s_j97 d_j97 e_j97 x2j97 z0j97 z1j97 → va_P D CL (ws g ad y_j97 s_j97) H → va_D A (ws g ad y_j97 s_j97) → va_S A s.heap H locs → ∀ ls, lv_has ls 9 [(0, .ref (ad a0)), (2, .int x2j97)] → W p l e (ra_Mo_methodLine mc ms) s m args below meth c H locs d_j97 e_j97 Q (F0 m 97 ls [.int z1j97, .int z0j97]) := by
              intro y_j97 s_j97 d_j97 e_j97 x2j97 z0j97 z1j97 H locs h hP hD hS ls hl
              unfold wja_Mo_methodLine_97 at h
              obtain ⟨hd, h⟩ := h
              refine lv_ior G.1 G.2.1 d_Mo_methodLine_97 ?_
              refine lv_istore_n (lv' := [(1, .int (z0j97 ||| z1j97)), (0, .ref (ad a0)), (2, .int x2j97)]) G.1 G.2.1 d_Mo_methodLine_98 rfl hl (by decide) rfl (fun ls hl => ?_)
              refine lv_aload_n G.1 G.2.1 d_Mo_methodLine_99 rfl (lv_at hl 1 rfl) ?_
              refine lv_dup G.1 G.2.1 d_Mo_methodLine_100 rfl ?_
              refine ugf (v := .int (sV s_j97 a0 43)) G hP h_a0 iMo rfl 43 (by decide) rfl q3107 rfl rfl d_Mo_methodLine_101 ?_
              refine lv_iload_n G.1 G.2.1 d_Mo_methodLine_104 rfl (lv_at hl 2 rfl) ?_
              have J_113 : ∀ (y_j113 : Ly) (s_j113 : St) (d_j113 e_j113 : Nat) (x1j113 : Int32) (x2j113 : Int32) (z1j113 : Int32) (z2j113 : Int32) (H : Heap) (locs : List Loc), wja_Mo_methodLine_113 mc ms Post PX K_4 a0 y_j113 s_j113 d_j113 e_j113 x1j113 x2j113 z1j113 z2j113 → va_P D CL (ws g ad y_j113 s_j113) H → va_D A (ws g ad y_j113 s_j113) → va_S A s.heap H locs → ∀ ls, lv_has ls 9 [(0, .ref (ad a0)), (1, .int x1j113), (2, .int x2j113)] → W p l e (ra_Mo_methodLine mc ms) s m args below meth c H locs d_j113 e_j113 Q (F0 m 113 ls [.int z2j113, .int z1j113, .ref (ad a0)]) := by
                intro y_j113 s_j113 d_j113 e_j113 x1j113 x2j113 z1j113 z2j113 H locs h hP hD hS ls hl
                unfold wja_Mo_methodLine_113 at h
                obtain ⟨hd, h⟩ := h
                refine lv_iadd G.1 G.2.1 d_Mo_methodLine_113 ?_
                refine upf G hP hD hS h 43 putV h_a0 iMo tMo tMo_ok nMo rfl (by decide) rfl q3107 rfl rfl fV rfl rfl d_Mo_methodLine_114 (fun s_112 H locs h hP hD hS => ?_)
                refine lv_goto (tgt := 4) G.1 G.2.1 d_Mo_methodLine_117 (by decide) ?_
                have h := hK_4 y_j113 s_112 d_j113 e_j113 x1j113 x2j113 h
                exact ih_4 y_j113 s_112 d_j113 e_j113 x1j113 x2j113 (Nat.lt_of_lt_of_le h.2 (Nat.le_of_lt_succ hμ_4)) h.1 H locs hP hD hS ls (lv_sub hl [0, 1, 2] rfl)
              refine lv_if_eq (tgt := 112) G.1 G.2.1 d_Mo_methodLine_105 (by decide) (fun c105 => ?_) (fun c105 => ?_)
              · skip
                have h := h.1 c105
                refine lv_iconst (v := 0) G.1 G.2.1 d_Mo_methodLine_112 (by decide) ?_
                exact J_113 y_j97 s_j97 d_j97 e_j97 (z0j97 ||| z1j97) x2j97 (sV s_j97 a0 43) 0 H locs h hP hD hS ls (lv_sub hl [1, 0, 2] rfl)
              · skip
                have h := h.2 c105
                refine lv_iconst (v := 1) G.1 G.2.1 d_Mo_methodLine_108 (by decide) ?_
                refine lv_goto (tgt := 113) G.1 G.2.1 d_Mo_methodLine_109 (by decide) ?_
                exact J_113 y_j97 s_j97 d_j97 e_j97 (z0j97 ||| z1j97) x2j97 (sV s_j97 a0 43) 1 H locs h hP hD hS ls (lv_sub hl [1, 0, 2] rfl)
            refine lv_if_eq (tgt := 96) G.1 G.2.1 d_Mo_methodLine_89 (by decide) (fun c89 => ?_) (fun c89 => ?_)
            · skip
              have h := h.1 c89
              refine lv_iconst (v := 0) G.1 G.2.1 d_Mo_methodLine_96 (by decide) ?_
              exact J_97 y_j86 s_j86 d_j86 e_j86 z0j86 x1j86 0 H locs h hP hD hS ls (lv_sub hl [1, 0] rfl)
            · skip
              have h := h.2 c89
              refine lv_iload_n G.1 G.2.1 d_Mo_methodLine_92 rfl (lv_at hl 3 rfl) ?_
              refine lv_goto (tgt := 97) G.1 G.2.1 d_Mo_methodLine_93 (by decide) ?_
              exact J_97 y_j86 s_j86 d_j86 e_j86 z0j86 x1j86 x3j86 H locs h hP hD hS ls (lv_sub hl [1, 0] rfl)
          have J_85 : ∀ (y_j85 : Ly) (s_j85 : St) (d_j85 e_j85 : Nat) (x1j85 : Int32) (x3j85 : Int32) (H : Heap) (locs : List Loc), wja_Mo_methodLine_85 mc ms Post PX K_4 a0 y_j85 s_j85 d_j85 e_j85 x1j85 x3j85 → va_P D CL (ws g ad y_j85 s_j85) H → va_D A (ws g ad y_j85 s_j85) → va_S A s.heap H locs → ∀ ls, lv_has ls 9 [(0, .ref (ad a0)), (1, .int x1j85), (3, .int x3j85)] → W p l e (ra_Mo_methodLine mc ms) s m args below meth c H locs d_j85 e_j85 Q (F0 m 85 ls []) := by
            intro y_j85 s_j85 d_j85 e_j85 x1j85 x3j85 H locs h hP hD hS ls hl
            unfold wja_Mo_methodLine_85 at h
            obtain ⟨hd, h⟩ := h
            refine lv_iconst (v := 0) G.1 G.2.1 d_Mo_methodLine_85 (by decide) ?_
            exact J_86 y_j85 s_j85 d_j85 e_j85 x1j85 x3j85 0 H locs h hP hD hS ls (lv_sub hl [0, 1, 2] rfl)
          refine lv_if_eq (tgt := 85) G.1 G.2.1 d_Mo_methodLine_72 (by decide) (fun c72 => ?_) (fun c72 => ?_)
          · skip
            have h := h.1 c72
            exact J_85 y_j70 s_j70 d_j70 e_j70 x1j70 z0j70 H locs h hP hD hS ls (lv_sub hl [1, 2, 0] rfl)
          · skip
            have h := h.2 c72
            refine lv_iload_n G.1 G.2.1 d_Mo_methodLine_75 rfl (lv_at hl 2 rfl) ?_
            refine lv_iload_n G.1 G.2.1 d_Mo_methodLine_76 rfl (lv_at hl 0 rfl) ?_
            refine lv_iand G.1 G.2.1 d_Mo_methodLine_77 ?_
            refine lv_if_ne (tgt := 85) G.1 G.2.1 d_Mo_methodLine_78 (by decide) (fun c78 => ?_) (fun c78 => ?_)
            · skip
              have h := h.1 c78
              exact J_85 y_j70 s_j70 d_j70 e_j70 x1j70 z0j70 H locs h hP hD hS ls (lv_sub hl [1, 2, 0] rfl)
            · skip
              have h := h.2 c78
              refine lv_iconst (v := 1) G.1 G.2.1 d_Mo_methodLine_81 (by decide) ?_
              refine lv_goto (tgt := 86) G.1 G.2.1 d_Mo_methodLine_82 (by decide) ?_
              exact J_86 y_j70 s_j70 d_j70 e_j70 x1j70 z0j70 1 H locs h hP hD hS ls (lv_sub hl [1, 2, 0] rfl)
        refine lv_if_eq (tgt := 23) G.1 G.2.1 d_Mo_methodLine_16 (by decide) (fun c16 => ?_) (fun c16 => ?_)
        · skip
          have h := h.1 c16
          refine lv_aload_n G.1 G.2.1 d_Mo_methodLine_23 rfl (lv_at hl 0 rfl) ?_
          refine lv_aload_n G.1 G.2.1 d_Mo_methodLine_24 rfl (lv_at hl 0 rfl) ?_
          refine ugf (v := .int (sV s_111 a0 10)) G hP h_a0 iMo rfl 10 (by decide) rfl q3074 rfl rfl d_Mo_methodLine_25 ?_
          refine ucVi (As := [.int (sV s_111 a0 10)]) (rest := []) G hP hD hS (cu_Mo_isWord l D g ad y_h4 _ s_111 a0 (sV s_111 a0 10) H.size h_a0 h) w9_Mo_isWord q3522 ⟨Nat.le_of_ble_eq_true rfl, Nat.le_of_ble_eq_true rfl⟩ rfl rfl h_a0 (q := (RMo, TMo, 131)) rfl rfl hl.1 rfl (Nat.le_of_ble_eq_true rfl) rfl hd d_Mo_methodLine_28 (fun r_113 s_114 H locs h hP hD hS => ?_)
          refine W.eq (g2 := F0 m 31 ls [.int r_113]) rfl ?_
          refine lv_if_eq (tgt := 38) G.1 G.2.1 d_Mo_methodLine_31 (by decide) (fun c31 => ?_) (fun c31 => ?_)
          · skip
            have h := h.1 c31
            refine lv_aload_n G.1 G.2.1 d_Mo_methodLine_38 rfl (lv_at hl 0 rfl) ?_
            refine lv_aload_n G.1 G.2.1 d_Mo_methodLine_39 rfl (lv_at hl 0 rfl) ?_
            refine ugf (v := .int (sV s_114 a0 15)) G hP h_a0 iMo rfl 15 (by decide) rfl q3079 rfl rfl d_Mo_methodLine_40 ?_
            refine ucVi (As := [.int (sV s_114 a0 15)]) (rest := []) G hP hD hS (cu_Mo_isWord l D g ad y_h4 _ s_114 a0 (sV s_114 a0 15) H.size h_a0 h) w9_Mo_isWord q3522 ⟨Nat.le_of_ble_eq_true rfl, Nat.le_of_ble_eq_true rfl⟩ rfl rfl h_a0 (q := (RMo, TMo, 131)) rfl rfl hl.1 rfl (Nat.le_of_ble_eq_true rfl) rfl hd d_Mo_methodLine_43 (fun r_115 s_116 H locs h hP hD hS => ?_)
            refine lv_if_eq (tgt := 53) G.1 G.2.1 d_Mo_methodLine_46 (by decide) (fun c46 => ?_) (fun c46 => ?_)
            · skip
              have h := h.1 c46
              refine lv_aload_n G.1 G.2.1 d_Mo_methodLine_53 rfl (lv_at hl 0 rfl) ?_
              refine lv_aload_n G.1 G.2.1 d_Mo_methodLine_54 rfl (lv_at hl 0 rfl) ?_
              refine ugf (v := .int (sV s_116 a0 11)) G hP h_a0 iMo rfl 11 (by decide) rfl q3075 rfl rfl d_Mo_methodLine_55 ?_
              refine ucVi (As := [.int (sV s_116 a0 11)]) (rest := []) G hP hD hS (cu_Mo_isWord l D g ad y_h4 _ s_116 a0 (sV s_116 a0 11) H.size h_a0 h) w9_Mo_isWord q3522 ⟨Nat.le_of_ble_eq_true rfl, Nat.le_of_ble_eq_true rfl⟩ rfl rfl h_a0 (q := (RMo, TMo, 131)) rfl rfl hl.1 rfl (Nat.le_of_ble_eq_true rfl) rfl hd d_Mo_methodLine_58 (fun r_117 s_118 H locs h hP hD hS => ?_)
              refine lv_if_eq (tgt := 69) G.1 G.2.1 d_Mo_methodLine_61 (by decide) (fun c61 => ?_) (fun c61 => ?_)
              · skip
                have h := h.1 c61
                refine lv_iconst (v := 0) G.1 G.2.1 d_Mo_methodLine_69 (by decide) ?_
                exact J_70 y_h4 s_118 d_h4 e_h4 x1h4 0 H locs h hP hD hS ls (lv_sub hl [0, 1] rfl)
              · skip
                have h := h.2 c61
                refine lv_bipush (v := 8) G.1 G.2.1 d_Mo_methodLine_64 (by decide) ?_
                refine W.eq (g2 := F0 m 66 ls [.int 8]) rfl ?_
                refine lv_goto (tgt := 70) G.1 G.2.1 d_Mo_methodLine_66 (by decide) ?_
                exact J_70 y_h4 s_118 d_h4 e_h4 x1h4 8 H locs h hP hD hS ls (lv_sub hl [0, 1] rfl)
            · skip
              have h := h.2 c46
              refine lv_iconst (v := 4) G.1 G.2.1 d_Mo_methodLine_49 (by decide) ?_
              refine lv_goto (tgt := 70) G.1 G.2.1 d_Mo_methodLine_50 (by decide) ?_
              exact J_70 y_h4 s_116 d_h4 e_h4 x1h4 4 H locs h hP hD hS ls (lv_sub hl [0, 1] rfl)
          · skip
            have h := h.2 c31
            refine lv_iconst (v := 2) G.1 G.2.1 d_Mo_methodLine_34 (by decide) ?_
            refine lv_goto (tgt := 70) G.1 G.2.1 d_Mo_methodLine_35 (by decide) ?_
            exact J_70 y_h4 s_114 d_h4 e_h4 x1h4 2 H locs h hP hD hS ls (lv_sub hl [0, 1] rfl)
        · skip
          have h := h.2 c16
          refine lv_iconst (v := 1) G.1 G.2.1 d_Mo_methodLine_19 (by decide) ?_
          refine lv_goto (tgt := 70) G.1 G.2.1 d_Mo_methodLine_20 (by decide) ?_
          exact J_70 y_h4 s_111 d_h4 e_h4 x1h4 1 H locs h hP hD hS ls (lv_sub hl [0, 1] rfl)
  exact L_4 _ y σ 0 0 0 1 (Nat.lt_succ_self _) hI_4 H locs hP hD hS ls (lv_sub hl [2, 1, 0] rfl)
theorem q3080 : Cond.fieldLink "ClassWorksModel" 192 "ClassWorksModel" "kRoom" "I" ∈ lw_ok := lw_okmem (List.mem_of_getElem? (i := 3080) (by decide +kernel)) rfl
theorem q3612 : Cond.methodLink "ClassWorksModel" 653 y_Mo_argumentsOf ∈ lw_ok := lw_okmem (List.mem_of_getElem? (i := 3612) (by decide +kernel)) rfl
theorem q3615 : Cond.code y_Mo_argumentsOf b_Mo_argumentsOf 2 (some .int) ∈ lw_ok := lw_okmem (List.mem_of_getElem? (i := 3615) (by decide +kernel)) rfl
theorem q3614 : Cond.instanceMethod y_Mo_argumentsOf ∈ lw_ok := lw_okmem (List.mem_of_getElem? (i := 3614) (by decide +kernel)) rfl
theorem q206 : Cond.selects y_Mo_argumentsOf.cls y_Mo_argumentsOf y_Mo_argumentsOf ∈ lw_ok := lw_okmem (List.mem_of_getElem? (i := 206) (by decide +kernel)) rfl
theorem w9_Mo_argumentsOf : CWv y_Mo_argumentsOf b_Mo_argumentsOf 2 (some .int) 1 ∧ Cond.instanceMethod y_Mo_argumentsOf ∈ lw_ok ∧ Cond.selects y_Mo_argumentsOf.cls y_Mo_argumentsOf y_Mo_argumentsOf ∈ lw_ok := ⟨⟨q3615, q348, by decide +kernel, by decide +kernel, by decide +kernel⟩, q3614, q206⟩
def y_Mo_roomLine : MethodName := ⟨"ClassWorksModel", "roomLine", "()V"⟩
abbrev b_Mo_roomLine : ByteArray := prog_14_method_39_code
theorem d_Mo_roomLine_0 : decode b_Mo_roomLine 0 = .ok (.aload_n 0, 1) := by decide +kernel
theorem d_Mo_roomLine_1 : decode b_Mo_roomLine 1 = .ok (.aload_n 0, 1) := by decide +kernel
theorem d_Mo_roomLine_2 : decode b_Mo_roomLine 2 = .ok (.getfield 192, 3) := by decide +kernel
theorem d_Mo_roomLine_5 : decode b_Mo_roomLine 5 = .ok (.invokevirtual 592, 3) := by decide +kernel
theorem d_Mo_roomLine_8 : decode b_Mo_roomLine 8 = .ok (.aload_n 0, 1) := by decide +kernel
theorem d_Mo_roomLine_9 : decode b_Mo_roomLine 9 = .ok (.getfield 522, 3) := by decide +kernel
theorem d_Mo_roomLine_12 : decode b_Mo_roomLine 12 = .ok (.getfield 456, 3) := by decide +kernel
theorem d_Mo_roomLine_15 : decode b_Mo_roomLine 15 = .ok (.aload_n 0, 1) := by decide +kernel
theorem d_Mo_roomLine_16 : decode b_Mo_roomLine 16 = .ok (.getfield 642, 3) := by decide +kernel
theorem d_Mo_roomLine_19 : decode b_Mo_roomLine 19 = .ok (.aload_n 0, 1) := by decide +kernel
theorem d_Mo_roomLine_20 : decode b_Mo_roomLine 20 = .ok (.iconst 0, 1) := by decide +kernel
theorem d_Mo_roomLine_21 : decode b_Mo_roomLine 21 = .ok (.bipush 20, 2) := by decide +kernel
theorem d_Mo_roomLine_23 : decode b_Mo_roomLine 23 = .ok (.invokevirtual 618, 3) := by decide +kernel
theorem d_Mo_roomLine_26 : decode b_Mo_roomLine 26 = .ok (.iastore, 1) := by decide +kernel
theorem d_Mo_roomLine_27 : decode b_Mo_roomLine 27 = .ok (.aload_n 0, 1) := by decide +kernel
theorem d_Mo_roomLine_28 : decode b_Mo_roomLine 28 = .ok (.getfield 522, 3) := by decide +kernel
theorem d_Mo_roomLine_31 : decode b_Mo_roomLine 31 = .ok (.getfield 459, 3) := by decide +kernel
theorem d_Mo_roomLine_34 : decode b_Mo_roomLine 34 = .ok (.aload_n 0, 1) := by decide +kernel
theorem d_Mo_roomLine_35 : decode b_Mo_roomLine 35 = .ok (.getfield 642, 3) := by decide +kernel
theorem d_Mo_roomLine_38 : decode b_Mo_roomLine 38 = .ok (.aload_n 0, 1) := by decide +kernel
theorem d_Mo_roomLine_39 : decode b_Mo_roomLine 39 = .ok (.iconst 0, 1) := by decide +kernel
theorem d_Mo_roomLine_40 : decode b_Mo_roomLine 40 = .ok (.bipush 20, 2) := by decide +kernel
theorem d_Mo_roomLine_42 : decode b_Mo_roomLine 42 = .ok (.invokevirtual 618, 3) := by decide +kernel
theorem d_Mo_roomLine_45 : decode b_Mo_roomLine 45 = .ok (.iastore, 1) := by decide +kernel
theorem d_Mo_roomLine_46 : decode b_Mo_roomLine 46 = .ok (.aload_n 0, 1) := by decide +kernel
theorem d_Mo_roomLine_47 : decode b_Mo_roomLine 47 = .ok (.iconst 0, 1) := by decide +kernel
theorem d_Mo_roomLine_48 : decode b_Mo_roomLine 48 = .ok (.invokevirtual 544, 3) := by decide +kernel
theorem d_Mo_roomLine_51 : decode b_Mo_roomLine 51 = .ok (.aload_n 0, 1) := by decide +kernel
theorem d_Mo_roomLine_52 : decode b_Mo_roomLine 52 = .ok (.bipush 13, 2) := by decide +kernel
theorem d_Mo_roomLine_54 : decode b_Mo_roomLine 54 = .ok (.aload_n 0, 1) := by decide +kernel
theorem d_Mo_roomLine_55 : decode b_Mo_roomLine 55 = .ok (.getfield 522, 3) := by decide +kernel
theorem d_Mo_roomLine_58 : decode b_Mo_roomLine 58 = .ok (.getfield 459, 3) := by decide +kernel
theorem d_Mo_roomLine_61 : decode b_Mo_roomLine 61 = .ok (.aload_n 0, 1) := by decide +kernel
theorem d_Mo_roomLine_62 : decode b_Mo_roomLine 62 = .ok (.getfield 642, 3) := by decide +kernel
theorem d_Mo_roomLine_65 : decode b_Mo_roomLine 65 = .ok (.iaload, 1) := by decide +kernel
theorem d_Mo_roomLine_66 : decode b_Mo_roomLine 66 = .ok (.aload_n 0, 1) := by decide +kernel
theorem d_Mo_roomLine_67 : decode b_Mo_roomLine 67 = .ok (.aload_n 0, 1) := by decide +kernel
theorem d_Mo_roomLine_68 : decode b_Mo_roomLine 68 = .ok (.getfield 642, 3) := by decide +kernel
theorem d_Mo_roomLine_71 : decode b_Mo_roomLine 71 = .ok (.invokevirtual 653, 3) := by decide +kernel
theorem d_Mo_roomLine_74 : decode b_Mo_roomLine 74 = .ok (.if_icmp .ge 7, 3) := by decide +kernel
theorem d_Mo_roomLine_77 : decode b_Mo_roomLine 77 = .ok (.iconst 1, 1) := by decide +kernel
theorem d_Mo_roomLine_78 : decode b_Mo_roomLine 78 = .ok (.goto 4, 3) := by decide +kernel
theorem d_Mo_roomLine_81 : decode b_Mo_roomLine 81 = .ok (.iconst 0, 1) := by decide +kernel
theorem d_Mo_roomLine_82 : decode b_Mo_roomLine 82 = .ok (.invokevirtual 605, 3) := by decide +kernel
theorem d_Mo_roomLine_85 : decode b_Mo_roomLine 85 = .ok (.aload_n 0, 1) := by decide +kernel
theorem d_Mo_roomLine_86 : decode b_Mo_roomLine 86 = .ok (.iconst 3, 1) := by decide +kernel
theorem d_Mo_roomLine_87 : decode b_Mo_roomLine 87 = .ok (.putfield 566, 3) := by decide +kernel
theorem d_Mo_roomLine_90 : decode b_Mo_roomLine 90 = .ok (.return_, 1) := by decide +kernel
abbrev ra_Mo_roomLine (mc ms : Nat) : Room := { frames := 3, cells := mc, slots := ms, locals := 64 }
def wja_Mo_roomLine_82 (mc ms : Nat) (Post : Ly → St → Nat → Nat → Prop) (PX : Ly → St → Nat → Nat → Prop) (a0 : Nat) (y_j82 : Ly) (s_j82 : St) (d_j82 e_j82 : Nat) (z1j82 : Int32) (z2j82 : Int32) : Prop := (d_j82 ≤ mc ∧ e_j82 ≤ ms) ∧ wu_Mo_asks y_j82 (fun (s_50 : St) => xP (uV s_50 a0 52 3) (fun s_51 : St => Post y_j82 s_51 d_j82 e_j82)) s_j82 a0 z1j82 z2j82
def wx_Mo_roomLine (mc ms : Nat) (y : Ly) (Post : Ly → St → Nat → Nat → Prop) (PX : Ly → St → Nat → Nat → Prop) (σ : St) (a0 : Nat) : Prop := ∃ mc_6 ms_7 : Nat, (0 + mc_6 ≤ mc ∧ 0 + ms_7 ≤ ms) ∧ wx_Mo_needWord mc_6 ms_7 y (fun (y_3 : Ly) (s_2 : St) (d_4 e_5 : Nat) => (0 + d_4 ≤ mc ∧ 0 + e_5 ≤ ms) ∧ ∃ b_9 : Nat, sO s_2 a0 45 = some b_9 ∧ cl b_9 = 13 ∧ ∃ mc_17 ms_18 : Nat, (0 + d_4 + mc_17 ≤ mc ∧ 0 + e_5 + ms_18 ≤ ms) ∧ wx_Mo_numberIn mc_17 ms_18 y_3 (fun (y_14 : Ly) (s_13 : St) (r_12 : Int32) (d_15 e_16 : Nat) => (0 + d_4 + d_15 ≤ mc ∧ 0 + e_5 + e_16 ≤ ms) ∧ yP y_3 b_9 21 = yP y_14 b_9 21 ∧ xS y_14 s_13 b_9 21 (sV s_2 a0 54) r_12 (fun s_21 : St => ∃ b_22 : Nat, sO s_21 a0 45 = some b_22 ∧ cl b_22 = 13 ∧ ∃ mc_30 ms_31 : Nat, (0 + d_4 + d_15 + mc_30 ≤ mc ∧ 0 + e_5 + e_16 + ms_31 ≤ ms) ∧ wx_Mo_numberIn mc_30 ms_31 y_14 (fun (y_27 : Ly) (s_26 : St) (r_25 : Int32) (d_28 e_29 : Nat) => (0 + d_4 + d_15 + d_28 ≤ mc ∧ 0 + e_5 + e_16 + e_29 ≤ ms) ∧ yP y_14 b_22 22 = yP y_27 b_22 22 ∧ xS y_27 s_26 b_22 22 (sV s_21 a0 54) r_25 (fun s_34 : St => ∃ mc_40 ms_41 : Nat, (0 + d_4 + d_15 + d_28 + mc_40 ≤ mc ∧ 0 + e_5 + e_16 + e_29 + ms_41 ≤ ms) ∧ wx_Mo_need mc_40 ms_41 y_27 (fun (y_37 : Ly) (s_36 : St) (d_38 e_39 : Nat) => (0 + d_4 + d_15 + d_28 + d_38 ≤ mc ∧ 0 + e_5 + e_16 + e_29 + e_39 ≤ ms) ∧ ∃ b_43 : Nat, sO s_36 a0 45 = some b_43 ∧ cl b_43 = 13 ∧ xA y_37 s_36 b_43 22 (sV s_36 a0 54) (fun x_46 : Int32 => wu_Mo_argumentsOf y_37 (fun (s_48 : St) (r_47 : Int32) => ((r_47 ≤ x_46 → wja_Mo_roomLine_82 mc ms Post PX a0 y_37 s_48 (0 + d_4 + d_15 + d_28 + d_38) (0 + e_5 + e_16 + e_29 + e_39) 13 0) ∧ (¬ (r_47 ≤ x_46) → wja_Mo_roomLine_82 mc ms Post PX a0 y_37 s_48 (0 + d_4 + d_15 + d_28 + d_38) (0 + e_5 + e_16 + e_29 + e_39) 13 1))) s_36 a0 (sV s_36 a0 54))) (fun (y_37 : Ly) (s_36 : St) (d_38 e_39 : Nat) => ((0 + d_4 + d_15 + d_28 + d_38 ≤ mc ∧ 0 + e_5 + e_16 + e_29 + e_39 ≤ ms) ∧ PX y_37 s_36 (0 + d_4 + d_15 + d_28 + d_38) (0 + e_5 + e_16 + e_29 + e_39))) s_34 a0 0)) (fun (y_27 : Ly) (s_26 : St) (d_28 e_29 : Nat) => ((0 + d_4 + d_15 + d_28 ≤ mc ∧ 0 + e_5 + e_16 + e_29 ≤ ms) ∧ PX y_27 s_26 (0 + d_4 + d_15 + d_28) (0 + e_5 + e_16 + e_29))) s_21 a0 0 20)) (fun (y_14 : Ly) (s_13 : St) (d_15 e_16 : Nat) => ((0 + d_4 + d_15 ≤ mc ∧ 0 + e_5 + e_16 ≤ ms) ∧ PX y_14 s_13 (0 + d_4 + d_15) (0 + e_5 + e_16))) s_2 a0 0 20) (fun (y_3 : Ly) (s_2 : St) (d_4 e_5 : Nat) => ((0 + d_4 ≤ mc ∧ 0 + e_5 ≤ ms) ∧ PX y_3 s_2 (0 + d_4) (0 + e_5))) σ a0 (sV σ a0 16)
set_option maxHeartbeats 4000000 in
set_option maxRecDepth 100000 in
theorem cx_Mo_roomLine (l : Launch) (D : va_G) (g : Nat → ClassId) (ad : Nat → Nat) (mc ms : Nat) (y : Ly) (Post : Ly → St → Nat → Nat → Prop) (PX : Ly → St → Nat → Nat → Prop) (σ : St) (a0 : Nat) (sz uz : Nat) (h_a0 : cl a0 = 14) (h : wx_Mo_roomLine mc ms y Post PX σ a0) : vx_Met l y_Mo_roomLine (mw y_Mo_roomLine b_Mo_roomLine 1 (none)) (ra_Mo_roomLine mc ms) (PCu g D [] [.ref (ad a0)] sz uz (ws g ad y σ)) (va_Qv (fun (u : Ly × St × Nat × Nat) => Post u.1 u.2.1 u.2.2.1 u.2.2.2) (QU D (va_A (ws g ad y σ) sz) (fun u => ws g ad u.1 u.2.1) sz uz (fun u => u.2.2.1) (fun u => u.2.2.2)) (va_A (ws g ad y σ) sz)) (XQ D g ad (va_A (ws g ad y σ) sz) sz uz PX) mc ms (va_A (ws g ad y σ) sz) := by
  refine ofVx (by decide +kernel) (Nat.le_of_ble_eq_true rfl) ?_
  intro p e s m args below meth c A Q ls H locs G hsz hP hD hS hl hret hretX
  subst hsz
  have hl : lv_has ls 1 [(0, .ref (ad a0))] := hl
  have hd : 0 ≤ mc ∧ 0 ≤ ms := ⟨Nat.zero_le _, Nat.zero_le _⟩
  unfold wx_Mo_roomLine at h
  refine lv_aload_n G.1 G.2.1 d_Mo_roomLine_0 rfl (lv_at hl 0 rfl) ?_
  refine lv_aload_n G.1 G.2.1 d_Mo_roomLine_1 rfl (lv_at hl 0 rfl) ?_
  refine ugf (v := .int (sV σ a0 16)) G hP h_a0 iMo rfl 16 (by decide) rfl q3080 rfl rfl d_Mo_roomLine_2 ?_
  obtain ⟨mc_6, ms_7, hr_8, h⟩ := h
  refine uxVv (As := [.int (sV σ a0 16)]) (rest := []) G hP hD hS (cx_Mo_needWord l D g ad mc_6 ms_7 y _ _ σ a0 (sV σ a0 16) H.size (us H) h_a0 h) (fun _ h => absurd h List.not_mem_nil) w9_Mo_needWord q3543 ⟨Nat.le_of_ble_eq_true rfl, Nat.le_of_ble_eq_true rfl⟩ rfl rfl h_a0 (q := (RMo, TMo, 131)) rfl rfl hl.1 rfl (Nat.le_of_ble_eq_true rfl) rfl hr_8 d_Mo_roomLine_5 (fun y_3 s_2 d_4 e_5 H locs q9 ce h hP hD hS hce hcv hcl => ?_) (fun y_3 s_2 d_4 e_5 H locs h hP hD hS => ?_)
  · skip
    obtain ⟨hd, h⟩ := h
    exact hretX h hP hD hS hd.1 hd.2 hce hcv hcl
  obtain ⟨hd, h⟩ := h
  refine lv_aload_n G.1 G.2.1 d_Mo_roomLine_8 rfl (lv_at hl 0 rfl) ?_
  obtain ⟨b_9, e_10, c_11, h⟩ := h
  refine ugf (v := .ref (ad b_9)) G hP h_a0 iMo rfl 45 (by decide) rfl q3109 rfl (by show va_rf ((sO s_2 a0 45).map ad) = _; rw [e_10]; rfl) d_Mo_roomLine_9 ?_
  refine ugfN (v := .ref (yP y_3 b_9 21)) G hP c_11 iMw rfl 21 (by decide) rfl q2746 rfl rfl d_Mo_roomLine_12 ?_
  refine lv_aload_n G.1 G.2.1 d_Mo_roomLine_15 rfl (lv_at hl 0 rfl) ?_
  refine ugf (v := .int (sV s_2 a0 54)) G hP h_a0 iMo rfl 54 (by decide) rfl q3118 rfl rfl d_Mo_roomLine_16 ?_
  refine lv_aload_n G.1 G.2.1 d_Mo_roomLine_19 rfl (lv_at hl 0 rfl) ?_
  refine lv_iconst (v := 0) G.1 G.2.1 d_Mo_roomLine_20 (by decide) ?_
  refine W.eq (g2 := F0 m 21 ls [.int 0, .ref (ad a0), .int (sV s_2 a0 54), .ref (yP y_3 b_9 21)]) rfl ?_
  refine lv_bipush (v := 20) G.1 G.2.1 d_Mo_roomLine_21 (by decide) ?_
  obtain ⟨mc_17, ms_18, hr_19, h⟩ := h
  refine uxVi (As := [.int 0, .int 20]) (rest := [.int (sV s_2 a0 54), .ref (yP y_3 b_9 21)]) G hP hD hS (cx_Mo_numberIn l D g ad mc_17 ms_18 y_3 _ _ s_2 a0 0 20 H.size (us H) h_a0 h) (fun _ h => absurd h List.not_mem_nil) w9_Mo_numberIn q3592 ⟨Nat.le_of_ble_eq_true rfl, Nat.le_of_ble_eq_true rfl⟩ rfl rfl h_a0 (q := (RMo, TMo, 131)) rfl rfl hl.1 rfl (Nat.le_of_ble_eq_true rfl) rfl hr_19 d_Mo_roomLine_23 (fun y_14 s_13 d_15 e_16 H locs q9 ce h hP hD hS hce hcv hcl => ?_) (fun r_12 y_14 s_13 d_15 e_16 H locs h hP hD hS => ?_)
  · skip
    obtain ⟨hd, h⟩ := h
    exact hretX h hP hD hS hd.1 hd.2 hce hcv hcl
  obtain ⟨hd, h⟩ := h
  obtain ⟨n_20, h⟩ := h
  rw [n_20]
  refine uiast G hP hD hS (kdp c_11 rfl) (typ c_11 rfl) h d_Mo_roomLine_26 (fun s_21 H locs h hP hD hS => ?_)
  refine lv_aload_n G.1 G.2.1 d_Mo_roomLine_27 rfl (lv_at hl 0 rfl) ?_
  obtain ⟨b_22, e_23, c_24, h⟩ := h
  refine ugf (v := .ref (ad b_22)) G hP h_a0 iMo rfl 45 (by decide) rfl q3109 rfl (by show va_rf ((sO s_21 a0 45).map ad) = _; rw [e_23]; rfl) d_Mo_roomLine_28 ?_
  refine ugfN (v := .ref (yP y_14 b_22 22)) G hP c_24 iMw rfl 22 (by decide) rfl q2748 rfl rfl d_Mo_roomLine_31 ?_
  refine lv_aload_n G.1 G.2.1 d_Mo_roomLine_34 rfl (lv_at hl 0 rfl) ?_
  refine ugf (v := .int (sV s_21 a0 54)) G hP h_a0 iMo rfl 54 (by decide) rfl q3118 rfl rfl d_Mo_roomLine_35 ?_
  refine lv_aload_n G.1 G.2.1 d_Mo_roomLine_38 rfl (lv_at hl 0 rfl) ?_
  refine lv_iconst (v := 0) G.1 G.2.1 d_Mo_roomLine_39 (by decide) ?_
  refine lv_bipush (v := 20) G.1 G.2.1 d_Mo_roomLine_40 (by decide) ?_
  obtain ⟨mc_30, ms_31, hr_32, h⟩ := h
  refine uxVi (As := [.int 0, .int 20]) (rest := [.int (sV s_21 a0 54), .ref (yP y_14 b_22 22)]) G hP hD hS (cx_Mo_numberIn l D g ad mc_30 ms_31 y_14 _ _ s_21 a0 0 20 H.size (us H) h_a0 h) (fun _ h => absurd h List.not_mem_nil) w9_Mo_numberIn q3592 ⟨Nat.le_of_ble_eq_true rfl, Nat.le_of_ble_eq_true rfl⟩ rfl rfl h_a0 (q := (RMo, TMo, 131)) rfl rfl hl.1 rfl (Nat.le_of_ble_eq_true rfl) rfl hr_32 d_Mo_roomLine_42 (fun y_27 s_26 d_28 e_29 H locs q9 ce h hP hD hS hce hcv hcl => ?_) (fun r_25 y_27 s_26 d_28 e_29 H locs h hP hD hS => ?_)
  · skip
    obtain ⟨hd, h⟩ := h
    exact hretX h hP hD hS hd.1 hd.2 hce hcv hcl
  obtain ⟨hd, h⟩ := h
  obtain ⟨n_33, h⟩ := h
  rw [n_33]
  refine W.eq (g2 := F0 m 45 ls [.int r_25, .int (sV s_21 a0 54), .ref (yP y_27 b_22 22)]) rfl ?_
  refine uiast G hP hD hS (kdp c_24 rfl) (typ c_24 rfl) h d_Mo_roomLine_45 (fun s_34 H locs h hP hD hS => ?_)
  refine lv_aload_n G.1 G.2.1 d_Mo_roomLine_46 rfl (lv_at hl 0 rfl) ?_
  refine lv_iconst (v := 0) G.1 G.2.1 d_Mo_roomLine_47 (by decide) ?_
  obtain ⟨mc_40, ms_41, hr_42, h⟩ := h
  refine uxVv (As := [.int 0]) (rest := []) G hP hD hS (cx_Mo_need l D g ad mc_40 ms_41 y_27 _ _ s_34 a0 0 H.size (us H) h_a0 h) (fun _ h => absurd h List.not_mem_nil) w9_Mo_need q3567 ⟨Nat.le_of_ble_eq_true rfl, Nat.le_of_ble_eq_true rfl⟩ rfl rfl h_a0 (q := (RMo, TMo, 131)) rfl rfl hl.1 rfl (Nat.le_of_ble_eq_true rfl) rfl hr_42 d_Mo_roomLine_48 (fun y_37 s_36 d_38 e_39 H locs q9 ce h hP hD hS hce hcv hcl => ?_) (fun y_37 s_36 d_38 e_39 H locs h hP hD hS => ?_)
  · skip
    obtain ⟨hd, h⟩ := h
    exact hretX h hP hD hS hd.1 hd.2 hce hcv hcl
  obtain ⟨hd, h⟩ := h
  refine lv_aload_n G.1 G.2.1 d_Mo_roomLine_51 rfl (lv_at hl 0 rfl) ?_
  refine lv_bipush (v := 13) G.1 G.2.1 d_Mo_roomLine_52 (by decide) ?_
  refine lv_aload_n G.1 G.2.1 d_Mo_roomLine_54 rfl (lv_at hl 0 rfl) ?_
  obtain ⟨b_43, e_44, c_45, h⟩ := h
  refine ugf (v := .ref (ad b_43)) G hP h_a0 iMo rfl 45 (by decide) rfl q3109 rfl (by show va_rf ((sO s_36 a0 45).map ad) = _; rw [e_44]; rfl) d_Mo_roomLine_55 ?_
  refine ugfN (v := .ref (yP y_37 b_43 22)) G hP c_45 iMw rfl 22 (by decide) rfl q2748 rfl rfl d_Mo_roomLine_58 ?_
  refine lv_aload_n G.1 G.2.1 d_Mo_roomLine_61 rfl (lv_at hl 0 rfl) ?_
  refine ugf (v := .int (sV s_36 a0 54)) G hP h_a0 iMo rfl 54 (by decide) rfl q3118 rfl rfl d_Mo_roomLine_62 ?_
  refine uiald G hP (kdp c_45 rfl) (typ c_45 rfl) h d_Mo_roomLine_65 (fun x_46 h => ?_)
  refine W.eq (g2 := F0 m 66 ls [.int x_46, .int 13, .ref (ad a0)]) rfl ?_
  refine lv_aload_n G.1 G.2.1 d_Mo_roomLine_66 rfl (lv_at hl 0 rfl) ?_
  refine lv_aload_n G.1 G.2.1 d_Mo_roomLine_67 rfl (lv_at hl 0 rfl) ?_
  refine ugf (v := .int (sV s_36 a0 54)) G hP h_a0 iMo rfl 54 (by decide) rfl q3118 rfl rfl d_Mo_roomLine_68 ?_
  refine ucVi (As := [.int (sV s_36 a0 54)]) (rest := [.int x_46, .int 13, .ref (ad a0)]) G hP hD hS (cu_Mo_argumentsOf l D g ad y_37 _ s_36 a0 (sV s_36 a0 54) H.size h_a0 h) w9_Mo_argumentsOf q3612 ⟨Nat.le_of_ble_eq_true rfl, Nat.le_of_ble_eq_true rfl⟩ rfl rfl h_a0 (q := (RMo, TMo, 131)) rfl rfl hl.1 rfl (Nat.le_of_ble_eq_true rfl) rfl hd d_Mo_roomLine_71 (fun r_47 s_48 H locs h hP hD hS => ?_)
  have J_82 : ∀ (y_j82 : Ly) (s_j82 : St) (d_j82 e_j82 : Nat) (z1j82 : Int32) (z2j82 : Int32) (H : Heap) (locs : List Loc), wja_Mo_roomLine_82 mc ms Post PX a0 y_j82 s_j82 d_j82 e_j82 z1j82 z2j82 → va_P D CL (ws g ad y_j82 s_j82) H → va_D A (ws g ad y_j82 s_j82) → va_S A s.heap H locs → ∀ ls, lv_has ls 1 [(0, .ref (ad a0))] → W p l e (ra_Mo_roomLine mc ms) s m args below meth c H locs d_j82 e_j82 Q (F0 m 82 ls [.int z2j82, .int z1j82, .ref (ad a0)]) := by
    intro y_j82 s_j82 d_j82 e_j82 z1j82 z2j82 H locs h hP hD hS ls hl
    unfold wja_Mo_roomLine_82 at h
    obtain ⟨hd, h⟩ := h
    refine ucVv (As := [.int z1j82, .int z2j82]) (rest := []) G hP hD hS (cu_Mo_asks l D g ad y_j82 _ s_j82 a0 z1j82 z2j82 H.size h_a0 h) w9_Mo_asks q3575 ⟨Nat.le_of_ble_eq_true rfl, Nat.le_of_ble_eq_true rfl⟩ rfl rfl h_a0 (q := (RMo, TMo, 131)) rfl rfl hl.1 rfl (Nat.le_of_ble_eq_true rfl) rfl hd d_Mo_roomLine_82 (fun s_50 H locs h hP hD hS => ?_)
    refine lv_aload_n G.1 G.2.1 d_Mo_roomLine_85 rfl (lv_at hl 0 rfl) ?_
    refine lv_iconst (v := 3) G.1 G.2.1 d_Mo_roomLine_86 (by decide) ?_
    refine upf G hP hD hS h 52 putV h_a0 iMo tMo tMo_ok nMo rfl (by decide) rfl q3116 rfl rfl fV rfl rfl d_Mo_roomLine_87 (fun s_51 H locs h hP hD hS => ?_)
    exact hret (y_j82, s_51, d_j82, e_j82) _ _ _ _ _ ls h hP hD hS (Nat.le_refl _) (Nat.le_refl _) hd.1 hd.2 d_Mo_roomLine_90
  refine lv_icmp_ge (tgt := 81) G.1 G.2.1 d_Mo_roomLine_74 (by decide) (fun c74 => ?_) (fun c74 => ?_)
  · skip
    have h := h.1 c74
    refine lv_iconst (v := 0) G.1 G.2.1 d_Mo_roomLine_81 (by decide) ?_
    exact J_82 y_37 s_48 (0 + d_4 + d_15 + d_28 + d_38) (0 + e_5 + e_16 + e_29 + e_39) 13 0 H locs h hP hD hS ls (lv_sub hl [0] rfl)
  · skip
    have h := h.2 c74
    refine lv_iconst (v := 1) G.1 G.2.1 d_Mo_roomLine_77 (by decide) ?_
    refine lv_goto (tgt := 82) G.1 G.2.1 d_Mo_roomLine_78 (by decide) ?_
    exact J_82 y_37 s_48 (0 + d_4 + d_15 + d_28 + d_38) (0 + e_5 + e_16 + e_29 + e_39) 13 1 H locs h hP hD hS ls (lv_sub hl [0] rfl)
def y_Mo_kindWord : MethodName := ⟨"ClassWorksModel", "kindWord", "()I"⟩
abbrev b_Mo_kindWord : ByteArray := prog_14_method_45_code
theorem d_Mo_kindWord_0 : decode b_Mo_kindWord 0 = .ok (.aload_n 0, 1) := by decide +kernel
theorem d_Mo_kindWord_1 : decode b_Mo_kindWord 1 = .ok (.aload_n 0, 1) := by decide +kernel
theorem d_Mo_kindWord_2 : decode b_Mo_kindWord 2 = .ok (.getfield 245, 3) := by decide +kernel
theorem d_Mo_kindWord_5 : decode b_Mo_kindWord 5 = .ok (.invokevirtual 541, 3) := by decide +kernel
theorem d_Mo_kindWord_8 : decode b_Mo_kindWord 8 = .ok (.ifCond .eq 5, 3) := by decide +kernel
theorem d_Mo_kindWord_11 : decode b_Mo_kindWord 11 = .ok (.iconst 1, 1) := by decide +kernel
theorem d_Mo_kindWord_12 : decode b_Mo_kindWord 12 = .ok (.ireturn, 1) := by decide +kernel
theorem d_Mo_kindWord_13 : decode b_Mo_kindWord 13 = .ok (.aload_n 0, 1) := by decide +kernel
theorem d_Mo_kindWord_14 : decode b_Mo_kindWord 14 = .ok (.aload_n 0, 1) := by decide +kernel
theorem d_Mo_kindWord_15 : decode b_Mo_kindWord 15 = .ok (.getfield 212, 3) := by decide +kernel
theorem d_Mo_kindWord_18 : decode b_Mo_kindWord 18 = .ok (.invokevirtual 541, 3) := by decide +kernel
theorem d_Mo_kindWord_21 : decode b_Mo_kindWord 21 = .ok (.ifCond .eq 5, 3) := by decide +kernel
theorem d_Mo_kindWord_24 : decode b_Mo_kindWord 24 = .ok (.iconst 2, 1) := by decide +kernel
theorem d_Mo_kindWord_25 : decode b_Mo_kindWord 25 = .ok (.ireturn, 1) := by decide +kernel
theorem d_Mo_kindWord_26 : decode b_Mo_kindWord 26 = .ok (.aload_n 0, 1) := by decide +kernel
theorem d_Mo_kindWord_27 : decode b_Mo_kindWord 27 = .ok (.aload_n 0, 1) := by decide +kernel
theorem d_Mo_kindWord_28 : decode b_Mo_kindWord 28 = .ok (.getfield 248, 3) := by decide +kernel
theorem d_Mo_kindWord_31 : decode b_Mo_kindWord 31 = .ok (.invokevirtual 541, 3) := by decide +kernel
theorem d_Mo_kindWord_34 : decode b_Mo_kindWord 34 = .ok (.ifCond .eq 5, 3) := by decide +kernel
theorem d_Mo_kindWord_37 : decode b_Mo_kindWord 37 = .ok (.iconst 3, 1) := by decide +kernel
theorem d_Mo_kindWord_38 : decode b_Mo_kindWord 38 = .ok (.ireturn, 1) := by decide +kernel
theorem d_Mo_kindWord_39 : decode b_Mo_kindWord 39 = .ok (.aload_n 0, 1) := by decide +kernel
theorem d_Mo_kindWord_40 : decode b_Mo_kindWord 40 = .ok (.aload_n 0, 1) := by decide +kernel
theorem d_Mo_kindWord_41 : decode b_Mo_kindWord 41 = .ok (.getfield 222, 3) := by decide +kernel
theorem d_Mo_kindWord_44 : decode b_Mo_kindWord 44 = .ok (.invokevirtual 541, 3) := by decide +kernel
theorem d_Mo_kindWord_47 : decode b_Mo_kindWord 47 = .ok (.ifCond .eq 5, 3) := by decide +kernel
theorem d_Mo_kindWord_50 : decode b_Mo_kindWord 50 = .ok (.iconst 4, 1) := by decide +kernel
theorem d_Mo_kindWord_51 : decode b_Mo_kindWord 51 = .ok (.ireturn, 1) := by decide +kernel
theorem d_Mo_kindWord_52 : decode b_Mo_kindWord 52 = .ok (.aload_n 0, 1) := by decide +kernel
theorem d_Mo_kindWord_53 : decode b_Mo_kindWord 53 = .ok (.aload_n 0, 1) := by decide +kernel
theorem d_Mo_kindWord_54 : decode b_Mo_kindWord 54 = .ok (.getfield 227, 3) := by decide +kernel
theorem d_Mo_kindWord_57 : decode b_Mo_kindWord 57 = .ok (.invokevirtual 541, 3) := by decide +kernel
theorem d_Mo_kindWord_60 : decode b_Mo_kindWord 60 = .ok (.ifCond .eq 7, 3) := by decide +kernel
theorem d_Mo_kindWord_63 : decode b_Mo_kindWord 63 = .ok (.iconst 5, 1) := by decide +kernel
theorem d_Mo_kindWord_64 : decode b_Mo_kindWord 64 = .ok (.goto 10, 3) := by decide +kernel
theorem d_Mo_kindWord_67 : decode b_Mo_kindWord 67 = .ok (.bipush 16, 2) := by decide +kernel
theorem d_Mo_kindWord_69 : decode b_Mo_kindWord 69 = .ok (.aload_n 0, 1) := by decide +kernel
theorem d_Mo_kindWord_70 : decode b_Mo_kindWord 70 = .ok (.invokevirtual 554, 3) := by decide +kernel
theorem d_Mo_kindWord_73 : decode b_Mo_kindWord 73 = .ok (.iadd, 1) := by decide +kernel
theorem d_Mo_kindWord_74 : decode b_Mo_kindWord 74 = .ok (.ireturn, 1) := by decide +kernel
abbrev ra_Mo_kindWord (mc ms : Nat) : Room := { frames := 4, cells := mc, slots := ms, locals := 82 }
def wja_Mo_kindWord_74 (mc ms : Nat) (Post : Ly → St → Int32 → Nat → Nat → Prop) (PX : Ly → St → Nat → Nat → Prop) (a0 : Nat) (y_j74 : Ly) (s_j74 : St) (d_j74 e_j74 : Nat) (z0j74 : Int32) : Prop := (d_j74 ≤ mc ∧ e_j74 ≤ ms) ∧ Post y_j74 s_j74 z0j74 d_j74 e_j74
def wx_Mo_kindWord (mc ms : Nat) (y : Ly) (Post : Ly → St → Int32 → Nat → Nat → Prop) (PX : Ly → St → Nat → Nat → Prop) (σ : St) (a0 : Nat) : Prop := wu_Mo_takes y (fun (s_2 : St) (r_1 : Int32) => ((r_1 = 0 → wu_Mo_takes y (fun (s_4 : St) (r_3 : Int32) => ((r_3 = 0 → wu_Mo_takes y (fun (s_6 : St) (r_5 : Int32) => ((r_5 = 0 → wu_Mo_takes y (fun (s_8 : St) (r_7 : Int32) => ((r_7 = 0 → wu_Mo_takes y (fun (s_10 : St) (r_9 : Int32) => ((r_9 = 0 → ∃ mc_16 ms_17 : Nat, (0 + mc_16 ≤ mc ∧ 0 + ms_17 ≤ ms) ∧ wx_Mo_className mc_16 ms_17 y (fun (y_13 : Ly) (s_12 : St) (r_11 : Int32) (d_14 e_15 : Nat) => (0 + d_14 ≤ mc ∧ 0 + e_15 ≤ ms) ∧ wja_Mo_kindWord_74 mc ms Post PX a0 y_13 s_12 (0 + d_14) (0 + e_15) (16 + r_11)) (fun (y_13 : Ly) (s_12 : St) (d_14 e_15 : Nat) => ((0 + d_14 ≤ mc ∧ 0 + e_15 ≤ ms) ∧ PX y_13 s_12 (0 + d_14) (0 + e_15))) s_10 a0) ∧ (¬ (r_9 = 0) → wja_Mo_kindWord_74 mc ms Post PX a0 y s_10 0 0 5))) s_8 a0 (sV s_8 a0 23)) ∧ (¬ (r_7 = 0) → Post y s_8 4 0 0))) s_6 a0 (sV s_6 a0 22)) ∧ (¬ (r_5 = 0) → Post y s_6 3 0 0))) s_4 a0 (sV s_4 a0 28)) ∧ (¬ (r_3 = 0) → Post y s_4 2 0 0))) s_2 a0 (sV s_2 a0 20)) ∧ (¬ (r_1 = 0) → Post y s_2 1 0 0))) σ a0 (sV σ a0 27)
set_option maxHeartbeats 4000000 in
set_option maxRecDepth 100000 in
theorem cx_Mo_kindWord (l : Launch) (D : va_G) (g : Nat → ClassId) (ad : Nat → Nat) (mc ms : Nat) (y : Ly) (Post : Ly → St → Int32 → Nat → Nat → Prop) (PX : Ly → St → Nat → Nat → Prop) (σ : St) (a0 : Nat) (sz uz : Nat) (h_a0 : cl a0 = 14) (h : wx_Mo_kindWord mc ms y Post PX σ a0) : vx_Met l y_Mo_kindWord (mw y_Mo_kindWord b_Mo_kindWord 1 (some .int)) (ra_Mo_kindWord mc ms) (PCu g D [] [.ref (ad a0)] sz uz (ws g ad y σ)) (va_Qi (fun (r : Int32) (u : Ly × St × Nat × Nat) => Post u.1 u.2.1 r u.2.2.1 u.2.2.2) (QU D (va_A (ws g ad y σ) sz) (fun u => ws g ad u.1 u.2.1) sz uz (fun u => u.2.2.1) (fun u => u.2.2.2)) (va_A (ws g ad y σ) sz)) (XQ D g ad (va_A (ws g ad y σ) sz) sz uz PX) mc ms (va_A (ws g ad y σ) sz) := by
  refine ofIx (by decide +kernel) (Nat.le_of_ble_eq_true rfl) ?_
  intro p e s m args below meth c A Q ls H locs G hsz hP hD hS hl hret hretX
  subst hsz
  have hl : lv_has ls 1 [(0, .ref (ad a0))] := hl
  have hd : 0 ≤ mc ∧ 0 ≤ ms := ⟨Nat.zero_le _, Nat.zero_le _⟩
  unfold wx_Mo_kindWord at h
  refine lv_aload_n G.1 G.2.1 d_Mo_kindWord_0 rfl (lv_at hl 0 rfl) ?_
  refine lv_aload_n G.1 G.2.1 d_Mo_kindWord_1 rfl (lv_at hl 0 rfl) ?_
  refine ugf (v := .int (sV σ a0 27)) G hP h_a0 iMo rfl 27 (by decide) rfl q3091 rfl rfl d_Mo_kindWord_2 ?_
  refine ucVi (As := [.int (sV σ a0 27)]) (rest := []) G hP hD hS (cu_Mo_takes l D g ad y _ σ a0 (sV σ a0 27) H.size h_a0 h) w9_Mo_takes q3547 ⟨Nat.le_of_ble_eq_true rfl, Nat.le_of_ble_eq_true rfl⟩ rfl rfl h_a0 (q := (RMo, TMo, 131)) rfl rfl hl.1 rfl (Nat.le_of_ble_eq_true rfl) rfl hd d_Mo_kindWord_5 (fun r_1 s_2 H locs h hP hD hS => ?_)
  refine lv_if_eq (tgt := 13) G.1 G.2.1 d_Mo_kindWord_8 (by decide) (fun c8 => ?_) (fun c8 => ?_)
  · skip
    have h := h.1 c8
    refine lv_aload_n G.1 G.2.1 d_Mo_kindWord_13 rfl (lv_at hl 0 rfl) ?_
    refine lv_aload_n G.1 G.2.1 d_Mo_kindWord_14 rfl (lv_at hl 0 rfl) ?_
    refine ugf (v := .int (sV s_2 a0 20)) G hP h_a0 iMo rfl 20 (by decide) rfl q3084 rfl rfl d_Mo_kindWord_15 ?_
    refine ucVi (As := [.int (sV s_2 a0 20)]) (rest := []) G hP hD hS (cu_Mo_takes l D g ad y _ s_2 a0 (sV s_2 a0 20) H.size h_a0 h) w9_Mo_takes q3547 ⟨Nat.le_of_ble_eq_true rfl, Nat.le_of_ble_eq_true rfl⟩ rfl rfl h_a0 (q := (RMo, TMo, 131)) rfl rfl hl.1 rfl (Nat.le_of_ble_eq_true rfl) rfl hd d_Mo_kindWord_18 (fun r_3 s_4 H locs h hP hD hS => ?_)
    refine lv_if_eq (tgt := 26) G.1 G.2.1 d_Mo_kindWord_21 (by decide) (fun c21 => ?_) (fun c21 => ?_)
    · skip
      have h := h.1 c21
      refine lv_aload_n G.1 G.2.1 d_Mo_kindWord_26 rfl (lv_at hl 0 rfl) ?_
      refine W.eq (g2 := F0 m 27 ls [.ref (ad a0)]) rfl ?_
      refine lv_aload_n G.1 G.2.1 d_Mo_kindWord_27 rfl (lv_at hl 0 rfl) ?_
      refine ugf (v := .int (sV s_4 a0 28)) G hP h_a0 iMo rfl 28 (by decide) rfl q3092 rfl rfl d_Mo_kindWord_28 ?_
      refine ucVi (As := [.int (sV s_4 a0 28)]) (rest := []) G hP hD hS (cu_Mo_takes l D g ad y _ s_4 a0 (sV s_4 a0 28) H.size h_a0 h) w9_Mo_takes q3547 ⟨Nat.le_of_ble_eq_true rfl, Nat.le_of_ble_eq_true rfl⟩ rfl rfl h_a0 (q := (RMo, TMo, 131)) rfl rfl hl.1 rfl (Nat.le_of_ble_eq_true rfl) rfl hd d_Mo_kindWord_31 (fun r_5 s_6 H locs h hP hD hS => ?_)
      refine lv_if_eq (tgt := 39) G.1 G.2.1 d_Mo_kindWord_34 (by decide) (fun c34 => ?_) (fun c34 => ?_)
      · skip
        have h := h.1 c34
        refine lv_aload_n G.1 G.2.1 d_Mo_kindWord_39 rfl (lv_at hl 0 rfl) ?_
        refine lv_aload_n G.1 G.2.1 d_Mo_kindWord_40 rfl (lv_at hl 0 rfl) ?_
        refine ugf (v := .int (sV s_6 a0 22)) G hP h_a0 iMo rfl 22 (by decide) rfl q3086 rfl rfl d_Mo_kindWord_41 ?_
        refine ucVi (As := [.int (sV s_6 a0 22)]) (rest := []) G hP hD hS (cu_Mo_takes l D g ad y _ s_6 a0 (sV s_6 a0 22) H.size h_a0 h) w9_Mo_takes q3547 ⟨Nat.le_of_ble_eq_true rfl, Nat.le_of_ble_eq_true rfl⟩ rfl rfl h_a0 (q := (RMo, TMo, 131)) rfl rfl hl.1 rfl (Nat.le_of_ble_eq_true rfl) rfl hd d_Mo_kindWord_44 (fun r_7 s_8 H locs h hP hD hS => ?_)
        refine lv_if_eq (tgt := 52) G.1 G.2.1 d_Mo_kindWord_47 (by decide) (fun c47 => ?_) (fun c47 => ?_)
        · skip
          have h := h.1 c47
          refine lv_aload_n G.1 G.2.1 d_Mo_kindWord_52 rfl (lv_at hl 0 rfl) ?_
          refine lv_aload_n G.1 G.2.1 d_Mo_kindWord_53 rfl (lv_at hl 0 rfl) ?_
          refine ugf (v := .int (sV s_8 a0 23)) G hP h_a0 iMo rfl 23 (by decide) rfl q3087 rfl rfl d_Mo_kindWord_54 ?_
          refine W.eq (g2 := F0 m 57 ls [.int (sV s_8 a0 23), .ref (ad a0)]) rfl ?_
          refine ucVi (As := [.int (sV s_8 a0 23)]) (rest := []) G hP hD hS (cu_Mo_takes l D g ad y _ s_8 a0 (sV s_8 a0 23) H.size h_a0 h) w9_Mo_takes q3547 ⟨Nat.le_of_ble_eq_true rfl, Nat.le_of_ble_eq_true rfl⟩ rfl rfl h_a0 (q := (RMo, TMo, 131)) rfl rfl hl.1 rfl (Nat.le_of_ble_eq_true rfl) rfl hd d_Mo_kindWord_57 (fun r_9 s_10 H locs h hP hD hS => ?_)
          have J_74 : ∀ (y_j74 : Ly) (s_j74 : St) (d_j74 e_j74 : Nat) (z0j74 : Int32) (H : Heap) (locs : List Loc), wja_Mo_kindWord_74 mc ms Post PX a0 y_j74 s_j74 d_j74 e_j74 z0j74 → va_P D CL (ws g ad y_j74 s_j74) H → va_D A (ws g ad y_j74 s_j74) → va_S A s.heap H locs → ∀ ls, lv_has ls 1 [] → W p l e (ra_Mo_kindWord mc ms) s m args below meth c H locs d_j74 e_j74 Q (F0 m 74 ls [.int z0j74]) := by
            intro y_j74 s_j74 d_j74 e_j74 z0j74 H locs h hP hD hS ls hl
            unfold wja_Mo_kindWord_74 at h
            obtain ⟨hd, h⟩ := h
            exact hret _ (y_j74, s_j74, d_j74, e_j74) _ _ _ _ _ ls h hP hD hS (Nat.le_refl _) (Nat.le_refl _) hd.1 hd.2 d_Mo_kindWord_74
          refine lv_if_eq (tgt := 67) G.1 G.2.1 d_Mo_kindWord_60 (by decide) (fun c60 => ?_) (fun c60 => ?_)
          · skip
            have h := h.1 c60
            refine lv_bipush (v := 16) G.1 G.2.1 d_Mo_kindWord_67 (by decide) ?_
            refine lv_aload_n G.1 G.2.1 d_Mo_kindWord_69 rfl (lv_at hl 0 rfl) ?_
            obtain ⟨mc_16, ms_17, hr_18, h⟩ := h
            refine uxVi (As := []) (rest := [.int 16]) G hP hD hS (cx_Mo_className l D g ad mc_16 ms_17 y _ _ s_10 a0 H.size (us H) h_a0 h) (fun _ h => absurd h List.not_mem_nil) w9_Mo_className q3555 ⟨Nat.le_of_ble_eq_true rfl, Nat.le_of_ble_eq_true rfl⟩ rfl rfl h_a0 (q := (RMo, TMo, 131)) rfl rfl hl.1 rfl (Nat.le_of_ble_eq_true rfl) rfl hr_18 d_Mo_kindWord_70 (fun y_13 s_12 d_14 e_15 H locs q9 ce h hP hD hS hce hcv hcl => ?_) (fun r_11 y_13 s_12 d_14 e_15 H locs h hP hD hS => ?_)
            · skip
              obtain ⟨hd, h⟩ := h
              exact hretX h hP hD hS hd.1 hd.2 hce hcv hcl
            have hl := lv_sub (l' := []) hl [] rfl
            obtain ⟨hd, h⟩ := h
            refine lv_iadd G.1 G.2.1 d_Mo_kindWord_73 ?_
            exact J_74 y_13 s_12 (0 + d_14) (0 + e_15) (16 + r_11) H locs h hP hD hS ls (lv_sub hl [] rfl)
          · skip
            have h := h.2 c60
            refine lv_iconst (v := 5) G.1 G.2.1 d_Mo_kindWord_63 (by decide) ?_
            refine lv_goto (tgt := 74) G.1 G.2.1 d_Mo_kindWord_64 (by decide) ?_
            exact J_74 y s_10 0 0 5 H locs h hP hD hS ls (lv_sub hl [] rfl)
        · skip
          have h := h.2 c47
          refine lv_iconst (v := 4) G.1 G.2.1 d_Mo_kindWord_50 (by decide) ?_
          exact hret _ (y, s_8, 0, 0) _ _ _ _ _ ls h hP hD hS (Nat.le_refl _) (Nat.le_refl _) hd.1 hd.2 d_Mo_kindWord_51
      · skip
        have h := h.2 c34
        refine lv_iconst (v := 3) G.1 G.2.1 d_Mo_kindWord_37 (by decide) ?_
        exact hret _ (y, s_6, 0, 0) _ _ _ _ _ ls h hP hD hS (Nat.le_refl _) (Nat.le_refl _) hd.1 hd.2 d_Mo_kindWord_38
    · skip
      have h := h.2 c21
      refine lv_iconst (v := 2) G.1 G.2.1 d_Mo_kindWord_24 (by decide) ?_
      refine W.eq (g2 := F0 m 25 ls [.int 2]) rfl ?_
      exact hret _ (y, s_4, 0, 0) _ _ _ _ _ ls h hP hD hS (Nat.le_refl _) (Nat.le_refl _) hd.1 hd.2 d_Mo_kindWord_25
  · skip
    have h := h.2 c8
    refine lv_iconst (v := 1) G.1 G.2.1 d_Mo_kindWord_11 (by decide) ?_
    exact hret _ (y, s_2, 0, 0) _ _ _ _ _ ls h hP hD hS (Nat.le_refl _) (Nat.le_refl _) hd.1 hd.2 d_Mo_kindWord_12
theorem q3628 : Cond.methodLink "ClassWorksModel" 695 y_Mo_kindWord ∈ lw_ok := lw_okmem (List.mem_of_getElem? (i := 3628) (by decide +kernel)) rfl
theorem q3631 : Cond.code y_Mo_kindWord b_Mo_kindWord 1 (some .int) ∈ lw_ok := lw_okmem (List.mem_of_getElem? (i := 3631) (by decide +kernel)) rfl
theorem q3630 : Cond.instanceMethod y_Mo_kindWord ∈ lw_ok := lw_okmem (List.mem_of_getElem? (i := 3630) (by decide +kernel)) rfl
theorem q210 : Cond.selects y_Mo_kindWord.cls y_Mo_kindWord y_Mo_kindWord ∈ lw_ok := lw_okmem (List.mem_of_getElem? (i := 210) (by decide +kernel)) rfl
theorem w9_Mo_kindWord : CWv y_Mo_kindWord b_Mo_kindWord 1 (some .int) 0 ∧ Cond.instanceMethod y_Mo_kindWord ∈ lw_ok ∧ Cond.selects y_Mo_kindWord.cls y_Mo_kindWord y_Mo_kindWord ∈ lw_ok := ⟨⟨q3631, q348, by decide +kernel, by decide +kernel, by decide +kernel⟩, q3630, q210⟩
def y_Mo_kindWords : MethodName := ⟨"ClassWorksModel", "kindWords", "(I)I"⟩
abbrev b_Mo_kindWords : ByteArray := prog_14_method_46_code
theorem d_Mo_kindWords_0 : decode b_Mo_kindWords 0 = .ok (.iconst 0, 1) := by decide +kernel
theorem d_Mo_kindWords_1 : decode b_Mo_kindWords 1 = .ok (.istore_n 2, 1) := by decide +kernel
theorem d_Mo_kindWords_2 : decode b_Mo_kindWords 2 = .ok (.aload_n 0, 1) := by decide +kernel
theorem d_Mo_kindWords_3 : decode b_Mo_kindWords 3 = .ok (.getfield 92, 3) := by decide +kernel
theorem d_Mo_kindWords_6 : decode b_Mo_kindWords 6 = .ok (.aload_n 0, 1) := by decide +kernel
theorem d_Mo_kindWords_7 : decode b_Mo_kindWords 7 = .ok (.getfield 104, 3) := by decide +kernel
theorem d_Mo_kindWords_10 : decode b_Mo_kindWords 10 = .ok (.baload, 1) := by decide +kernel
theorem d_Mo_kindWords_11 : decode b_Mo_kindWords 11 = .ok (.iload_n 1, 1) := by decide +kernel
theorem d_Mo_kindWords_12 : decode b_Mo_kindWords 12 = .ok (.if_icmp .eq 111, 3) := by decide +kernel
theorem d_Mo_kindWords_15 : decode b_Mo_kindWords 15 = .ok (.iconst 1, 1) := by decide +kernel
theorem d_Mo_kindWords_16 : decode b_Mo_kindWords 16 = .ok (.istore_n 3, 1) := by decide +kernel
theorem d_Mo_kindWords_17 : decode b_Mo_kindWords 17 = .ok (.iload_n 3, 1) := by decide +kernel
theorem d_Mo_kindWords_18 : decode b_Mo_kindWords 18 = .ok (.ifCond .eq 105, 3) := by decide +kernel
theorem d_Mo_kindWords_21 : decode b_Mo_kindWords 21 = .ok (.aload_n 0, 1) := by decide +kernel
theorem d_Mo_kindWords_22 : decode b_Mo_kindWords 22 = .ok (.getfield 522, 3) := by decide +kernel
theorem d_Mo_kindWords_25 : decode b_Mo_kindWords 25 = .ok (.aload_n 0, 1) := by decide +kernel
theorem d_Mo_kindWords_26 : decode b_Mo_kindWords 26 = .ok (.getfield 522, 3) := by decide +kernel
theorem d_Mo_kindWords_29 : decode b_Mo_kindWords 29 = .ok (.getfield 692, 3) := by decide +kernel
theorem d_Mo_kindWords_32 : decode b_Mo_kindWords 32 = .ok (.aload_n 0, 1) := by decide +kernel
theorem d_Mo_kindWords_33 : decode b_Mo_kindWords 33 = .ok (.getfield 522, 3) := by decide +kernel
theorem d_Mo_kindWords_36 : decode b_Mo_kindWords 36 = .ok (.getfield 480, 3) := by decide +kernel
theorem d_Mo_kindWords_39 : decode b_Mo_kindWords 39 = .ok (.iconst 1, 1) := by decide +kernel
theorem d_Mo_kindWords_40 : decode b_Mo_kindWords 40 = .ok (.iadd, 1) := by decide +kernel
theorem d_Mo_kindWords_41 : decode b_Mo_kindWords 41 = .ok (.invokestatic 43, 3) := by decide +kernel
theorem d_Mo_kindWords_44 : decode b_Mo_kindWords 44 = .ok (.putfield 692, 3) := by decide +kernel
theorem d_Mo_kindWords_47 : decode b_Mo_kindWords 47 = .ok (.aload_n 0, 1) := by decide +kernel
theorem d_Mo_kindWords_48 : decode b_Mo_kindWords 48 = .ok (.getfield 522, 3) := by decide +kernel
theorem d_Mo_kindWords_51 : decode b_Mo_kindWords 51 = .ok (.getfield 692, 3) := by decide +kernel
theorem d_Mo_kindWords_54 : decode b_Mo_kindWords 54 = .ok (.aload_n 0, 1) := by decide +kernel
theorem d_Mo_kindWords_55 : decode b_Mo_kindWords 55 = .ok (.getfield 522, 3) := by decide +kernel
theorem d_Mo_kindWords_58 : decode b_Mo_kindWords 58 = .ok (.getfield 480, 3) := by decide +kernel
theorem d_Mo_kindWords_61 : decode b_Mo_kindWords 61 = .ok (.aload_n 0, 1) := by decide +kernel
theorem d_Mo_kindWords_62 : decode b_Mo_kindWords 62 = .ok (.invokevirtual 695, 3) := by decide +kernel
theorem d_Mo_kindWords_65 : decode b_Mo_kindWords 65 = .ok (.iastore, 1) := by decide +kernel
theorem d_Mo_kindWords_66 : decode b_Mo_kindWords 66 = .ok (.aload_n 0, 1) := by decide +kernel
theorem d_Mo_kindWords_67 : decode b_Mo_kindWords 67 = .ok (.getfield 522, 3) := by decide +kernel
theorem d_Mo_kindWords_70 : decode b_Mo_kindWords 70 = .ok (.dup, 1) := by decide +kernel
theorem d_Mo_kindWords_71 : decode b_Mo_kindWords 71 = .ok (.getfield 480, 3) := by decide +kernel
theorem d_Mo_kindWords_74 : decode b_Mo_kindWords 74 = .ok (.iconst 1, 1) := by decide +kernel
theorem d_Mo_kindWords_75 : decode b_Mo_kindWords 75 = .ok (.iadd, 1) := by decide +kernel
theorem d_Mo_kindWords_76 : decode b_Mo_kindWords 76 = .ok (.putfield 480, 3) := by decide +kernel
theorem d_Mo_kindWords_79 : decode b_Mo_kindWords 79 = .ok (.iinc 2 1, 3) := by decide +kernel
theorem d_Mo_kindWords_82 : decode b_Mo_kindWords 82 = .ok (.aload_n 0, 1) := by decide +kernel
theorem d_Mo_kindWords_83 : decode b_Mo_kindWords 83 = .ok (.getfield 92, 3) := by decide +kernel
theorem d_Mo_kindWords_86 : decode b_Mo_kindWords 86 = .ok (.aload_n 0, 1) := by decide +kernel
theorem d_Mo_kindWords_87 : decode b_Mo_kindWords 87 = .ok (.getfield 104, 3) := by decide +kernel
theorem d_Mo_kindWords_90 : decode b_Mo_kindWords 90 = .ok (.baload, 1) := by decide +kernel
theorem d_Mo_kindWords_91 : decode b_Mo_kindWords 91 = .ok (.bipush 44, 2) := by decide +kernel
theorem d_Mo_kindWords_93 : decode b_Mo_kindWords 93 = .ok (.if_icmp .ne 7, 3) := by decide +kernel
theorem d_Mo_kindWords_96 : decode b_Mo_kindWords 96 = .ok (.iconst 1, 1) := by decide +kernel
theorem d_Mo_kindWords_97 : decode b_Mo_kindWords 97 = .ok (.goto 4, 3) := by decide +kernel
theorem d_Mo_kindWords_100 : decode b_Mo_kindWords 100 = .ok (.iconst 0, 1) := by decide +kernel
theorem d_Mo_kindWords_101 : decode b_Mo_kindWords 101 = .ok (.istore_n 3, 1) := by decide +kernel
theorem d_Mo_kindWords_102 : decode b_Mo_kindWords 102 = .ok (.aload_n 0, 1) := by decide +kernel
theorem d_Mo_kindWords_103 : decode b_Mo_kindWords 103 = .ok (.dup, 1) := by decide +kernel
theorem d_Mo_kindWords_104 : decode b_Mo_kindWords 104 = .ok (.getfield 104, 3) := by decide +kernel
theorem d_Mo_kindWords_107 : decode b_Mo_kindWords 107 = .ok (.iload_n 3, 1) := by decide +kernel
theorem d_Mo_kindWords_108 : decode b_Mo_kindWords 108 = .ok (.ifCond .eq 7, 3) := by decide +kernel
theorem d_Mo_kindWords_111 : decode b_Mo_kindWords 111 = .ok (.iconst 1, 1) := by decide +kernel
theorem d_Mo_kindWords_112 : decode b_Mo_kindWords 112 = .ok (.goto 4, 3) := by decide +kernel
theorem d_Mo_kindWords_115 : decode b_Mo_kindWords 115 = .ok (.iconst 0, 1) := by decide +kernel
theorem d_Mo_kindWords_116 : decode b_Mo_kindWords 116 = .ok (.iadd, 1) := by decide +kernel
theorem d_Mo_kindWords_117 : decode b_Mo_kindWords 117 = .ok (.putfield 104, 3) := by decide +kernel
theorem d_Mo_kindWords_120 : decode b_Mo_kindWords 120 = .ok (.goto (-103), 3) := by decide +kernel
theorem d_Mo_kindWords_123 : decode b_Mo_kindWords 123 = .ok (.aload_n 0, 1) := by decide +kernel
theorem d_Mo_kindWords_124 : decode b_Mo_kindWords 124 = .ok (.iload_n 1, 1) := by decide +kernel
theorem d_Mo_kindWords_125 : decode b_Mo_kindWords 125 = .ok (.invokevirtual 544, 3) := by decide +kernel
theorem d_Mo_kindWords_128 : decode b_Mo_kindWords 128 = .ok (.iload_n 2, 1) := by decide +kernel
theorem d_Mo_kindWords_129 : decode b_Mo_kindWords 129 = .ok (.ireturn, 1) := by decide +kernel
abbrev ra_Mo_kindWords (mc ms : Nat) : Room := { frames := 5, cells := mc, slots := ms, locals := 150 }
def wja_Mo_kindWords_123 (mc ms : Nat) (Post : Ly → St → Int32 → Nat → Nat → Prop) (PX : Ly → St → Nat → Nat → Prop) (a0 : Nat) (y_j123 : Ly) (s_j123 : St) (d_j123 e_j123 : Nat) (x1j123 : Int32) (x2j123 : Int32) : Prop := (d_j123 ≤ mc ∧ e_j123 ≤ ms) ∧ ∃ mc_7 ms_8 : Nat, (d_j123 + mc_7 ≤ mc ∧ e_j123 + ms_8 ≤ ms) ∧ wx_Mo_need mc_7 ms_8 y_j123 (fun (y_4 : Ly) (s_3 : St) (d_5 e_6 : Nat) => (d_j123 + d_5 ≤ mc ∧ e_j123 + e_6 ≤ ms) ∧ Post y_4 s_3 x2j123 (d_j123 + d_5) (e_j123 + e_6)) (fun (y_4 : Ly) (s_3 : St) (d_5 e_6 : Nat) => ((d_j123 + d_5 ≤ mc ∧ e_j123 + e_6 ≤ ms) ∧ PX y_4 s_3 (d_j123 + d_5) (e_j123 + e_6))) s_j123 a0 x1j123
def wja_Mo_kindWords_116 (mc ms : Nat) (Post : Ly → St → Int32 → Nat → Nat → Prop) (PX : Ly → St → Nat → Nat → Prop) (K_17 : Ly → St → Nat → Nat → Int32 → Int32 → Int32 → Prop) (a0 : Nat) (y_j116 : Ly) (s_j116 : St) (d_j116 e_j116 : Nat) (x1j116 : Int32) (x2j116 : Int32) (x3j116 : Int32) (z1j116 : Int32) (z2j116 : Int32) : Prop := (d_j116 ≤ mc ∧ e_j116 ≤ ms) ∧ xP (uV s_j116 a0 43 (z1j116 + z2j116)) (fun s_35 : St => K_17 y_j116 s_35 d_j116 e_j116 x1j116 x2j116 x3j116)
def wja_Mo_kindWords_101 (mc ms : Nat) (Post : Ly → St → Int32 → Nat → Nat → Prop) (PX : Ly → St → Nat → Nat → Prop) (K_17 : Ly → St → Nat → Nat → Int32 → Int32 → Int32 → Prop) (a0 : Nat) (y_j101 : Ly) (s_j101 : St) (d_j101 e_j101 : Nat) (x1j101 : Int32) (x2j101 : Int32) (z0j101 : Int32) : Prop := (d_j101 ≤ mc ∧ e_j101 ≤ ms) ∧ ((z0j101 = 0 → wja_Mo_kindWords_116 mc ms Post PX K_17 a0 y_j101 s_j101 d_j101 e_j101 x1j101 x2j101 z0j101 (sV s_j101 a0 43) 0) ∧ (¬ (z0j101 = 0) → wja_Mo_kindWords_116 mc ms Post PX K_17 a0 y_j101 s_j101 d_j101 e_j101 x1j101 x2j101 z0j101 (sV s_j101 a0 43) 1))
def wba_Mo_kindWords_17 (mc ms : Nat) (Post : Ly → St → Int32 → Nat → Nat → Prop) (PX : Ly → St → Nat → Nat → Prop) (K_17 : Ly → St → Nat → Nat → Int32 → Int32 → Int32 → Prop) (a0 : Nat) (y_h17 : Ly) (s_h17 : St) (d_h17 e_h17 : Nat) (x1h17 : Int32) (x2h17 : Int32) (x3h17 : Int32) : Prop := (d_h17 ≤ mc ∧ e_h17 ≤ ms) ∧ ((x3h17 = 0 → wja_Mo_kindWords_123 mc ms Post PX a0 y_h17 s_h17 d_h17 e_h17 x1h17 x2h17) ∧ (¬ (x3h17 = 0) → ∃ b_10 : Nat, sO s_h17 a0 45 = some b_10 ∧ cl b_10 = 13 ∧ xR mc ms d_h17 e_h17 .int y_h17 s_h17 b_10 42 ((sV s_h17 b_10 43) + 1) (fun (y_13 : Ly) (s_14 : St) (d_15 e_16 : Nat) => (d_15 ≤ mc ∧ e_16 ≤ ms) ∧ ∃ b_17 : Nat, sO s_14 a0 45 = some b_17 ∧ cl b_17 = 13 ∧ ∃ mc_25 ms_26 : Nat, (d_15 + mc_25 ≤ mc ∧ e_16 + ms_26 ≤ ms) ∧ wx_Mo_kindWord mc_25 ms_26 y_13 (fun (y_22 : Ly) (s_21 : St) (r_20 : Int32) (d_23 e_24 : Nat) => (d_15 + d_23 ≤ mc ∧ e_16 + e_24 ≤ ms) ∧ yP y_13 b_17 42 = yP y_22 b_17 42 ∧ xS y_22 s_21 b_17 42 (sV s_14 b_17 43) r_20 (fun s_29 : St => ∃ b_30 : Nat, sO s_29 a0 45 = some b_30 ∧ cl b_30 = 13 ∧ xP (uV s_29 b_30 43 ((sV s_29 b_30 43) + 1)) (fun s_33 : St => xA y_22 s_33 a0 39 (sV s_33 a0 43) (fun x_34 : Int32 => ((¬ x_34 = 44 → wja_Mo_kindWords_101 mc ms Post PX K_17 a0 y_22 s_33 (d_15 + d_23) (e_16 + e_24) x1h17 (x2h17 + 1) 0) ∧ (x_34 = 44 → wja_Mo_kindWords_101 mc ms Post PX K_17 a0 y_22 s_33 (d_15 + d_23) (e_16 + e_24) x1h17 (x2h17 + 1) 1)))))) (fun (y_22 : Ly) (s_21 : St) (d_23 e_24 : Nat) => ((d_15 + d_23 ≤ mc ∧ e_16 + e_24 ≤ ms) ∧ PX y_22 s_21 (d_15 + d_23) (e_16 + e_24))) s_14 a0)))
def wla_Mo_kindWords_17 (mc ms : Nat) (Post : Ly → St → Int32 → Nat → Nat → Prop) (PX : Ly → St → Nat → Nat → Prop) (a0 : Nat) (y_h17 : Ly) (s_h17 : St) (d_h17 e_h17 : Nat) (x1h17 : Int32) (x2h17 : Int32) (x3h17 : Int32) : Prop := ∃ (I : Ly → St → Nat → Nat → Int32 → Int32 → Int32 → Prop) (μ : Ly → St → Nat → Nat → Int32 → Int32 → Int32 → Nat), I y_h17 s_h17 d_h17 e_h17 x1h17 x2h17 x3h17 ∧ ∀ (u1 : Ly) (u2 : St) (u3 u4 : Nat) (t0 : Int32) (t1 : Int32) (t2 : Int32), I u1 u2 u3 u4 t0 t1 t2 → wba_Mo_kindWords_17 mc ms Post PX (fun z1 z2 z3 z4 t0q t1q t2q => I z1 z2 z3 z4 t0q t1q t2q ∧ μ z1 z2 z3 z4 t0q t1q t2q < μ u1 u2 u3 u4 t0 t1 t2) a0 u1 u2 u3 u4 t0 t1 t2
def wx_Mo_kindWords (mc ms : Nat) (y : Ly) (Post : Ly → St → Int32 → Nat → Nat → Prop) (PX : Ly → St → Nat → Nat → Prop) (σ : St) (a0 : Nat) (v1 : Int32) : Prop := xA y σ a0 39 (sV σ a0 43) (fun x_1 : Int32 => ((x_1 = v1 → wja_Mo_kindWords_123 mc ms Post PX a0 y σ 0 0 v1 0) ∧ (¬ (x_1 = v1) → wla_Mo_kindWords_17 mc ms Post PX a0 y σ 0 0 v1 0 1)))
set_option maxHeartbeats 4000000 in
set_option maxRecDepth 100000 in
theorem cx_Mo_kindWords (l : Launch) (D : va_G) (g : Nat → ClassId) (ad : Nat → Nat) (mc ms : Nat) (y : Ly) (Post : Ly → St → Int32 → Nat → Nat → Prop) (PX : Ly → St → Nat → Nat → Prop) (σ : St) (a0 : Nat) (v1 : Int32) (sz uz : Nat) (h_a0 : cl a0 = 14) (h : wx_Mo_kindWords mc ms y Post PX σ a0 v1) : vx_Met l y_Mo_kindWords (mw y_Mo_kindWords b_Mo_kindWords 4 (some .int)) (ra_Mo_kindWords mc ms) (PCu g D [] [.ref (ad a0), .int v1] sz uz (ws g ad y σ)) (va_Qi (fun (r : Int32) (u : Ly × St × Nat × Nat) => Post u.1 u.2.1 r u.2.2.1 u.2.2.2) (QU D (va_A (ws g ad y σ) sz) (fun u => ws g ad u.1 u.2.1) sz uz (fun u => u.2.2.1) (fun u => u.2.2.2)) (va_A (ws g ad y σ) sz)) (XQ D g ad (va_A (ws g ad y σ) sz) sz uz PX) mc ms (va_A (ws g ad y σ) sz) := by
  refine ofIx (by decide +kernel) (Nat.le_of_ble_eq_true rfl) ?_
  intro p e s m args below meth c A Q ls H locs G hsz hP hD hS hl hret hretX
  subst hsz
  have hl : lv_has ls 4 [(0, .ref (ad a0)), (1, .int v1)] := hl
  have hd : 0 ≤ mc ∧ 0 ≤ ms := ⟨Nat.zero_le _, Nat.zero_le _⟩
  unfold wx_Mo_kindWords at h
  refine lv_iconst (v := 0) G.1 G.2.1 d_Mo_kindWords_0 (by decide) ?_
  refine lv_istore_n (lv' := [(2, .int 0), (0, .ref (ad a0)), (1, .int v1)]) G.1 G.2.1 d_Mo_kindWords_1 rfl hl (by decide) rfl (fun ls hl => ?_)
  refine lv_aload_n G.1 G.2.1 d_Mo_kindWords_2 rfl (lv_at hl 1 rfl) ?_
  refine ugf (v := .ref (yP y a0 39)) G hP h_a0 iMo rfl 39 (by decide) rfl q3103 rfl rfl d_Mo_kindWords_3 ?_
  refine lv_aload_n G.1 G.2.1 d_Mo_kindWords_6 rfl (lv_at hl 1 rfl) ?_
  refine ugf (v := .int (sV σ a0 43)) G hP h_a0 iMo rfl 43 (by decide) rfl q3107 rfl rfl d_Mo_kindWords_7 ?_
  refine ubald G hP (kdp h_a0 rfl) (typ h_a0 rfl) h d_Mo_kindWords_10 (fun x_1 h => ?_)
  refine lv_iload_n G.1 G.2.1 d_Mo_kindWords_11 rfl (lv_at hl 2 rfl) ?_
  have J_123 : ∀ (y_j123 : Ly) (s_j123 : St) (d_j123 e_j123 : Nat) (x1j123 : Int32) (x2j123 : Int32) (H : Heap) (locs : List Loc), wja_Mo_kindWords_123 mc ms Post PX a0 y_j123 s_j123 d_j123 e_j123 x1j123 x2j123 → va_P D CL (ws g ad y_j123 s_j123) H → va_D A (ws g ad y_j123 s_j123) → va_S A s.heap H locs → ∀ ls, lv_has ls 4 [(0, .ref (ad a0)), (1, .int x1j123), (2, .int x2j123)] → W p l e (ra_Mo_kindWords mc ms) s m args below meth c H locs d_j123 e_j123 Q (F0 m 123 ls []) := by
    intro y_j123 s_j123 d_j123 e_j123 x1j123 x2j123 H locs h hP hD hS ls hl
    unfold wja_Mo_kindWords_123 at h
    obtain ⟨hd, h⟩ := h
    refine lv_aload_n G.1 G.2.1 d_Mo_kindWords_123 rfl (lv_at hl 0 rfl) ?_
    refine lv_iload_n G.1 G.2.1 d_Mo_kindWords_124 rfl (lv_at hl 1 rfl) ?_
    obtain ⟨mc_7, ms_8, hr_9, h⟩ := h
    refine uxVv (As := [.int x1j123]) (rest := []) G hP hD hS (cx_Mo_need l D g ad mc_7 ms_8 y_j123 _ _ s_j123 a0 x1j123 H.size (us H) h_a0 h) (fun _ h => absurd h List.not_mem_nil) w9_Mo_need q3567 ⟨Nat.le_of_ble_eq_true rfl, Nat.le_of_ble_eq_true rfl⟩ rfl rfl h_a0 (q := (RMo, TMo, 131)) rfl rfl hl.1 rfl (Nat.le_of_ble_eq_true rfl) rfl hr_9 d_Mo_kindWords_125 (fun y_4 s_3 d_5 e_6 H locs q9 ce h hP hD hS hce hcv hcl => ?_) (fun y_4 s_3 d_5 e_6 H locs h hP hD hS => ?_)
    · skip
      obtain ⟨hd, h⟩ := h
      exact hretX h hP hD hS hd.1 hd.2 hce hcv hcl
    have hl := lv_sub (l' := [(2, .int x2j123)]) hl [2] rfl
    obtain ⟨hd, h⟩ := h
    refine lv_iload_n G.1 G.2.1 d_Mo_kindWords_128 rfl (lv_at hl 0 rfl) ?_
    exact hret _ (y_4, s_3, d_j123 + d_5, e_j123 + e_6) _ _ _ _ _ ls h hP hD hS (Nat.le_refl _) (Nat.le_refl _) hd.1 hd.2 d_Mo_kindWords_129
  refine lv_icmp_eq (tgt := 123) G.1 G.2.1 d_Mo_kindWords_12 (by decide) (fun c12 => ?_) (fun c12 => ?_)
  · skip
    have h := h.1 c12
    exact J_123 y σ 0 0 v1 0 H locs h hP hD hS ls (lv_sub hl [1, 2, 0] rfl)
  · skip
    have h := h.2 c12
    refine lv_iconst (v := 1) G.1 G.2.1 d_Mo_kindWords_15 (by decide) ?_
    refine lv_istore_n (lv' := [(3, .int 1), (2, .int 0), (0, .ref (ad a0)), (1, .int v1)]) G.1 G.2.1 d_Mo_kindWords_16 rfl hl (by decide) rfl (fun ls hl => ?_)
    unfold wla_Mo_kindWords_17 at h
    obtain ⟨I_17, μ_17, hI_17, hB_17⟩ := h
    have L_17 : ∀ (n_17 : Nat) (y_h17 : Ly) (s_h17 : St) (d_h17 e_h17 : Nat) (x1h17 : Int32) (x2h17 : Int32) (x3h17 : Int32), μ_17 y_h17 s_h17 d_h17 e_h17 x1h17 x2h17 x3h17 < n_17 → I_17 y_h17 s_h17 d_h17 e_h17 x1h17 x2h17 x3h17 → ∀ (H : Heap) (locs : List Loc), va_P D CL (ws g ad y_h17 s_h17) H → va_D A (ws g ad y_h17 s_h17) → va_S A s.heap H locs → ∀ ls, lv_has ls 4 [(0, .ref (ad a0)), (1, .int x1h17), (2, .int x2h17), (3, .int x3h17)] → W p l e (ra_Mo_kindWords mc ms) s m args below meth c H locs d_h17 e_h17 Q (F0 m 17 ls []) := by
      intro n_17
      induction n_17 with
      | zero => intro y_h17 s_h17 d_h17 e_h17 x1h17 x2h17 x3h17 hμ; exact absurd hμ (Nat.not_lt_zero _)
      | succ n_17 ih_17 =>
        intro y_h17 s_h17 d_h17 e_h17 x1h17 x2h17 x3h17 hμ_17 hJ H locs hP hD hS ls hl
        obtain ⟨K_17, hK_17, h⟩ : ∃ K : Ly → St → Nat → Nat → Int32 → Int32 → Int32 → Prop, (∀ z1 z2 z3 z4 (t0 : Int32) (t1 : Int32) (t2 : Int32), K z1 z2 z3 z4 t0 t1 t2 → I_17 z1 z2 z3 z4 t0 t1 t2 ∧ μ_17 z1 z2 z3 z4 t0 t1 t2 < μ_17 y_h17 s_h17 d_h17 e_h17 x1h17 x2h17 x3h17) ∧ wba_Mo_kindWords_17 mc ms Post PX K a0 y_h17 s_h17 d_h17 e_h17 x1h17 x2h17 x3h17 := ⟨_, fun _ _ _ _ _ _ _ h => h, hB_17 y_h17 s_h17 d_h17 e_h17 x1h17 x2h17 x3h17 hJ⟩
        unfold wba_Mo_kindWords_17 at h
        obtain ⟨hd, h⟩ := h
        refine lv_iload_n G.1 G.2.1 d_Mo_kindWords_17 rfl (lv_at hl 3 rfl) ?_
        refine lv_if_eq (tgt := 123) G.1 G.2.1 d_Mo_kindWords_18 (by decide) (fun c18 => ?_) (fun c18 => ?_)
        · skip
          have h := h.1 c18
          exact J_123 y_h17 s_h17 d_h17 e_h17 x1h17 x2h17 H locs h hP hD hS ls (lv_sub hl [0, 1, 2] rfl)
        · skip
          have h := h.2 c18
          refine lv_aload_n G.1 G.2.1 d_Mo_kindWords_21 rfl (lv_at hl 0 rfl) ?_
          obtain ⟨b_10, e_11, c_12, h⟩ := h
          refine ugf (v := .ref (ad b_10)) G hP h_a0 iMo rfl 45 (by decide) rfl q3109 rfl (by show va_rf ((sO s_h17 a0 45).map ad) = _; rw [e_11]; rfl) d_Mo_kindWords_22 ?_
          refine lv_aload_n G.1 G.2.1 d_Mo_kindWords_25 rfl (lv_at hl 0 rfl) ?_
          refine ugf (v := .ref (ad b_10)) G hP h_a0 iMo rfl 45 (by decide) rfl q3109 rfl (by show va_rf ((sO s_h17 a0 45).map ad) = _; rw [e_11]; rfl) d_Mo_kindWords_26 ?_
          refine ugfN (v := .ref (yP y_h17 b_10 42)) G hP c_12 iMw rfl 42 (by decide) rfl q2785 rfl rfl d_Mo_kindWords_29 ?_
          refine lv_aload_n G.1 G.2.1 d_Mo_kindWords_32 rfl (lv_at hl 0 rfl) ?_
          refine ugf (v := .ref (ad b_10)) G hP h_a0 iMo rfl 45 (by decide) rfl q3109 rfl (by show va_rf ((sO s_h17 a0 45).map ad) = _; rw [e_11]; rfl) d_Mo_kindWords_33 ?_
          refine ugfN (v := .int (sV s_h17 b_10 43)) G hP c_12 iMw rfl 43 (by decide) rfl q2786 rfl rfl d_Mo_kindWords_36 ?_
          refine lv_iconst (v := 1) G.1 G.2.1 d_Mo_kindWords_39 (by decide) ?_
          refine W.eq (g2 := F0 m 40 ls [.int 1, .int (sV s_h17 b_10 43), .ref (yP y_h17 b_10 42), .ref (ad b_10)]) rfl ?_
          refine lv_iadd G.1 G.2.1 d_Mo_kindWords_40 ?_
          refine uroomN (C := RMw) (T := TMw) (N := 72) G hP hD hS (fun ws0 q1 q t n f sz he ht hn => c_Mo_room_k l D g ws0 q1 q t n f sz he ht hn) (fun ws0 q1 q t n f sz he hn ht hf => c_Mo_room_g l D g ws0 q1 q t n f sz he hn ht hf) w9_Mo_room q2596 ⟨Nat.le_of_ble_eq_true rfl, Nat.le_of_ble_eq_true rfl⟩ (Nat.le_refl _) (Nat.le_refl _) hd (by decide) c_12 rfl rfl iMw tMw tMw_ok nMw rfl (by decide) q2785 rfl rfl (fun _ => rfl) (fun _ => rfl) hl.1 (Nat.le_of_ble_eq_true rfl) h d_Mo_kindWords_41 d_Mo_kindWords_44 (fun y_13 s_14 d_15 e_16 H locs h hP hD hS => ?_)
          have hl := lv_sub (l' := [(0, .ref (ad a0)), (1, .int x1h17), (2, .int x2h17)]) hl [0, 1, 2] rfl
          obtain ⟨hd, h⟩ := h
          refine lv_aload_n G.1 G.2.1 d_Mo_kindWords_47 rfl (lv_at hl 0 rfl) ?_
          obtain ⟨b_17, e_18, c_19, h⟩ := h
          refine ugf (v := .ref (ad b_17)) G hP h_a0 iMo rfl 45 (by decide) rfl q3109 rfl (by show va_rf ((sO s_14 a0 45).map ad) = _; rw [e_18]; rfl) d_Mo_kindWords_48 ?_
          refine ugfN (v := .ref (yP y_13 b_17 42)) G hP c_19 iMw rfl 42 (by decide) rfl q2785 rfl rfl d_Mo_kindWords_51 ?_
          refine lv_aload_n G.1 G.2.1 d_Mo_kindWords_54 rfl (lv_at hl 0 rfl) ?_
          refine ugf (v := .ref (ad b_17)) G hP h_a0 iMo rfl 45 (by decide) rfl q3109 rfl (by show va_rf ((sO s_14 a0 45).map ad) = _; rw [e_18]; rfl) d_Mo_kindWords_55 ?_
          refine ugfN (v := .int (sV s_14 b_17 43)) G hP c_19 iMw rfl 43 (by decide) rfl q2786 rfl rfl d_Mo_kindWords_58 ?_
          refine lv_aload_n G.1 G.2.1 d_Mo_kindWords_61 rfl (lv_at hl 0 rfl) ?_
          obtain ⟨mc_25, ms_26, hr_27, h⟩ := h
          refine uxVi (As := []) (rest := [.int (sV s_14 b_17 43), .ref (yP y_13 b_17 42)]) G hP hD hS (cx_Mo_kindWord l D g ad mc_25 ms_26 y_13 _ _ s_14 a0 H.size (us H) h_a0 h) (fun _ h => absurd h List.not_mem_nil) w9_Mo_kindWord q3628 ⟨Nat.le_of_ble_eq_true rfl, Nat.le_of_ble_eq_true rfl⟩ rfl rfl h_a0 (q := (RMo, TMo, 131)) rfl rfl hl.1 rfl (Nat.le_of_ble_eq_true rfl) rfl hr_27 d_Mo_kindWords_62 (fun y_22 s_21 d_23 e_24 H locs q9 ce h hP hD hS hce hcv hcl => ?_) (fun r_20 y_22 s_21 d_23 e_24 H locs h hP hD hS => ?_)
          · skip
            obtain ⟨hd, h⟩ := h
            exact hretX h hP hD hS hd.1 hd.2 hce hcv hcl
          obtain ⟨hd, h⟩ := h
          obtain ⟨n_28, h⟩ := h
          rw [n_28]
          refine uiast G hP hD hS (kdp c_19 rfl) (typ c_19 rfl) h d_Mo_kindWords_65 (fun s_29 H locs h hP hD hS => ?_)
          refine lv_aload_n G.1 G.2.1 d_Mo_kindWords_66 rfl (lv_at hl 0 rfl) ?_
          refine W.eq (g2 := F0 m 67 ls [.ref (ad a0)]) rfl ?_
          obtain ⟨b_30, e_31, c_32, h⟩ := h
          refine ugf (v := .ref (ad b_30)) G hP h_a0 iMo rfl 45 (by decide) rfl q3109 rfl (by show va_rf ((sO s_29 a0 45).map ad) = _; rw [e_31]; rfl) d_Mo_kindWords_67 ?_
          refine lv_dup G.1 G.2.1 d_Mo_kindWords_70 rfl ?_
          refine ugfN (v := .int (sV s_29 b_30 43)) G hP c_32 iMw rfl 43 (by decide) rfl q2786 rfl rfl d_Mo_kindWords_71 ?_
          refine lv_iconst (v := 1) G.1 G.2.1 d_Mo_kindWords_74 (by decide) ?_
          refine lv_iadd G.1 G.2.1 d_Mo_kindWords_75 ?_
          refine upfN G hP hD hS h 43 putV c_32 iMw tMw tMw_ok nMw rfl (by decide) rfl q2786 rfl rfl fV rfl rfl d_Mo_kindWords_76 (fun s_33 H locs h hP hD hS => ?_)
          refine lv_iinc (v := x2h17 + 1) (lv' := [(2, .int (x2h17 + 1)), (0, .ref (ad a0)), (1, .int x1h17)]) G.1 G.2.1 d_Mo_kindWords_79 hl (k := 2) rfl rfl (by decide) rfl (fun ls hl => ?_)
          refine lv_aload_n G.1 G.2.1 d_Mo_kindWords_82 rfl (lv_at hl 1 rfl) ?_
          refine ugf (v := .ref (yP y_22 a0 39)) G hP h_a0 iMo rfl 39 (by decide) rfl q3103 rfl rfl d_Mo_kindWords_83 ?_
          refine lv_aload_n G.1 G.2.1 d_Mo_kindWords_86 rfl (lv_at hl 1 rfl) ?_
          refine ugf (v := .int (sV s_33 a0 43)) G hP h_a0 iMo rfl 43 (by decide) rfl q3107 rfl rfl d_Mo_kindWords_87 ?_
          refine ubald G hP (kdp h_a0 rfl) (typ h_a0 rfl) h d_Mo_kindWords_90 (fun x_34 h => ?_)
          refine W.eq (g2 := F0 m 91 ls [.int x_34]) rfl ?_
          refine lv_bipush (v := 44) G.1 G.2.1 d_Mo_kindWords_91 (by decide) ?_
          have J_101 : ∀ (y_j101 : Ly) (s_j101 : St) (d_j101 e_j101 : Nat) (x1j101 : Int32) (x2j101 : Int32) (z0j101 : Int32) (H : Heap) (locs : List Loc), wja_Mo_kindWords_101 mc ms Post PX K_17 a0 y_j101 s_j101 d_j101 e_j101 x1j101 x2j101 z0j101 → va_P D CL (ws g ad y_j101 s_j101) H → va_D A (ws g ad y_j101 s_j101) → va_S A s.heap H locs → ∀ ls, lv_has ls 4 [(0, .ref (ad a0)), (1, .int x1j101), (2, .int x2j101)] → W p l e (ra_Mo_kindWords mc ms) s m args below meth c H locs d_j101 e_j101 Q (F0 m 101 ls [.int z0j101]) := by
            intro y_j101 s_j101 d_j101 e_j101 x1j101 x2j101 z0j101 H locs h hP hD hS ls hl
            unfold wja_Mo_kindWords_101 at h
            obtain ⟨hd, h⟩ := h
            refine lv_istore_n (lv' := [(3, .int z0j101), (0, .ref (ad a0)), (1, .int x1j101), (2, .int x2j101)]) G.1 G.2.1 d_Mo_kindWords_101 rfl hl (by decide) rfl (fun ls hl => ?_)
            refine lv_aload_n G.1 G.2.1 d_Mo_kindWords_102 rfl (lv_at hl 1 rfl) ?_
            refine lv_dup G.1 G.2.1 d_Mo_kindWords_103 rfl ?_
            refine ugf (v := .int (sV s_j101 a0 43)) G hP h_a0 iMo rfl 43 (by decide) rfl q3107 rfl rfl d_Mo_kindWords_104 ?_
            refine lv_iload_n G.1 G.2.1 d_Mo_kindWords_107 rfl (lv_at hl 0 rfl) ?_
            have J_116 : ∀ (y_j116 : Ly) (s_j116 : St) (d_j116 e_j116 : Nat) (x1j116 : Int32) (x2j116 : Int32) (x3j116 : Int32) (z1j116 : Int32) (z2j116 : Int32) (H : Heap) (locs : List Loc), wja_Mo_kindWords_116 mc ms Post PX K_17 a0 y_j116 s_j116 d_j116 e_j116 x1j116 x2j116 x3j116 z1j116 z2j116 → va_P D CL (ws g ad y_j116 s_j116) H → va_D A (ws g ad y_j116 s_j116) → va_S A s.heap H locs → ∀ ls, lv_has ls 4 [(0, .ref (ad a0)), (1, .int x1j116), (2, .int x2j116), (3, .int x3j116)] → W p l e (ra_Mo_kindWords mc ms) s m args below meth c H locs d_j116 e_j116 Q (F0 m 116 ls [.int z2j116, .int z1j116, .ref (ad a0)]) := by
              intro y_j116 s_j116 d_j116 e_j116 x1j116 x2j116 x3j116 z1j116 z2j116 H locs h hP hD hS ls hl
              unfold wja_Mo_kindWords_116 at h
              obtain ⟨hd, h⟩ := h
              refine lv_iadd G.1 G.2.1 d_Mo_kindWords_116 ?_
              refine upf G hP hD hS h 43 putV h_a0 iMo tMo tMo_ok nMo rfl (by decide) rfl q3107 rfl rfl fV rfl rfl d_Mo_kindWords_117 (fun s_35 H locs h hP hD hS => ?_)
              refine lv_goto (tgt := 17) G.1 G.2.1 d_Mo_kindWords_120 (by decide) ?_
              have h := hK_17 y_j116 s_35 d_j116 e_j116 x1j116 x2j116 x3j116 h
              exact ih_17 y_j116 s_35 d_j116 e_j116 x1j116 x2j116 x3j116 (Nat.lt_of_lt_of_le h.2 (Nat.le_of_lt_succ hμ_17)) h.1 H locs hP hD hS ls (lv_sub hl [0, 1, 2, 3] rfl)
            refine lv_if_eq (tgt := 115) G.1 G.2.1 d_Mo_kindWords_108 (by decide) (fun c108 => ?_) (fun c108 => ?_)
            · skip
              have h := h.1 c108
              refine lv_iconst (v := 0) G.1 G.2.1 d_Mo_kindWords_115 (by decide) ?_
              exact J_116 y_j101 s_j101 d_j101 e_j101 x1j101 x2j101 z0j101 (sV s_j101 a0 43) 0 H locs h hP hD hS ls (lv_sub hl [1, 2, 3, 0] rfl)
            · skip
              have h := h.2 c108
              refine lv_iconst (v := 1) G.1 G.2.1 d_Mo_kindWords_111 (by decide) ?_
              refine lv_goto (tgt := 116) G.1 G.2.1 d_Mo_kindWords_112 (by decide) ?_
              exact J_116 y_j101 s_j101 d_j101 e_j101 x1j101 x2j101 z0j101 (sV s_j101 a0 43) 1 H locs h hP hD hS ls (lv_sub hl [1, 2, 3, 0] rfl)
          refine lv_icmp_ne (tgt := 100) G.1 G.2.1 d_Mo_kindWords_93 (by decide) (fun c93 => ?_) (fun c93 => ?_)
          · skip
            have h := h.1 c93
            refine lv_iconst (v := 0) G.1 G.2.1 d_Mo_kindWords_100 (by decide) ?_
            exact J_101 y_22 s_33 (d_15 + d_23) (e_16 + e_24) x1h17 (x2h17 + 1) 0 H locs h hP hD hS ls (lv_sub hl [1, 2, 0] rfl)
          · skip
            have h := h.2 c93
            refine lv_iconst (v := 1) G.1 G.2.1 d_Mo_kindWords_96 (by decide) ?_
            refine lv_goto (tgt := 101) G.1 G.2.1 d_Mo_kindWords_97 (by decide) ?_
            exact J_101 y_22 s_33 (d_15 + d_23) (e_16 + e_24) x1h17 (x2h17 + 1) 1 H locs h hP hD hS ls (lv_sub hl [1, 2, 0] rfl)
    exact L_17 _ y σ 0 0 v1 0 1 (Nat.lt_succ_self _) hI_17 H locs hP hD hS ls (lv_sub hl [2, 3, 1, 0] rfl)
def y_Mo_addNine : MethodName := ⟨"ClassWorksModel", "addNine", "(IZ)V"⟩
abbrev b_Mo_addNine : ByteArray := prog_14_method_41_code
theorem q2980 : Cond.arrayClass .boolean ∈ lw_ok := lw_okmem (List.mem_of_getElem? (i := 2980) (by decide +kernel)) rfl
theorem d_Mo_addNine_0 : decode b_Mo_addNine 0 = .ok (.aload_n 0, 1) := by decide +kernel
theorem d_Mo_addNine_1 : decode b_Mo_addNine 1 = .ok (.aload_n 0, 1) := by decide +kernel
theorem d_Mo_addNine_2 : decode b_Mo_addNine 2 = .ok (.getfield 289, 3) := by decide +kernel
theorem d_Mo_addNine_5 : decode b_Mo_addNine 5 = .ok (.aload_n 0, 1) := by decide +kernel
theorem d_Mo_addNine_6 : decode b_Mo_addNine 6 = .ok (.getfield 647, 3) := by decide +kernel
theorem d_Mo_addNine_9 : decode b_Mo_addNine 9 = .ok (.iconst 1, 1) := by decide +kernel
theorem d_Mo_addNine_10 : decode b_Mo_addNine 10 = .ok (.iadd, 1) := by decide +kernel
theorem d_Mo_addNine_11 : decode b_Mo_addNine 11 = .ok (.invokestatic 43, 3) := by decide +kernel
theorem d_Mo_addNine_14 : decode b_Mo_addNine 14 = .ok (.putfield 289, 3) := by decide +kernel
theorem d_Mo_addNine_17 : decode b_Mo_addNine 17 = .ok (.aload_n 0, 1) := by decide +kernel
theorem d_Mo_addNine_18 : decode b_Mo_addNine 18 = .ok (.aload_n 0, 1) := by decide +kernel
theorem d_Mo_addNine_19 : decode b_Mo_addNine 19 = .ok (.getfield 292, 3) := by decide +kernel
theorem d_Mo_addNine_22 : decode b_Mo_addNine 22 = .ok (.aload_n 0, 1) := by decide +kernel
theorem d_Mo_addNine_23 : decode b_Mo_addNine 23 = .ok (.getfield 647, 3) := by decide +kernel
theorem d_Mo_addNine_26 : decode b_Mo_addNine 26 = .ok (.iconst 1, 1) := by decide +kernel
theorem d_Mo_addNine_27 : decode b_Mo_addNine 27 = .ok (.iadd, 1) := by decide +kernel
theorem d_Mo_addNine_28 : decode b_Mo_addNine 28 = .ok (.invokestatic 43, 3) := by decide +kernel
theorem d_Mo_addNine_31 : decode b_Mo_addNine 31 = .ok (.putfield 292, 3) := by decide +kernel
theorem d_Mo_addNine_34 : decode b_Mo_addNine 34 = .ok (.aload_n 0, 1) := by decide +kernel
theorem d_Mo_addNine_35 : decode b_Mo_addNine 35 = .ok (.getfield 647, 3) := by decide +kernel
theorem d_Mo_addNine_38 : decode b_Mo_addNine 38 = .ok (.aload_n 0, 1) := by decide +kernel
theorem d_Mo_addNine_39 : decode b_Mo_addNine 39 = .ok (.getfield 295, 3) := by decide +kernel
theorem d_Mo_addNine_42 : decode b_Mo_addNine 42 = .ok (.arraylength, 1) := by decide +kernel
theorem d_Mo_addNine_43 : decode b_Mo_addNine 43 = .ok (.if_icmp .ne 31, 3) := by decide +kernel
theorem d_Mo_addNine_46 : decode b_Mo_addNine 46 = .ok (.iconst 2, 1) := by decide +kernel
theorem d_Mo_addNine_47 : decode b_Mo_addNine 47 = .ok (.aload_n 0, 1) := by decide +kernel
theorem d_Mo_addNine_48 : decode b_Mo_addNine 48 = .ok (.getfield 647, 3) := by decide +kernel
theorem d_Mo_addNine_51 : decode b_Mo_addNine 51 = .ok (.imul, 1) := by decide +kernel
theorem d_Mo_addNine_52 : decode b_Mo_addNine 52 = .ok (.newarray .boolean, 2) := by decide +kernel
theorem d_Mo_addNine_54 : decode b_Mo_addNine 54 = .ok (.astore_n 3, 1) := by decide +kernel
theorem d_Mo_addNine_55 : decode b_Mo_addNine 55 = .ok (.aload_n 0, 1) := by decide +kernel
theorem d_Mo_addNine_56 : decode b_Mo_addNine 56 = .ok (.getfield 295, 3) := by decide +kernel
theorem d_Mo_addNine_59 : decode b_Mo_addNine 59 = .ok (.iconst 0, 1) := by decide +kernel
theorem d_Mo_addNine_60 : decode b_Mo_addNine 60 = .ok (.aload_n 3, 1) := by decide +kernel
theorem d_Mo_addNine_61 : decode b_Mo_addNine 61 = .ok (.iconst 0, 1) := by decide +kernel
theorem d_Mo_addNine_62 : decode b_Mo_addNine 62 = .ok (.aload_n 0, 1) := by decide +kernel
theorem d_Mo_addNine_63 : decode b_Mo_addNine 63 = .ok (.getfield 647, 3) := by decide +kernel
theorem d_Mo_addNine_66 : decode b_Mo_addNine 66 = .ok (.invokestatic 11, 3) := by decide +kernel
theorem d_Mo_addNine_69 : decode b_Mo_addNine 69 = .ok (.aload_n 0, 1) := by decide +kernel
theorem d_Mo_addNine_70 : decode b_Mo_addNine 70 = .ok (.aload_n 3, 1) := by decide +kernel
theorem d_Mo_addNine_71 : decode b_Mo_addNine 71 = .ok (.putfield 295, 3) := by decide +kernel
theorem d_Mo_addNine_74 : decode b_Mo_addNine 74 = .ok (.aload_n 0, 1) := by decide +kernel
theorem d_Mo_addNine_75 : decode b_Mo_addNine 75 = .ok (.getfield 289, 3) := by decide +kernel
theorem d_Mo_addNine_78 : decode b_Mo_addNine 78 = .ok (.aload_n 0, 1) := by decide +kernel
theorem d_Mo_addNine_79 : decode b_Mo_addNine 79 = .ok (.getfield 647, 3) := by decide +kernel
theorem d_Mo_addNine_82 : decode b_Mo_addNine 82 = .ok (.iload_n 1, 1) := by decide +kernel
theorem d_Mo_addNine_83 : decode b_Mo_addNine 83 = .ok (.iastore, 1) := by decide +kernel
theorem d_Mo_addNine_84 : decode b_Mo_addNine 84 = .ok (.aload_n 0, 1) := by decide +kernel
theorem d_Mo_addNine_85 : decode b_Mo_addNine 85 = .ok (.getfield 292, 3) := by decide +kernel
theorem d_Mo_addNine_88 : decode b_Mo_addNine 88 = .ok (.aload_n 0, 1) := by decide +kernel
theorem d_Mo_addNine_89 : decode b_Mo_addNine 89 = .ok (.getfield 647, 3) := by decide +kernel
theorem d_Mo_addNine_92 : decode b_Mo_addNine 92 = .ok (.aload_n 0, 1) := by decide +kernel
theorem d_Mo_addNine_93 : decode b_Mo_addNine 93 = .ok (.getfield 101, 3) := by decide +kernel
theorem d_Mo_addNine_96 : decode b_Mo_addNine 96 = .ok (.iconst 0, 1) := by decide +kernel
theorem d_Mo_addNine_97 : decode b_Mo_addNine 97 = .ok (.iaload, 1) := by decide +kernel
theorem d_Mo_addNine_98 : decode b_Mo_addNine 98 = .ok (.iastore, 1) := by decide +kernel
theorem d_Mo_addNine_99 : decode b_Mo_addNine 99 = .ok (.aload_n 0, 1) := by decide +kernel
theorem d_Mo_addNine_100 : decode b_Mo_addNine 100 = .ok (.getfield 295, 3) := by decide +kernel
theorem d_Mo_addNine_103 : decode b_Mo_addNine 103 = .ok (.aload_n 0, 1) := by decide +kernel
theorem d_Mo_addNine_104 : decode b_Mo_addNine 104 = .ok (.getfield 647, 3) := by decide +kernel
theorem d_Mo_addNine_107 : decode b_Mo_addNine 107 = .ok (.iload_n 2, 1) := by decide +kernel
theorem d_Mo_addNine_108 : decode b_Mo_addNine 108 = .ok (.bastore, 1) := by decide +kernel
theorem d_Mo_addNine_109 : decode b_Mo_addNine 109 = .ok (.aload_n 0, 1) := by decide +kernel
theorem d_Mo_addNine_110 : decode b_Mo_addNine 110 = .ok (.dup, 1) := by decide +kernel
theorem d_Mo_addNine_111 : decode b_Mo_addNine 111 = .ok (.getfield 647, 3) := by decide +kernel
theorem d_Mo_addNine_114 : decode b_Mo_addNine 114 = .ok (.iconst 1, 1) := by decide +kernel
theorem d_Mo_addNine_115 : decode b_Mo_addNine 115 = .ok (.iadd, 1) := by decide +kernel
theorem d_Mo_addNine_116 : decode b_Mo_addNine 116 = .ok (.putfield 647, 3) := by decide +kernel
theorem d_Mo_addNine_119 : decode b_Mo_addNine 119 = .ok (.return_, 1) := by decide +kernel
abbrev ra_Mo_addNine (mc ms : Nat) : Room := { frames := 2, cells := mc, slots := ms, locals := 150 }
def wja_Mo_addNine_74 (mc ms : Nat) (Post : Ly → St → Nat → Nat → Prop) (a0 : Nat) (y_j74 : Ly) (s_j74 : St) (d_j74 e_j74 : Nat) (x1j74 : Int32) (x2j74 : Int32) : Prop := (d_j74 ≤ mc ∧ e_j74 ≤ ms) ∧ xS y_j74 s_j74 a0 61 (sV s_j74 a0 64) x1j74 (fun s_9 : St => xA y_j74 s_9 a0 41 0 (fun x_10 : Int32 => xS y_j74 s_9 a0 62 (sV s_9 a0 64) x_10 (fun s_11 : St => xS y_j74 s_11 a0 63 (sV s_11 a0 64) (vp_nar .boolean x2j74) (fun s_12 : St => xP (uV s_12 a0 64 ((sV s_12 a0 64) + 1)) (fun s_13 : St => Post y_j74 s_13 d_j74 e_j74)))))
def xN_9 (mc ms dk dn : Nat) (y : Ly) (σ : St) (a : Nat) (K : Ly → St → Nat → Nat → Prop) : Prop :=
  ∃ t : Nat, sV σ a 64 = nI t ∧ t ≤ yN y a 63 ∧ t < 67108864 ∧ (∀ i, i < t → fits .boolean (.int (sA σ a 63 i)) = true) ∧ (∀ b j, kd (cl b) j = 7 → sX σ b j ≠ (a, 63)) ∧ (dk + 1 ≤ mc ∧ dn + 2 * t ≤ ms) ∧
    ∀ (q : Nat) (f : Nat → Int32), (∀ i, i < t → f i = sA σ a 63 i) → (∀ i, t ≤ i → f i = nI 0) → K (w2 y.1 a 63 q, w2 y.2 a 63 (2 * t)) (uF σ a 63 f) (dk + 1) (dn + 2 * t)
set_option maxHeartbeats 4000000 in
theorem unine {p : Program} {l : Launch} {e : Env} {R : Room} {s : State} {m : MethodId} {args : Array Value} {below : List Frame} {meth : Method} {c : Code} {H : Heap} {locs : List Loc} {dk dn mc ms : Nat} {Q : State → Prop} {ls : Array Slot} {A0 : Nat → Prop} {D : va_G} {g : Nat → ClassId} {sl : List SL} {ad : Nat → Nat} {y : Ly} {σ : St} {a : Nat} {x1 x2 : Int32} {K : Ly → St → Nat → Nat → Prop}
    (G : GV l p s m args meth c y_Mo_addNine b_Mo_addNine 4 (none) g D sl A0) (hP : va_P D CL (ws g ad y σ) H) (hD : va_D A0 (ws g ad y σ)) (hS : va_S A0 s.heap H locs) (hcl : cl a = 14) (hl : lv_has ls 4 [(0, .ref (ad a)), (1, .int x1), (2, .int x2)]) (hmc : mc ≤ R.cells) (hms : ms ≤ R.slots) (hfr : 1 ≤ R.frames) (hlo : 100 ≤ R.locals) (h : xN_9 mc ms dk dn y σ a K)
    (kk : ∀ (y2 : Ly) (σ2 : St) (d1 d2 : Nat) (ls : Array Slot) (H1 : Heap) (locs1 : List Loc), K y2 σ2 d1 d2 → lv_has ls 4 [(0, .ref (ad a)), (1, .int x1), (2, .int x2)] → va_P D CL (ws g ad y2 σ2) H1 → va_D A0 (ws g ad y2 σ2) → va_S A0 s.heap H1 locs1 → W p l e R s m args below meth c H1 locs1 d1 d2 Q (F0 m 74 ls [])) : W p l e R s m args below meth c H locs dk dn Q (F0 m 52 ls [.int (2 * sV σ a 64)]) := by
  obtain ⟨t, hsv, htn, ht, hfs, hal, ⟨g1, g2⟩, hB⟩ := h
  have hkd' : kd (cl a) 63 = 2 := by rw [hcl]; rfl
  have hty' : tyx (cl a) 63 = 3 := by rw [hcl]; rfl
  obtain ⟨q0, hq, he⟩ := ws_at (g := g) (ad := ad) (y := y) (σ := σ) (mem_obj (a := a) (by rw [hcl]; decide))
  obtain ⟨q1, hq1, hne1, he1⟩ := row_at (g := g) (ad := ad) (y := y) (σ0 := σ) hkd' (by decide) (by decide) hty'
  rw [clv_o hcl] at he
  have hr : rwd ad y σ a 63 2 = (yN y a 63, .inl (sA σ a 63)) := rfl
  rw [hr] at he1
  have fat : ∀ k, k < nf 14 → (fls ad y σ a)[k]? = some (fvl ad y σ a k (kd 14 k)) := fun k hk => by
    show (List.map _ (List.range (nf (cl a))))[k]? = _
    rw [hcl, List.getElem?_map, List.getElem?_range hk]; rfl
  have fb : (fls ad y σ a)[63]? = some (.ref (yP y a 63)) := fat 63 (by decide +kernel)
  have fn : (fls ad y σ a)[64]? = some (.int (sV σ a 64)) := fat 64 (by decide +kernel)
  refine tpi (w := nI (2 * t)) (by rw [hsv]; exact pk_mul 2 t) ?_
  refine kNew (ty := .boolean) (N' := 2 * t) (a0 := (2 * t, .inl (fun _ => nI 0))) G q2980 rfl (fun _ h => h) 3 rfl hP hD hS (fun _ => rfl) (nI_pos (by omega)) (nI_clamp (by omega)) (by show _ * 1 ≤ _; omega) (Nat.le_trans g1 hmc) (Nat.le_trans g2 hms) d_Mo_addNine_52 (fun q_1 H hP hD hS => ?_)
  refine lv_astore_n (lv' := [(3, .ref q_1), (0, .ref (ad a)), (1, .int x1), (2, .int x2)]) G.1 G.2.1 d_Mo_addNine_54 rfl hl (by decide) rfl (fun ls hl => ?_)
  have he0 : (ws g ad y σ ++ [(q_1, (.inl (g 3, (2 * t, .inl (fun _ => nI 0))) : va_E))])[q0]? = some (ad a, .inr (14, fls ad y σ a)) := (List.getElem?_append_left (List.getElem?_eq_some_iff.mp he).1).trans he
  have he2 : (ws g ad y σ ++ [(q_1, (.inl (g 3, (2 * t, .inl (fun _ => nI 0))) : va_E))])[q1]? = some (yP y a 63, .inl (g 3, (yN y a 63, .inl (sA σ a 63)))) := (List.getElem?_append_left (List.getElem?_eq_some_iff.mp he1).1).trans he1
  have he3 : (ws g ad y σ ++ [(q_1, (.inl (g 3, (2 * t, .inl (fun _ => nI 0))) : va_E))])[(ws g ad y σ).length]? = some (q_1, .inl (g 3, 2 * t, .inl (fun _ => nI 0))) := by
    rw [List.getElem?_append_right (Nat.le_refl _), Nat.sub_self]; rfl
  refine lv_aload_n G.1 G.2.1 d_Mo_addNine_55 rfl (lv_at hl 1 rfl) ?_
  refine kg (ci := 14) G iMo hP q0 he0 rfl 63 (by decide) q3127 rfl fb d_Mo_addNine_56 ?_
  refine lv_iconst (v := nI 0) G.1 G.2.1 d_Mo_addNine_59 (by decide) ?_
  refine lv_aload_n G.1 G.2.1 d_Mo_addNine_60 rfl (lv_at hl 0 rfl) ?_
  refine lv_iconst (v := nI 0) G.1 G.2.1 d_Mo_addNine_61 (by decide) ?_
  refine lv_aload_n G.1 G.2.1 d_Mo_addNine_62 rfl (lv_at hl 1 rfl) ?_
  refine kg (ci := 14) G iMo hP q0 he0 rfl 64 (by decide) q3128 rfl fn d_Mo_addNine_63 ?_
  refine tpi (w := nI t) hsv ?_
  refine va_copyi (ty := .boolean) (n0 := yN y a 63) (n1 := 2 * t) (f := sA σ a 63) (g := fun _ => nI 0) G.1 G.2.1 (G.2.2.1.trans hl.1.symm) G.2.2.2.2.2.2.1 (G.2.2.2.2.2.1 _ q2595) (G.2.2.2.2.2.1 _ q488) (G.2.2.2.2.2.1 _ q487) (G.2.2.2.2.2.1 _ q338) G.2.2.2.2.2.2.2.2.1 hP hD hS q1 (ws g ad y σ).length 3 3 he2 he3 rfl rfl rfl (nI_pos (by omega)) (nI_pos (by omega)) (nI_pos (by omega)) (by rw [nI_clamp (n := 0) (by decide), nI_clamp (n := t) (by omega)]; omega) (by rw [nI_clamp (n := 0) (by decide), nI_clamp (n := t) (by omega)]; omega) (fun i hi => by rw [nI_clamp (n := t) (by omega)] at hi; rw [nI_clamp (n := 0) (by decide), Nat.zero_add]; exact hfs i hi) hfr (Nat.le_trans (by decide) hlo) d_Mo_addNine_66 (fun H locs hP hD hS => ?_)
  rw [nI_clamp (n := 0) (by decide), nI_clamp (n := t) (by omega), List.set_append_right _ _ (Nat.le_refl _), Nat.sub_self] at hP hD
  refine lv_aload_n G.1 G.2.1 d_Mo_addNine_69 rfl (lv_at hl 1 rfl) ?_
  refine lv_aload_n G.1 G.2.1 d_Mo_addNine_70 rfl (lv_at hl 0 rfl) ?_
  have hP : va_P D CL (ws g ad y σ ++ [(q_1, .inl (g 3, (2 * t, .inl (va_cpy (sA σ a 63) (fun _ => nI 0) 0 0 t))))]) H := hP
  have hD : va_D A0 (ws g ad y σ ++ [(q_1, .inl (g 3, (2 * t, .inl (va_cpy (sA σ a 63) (fun _ => nI 0) 0 0 t))))]) := hD
  refine kp (ci := 14) (v := .ref q_1) G iMo tMo tMo_ok nMo hP hD hS q0 ((List.getElem?_append_left (List.getElem?_eq_some_iff.mp he).1).trans he) rfl 63 (by decide) q3127 rfl rfl rfl rfl (List.getElem?_eq_some_iff.mp fb).1 d_Mo_addNine_71 (fun H locs hP hD hS => ?_)
  obtain ⟨hP3, hD3⟩ := rm_ws (by decide) hcl hq rfl rfl hal hP hD
  refine kk _ _ _ _ _ _ _ (hB q_1 (va_cpy (sA σ a 63) (fun _ => nI 0) 0 0 t) (fun i hi => ?_) (fun i hi => ?_)) (lv_sub hl [1, 2, 3] rfl) hP3 hD3 hS
  · simp [va_cpy, hi]
  · simp [va_cpy, Nat.not_lt.mpr hi]
def wa_Mo_addNine (mc ms : Nat) (y : Ly) (Post : Ly → St → Nat → Nat → Prop) (σ : St) (a0 : Nat) (v1 : Int32) (v2 : Int32) : Prop := xR mc ms 0 0 .int y σ a0 61 ((sV σ a0 64) + 1) (fun (y_1 : Ly) (s_2 : St) (d_3 e_4 : Nat) => (d_3 ≤ mc ∧ e_4 ≤ ms) ∧ xR mc ms d_3 e_4 .int y_1 s_2 a0 62 ((sV s_2 a0 64) + 1) (fun (y_5 : Ly) (s_6 : St) (d_7 e_8 : Nat) => (d_7 ≤ mc ∧ e_8 ≤ ms) ∧ ((¬ (sV s_6 a0 64) = (nI (yN y_5 a0 63)) → wja_Mo_addNine_74 mc ms Post a0 y_5 s_6 d_7 e_8 v1 v2) ∧ ((sV s_6 a0 64) = (nI (yN y_5 a0 63)) → xN_9 mc ms d_7 e_8 y_5 s_6 a0 (fun (y_14 : Ly) (s_15 : St) (d_16 e_17 : Nat) => (d_16 ≤ mc ∧ e_17 ≤ ms) ∧ wja_Mo_addNine_74 mc ms Post a0 y_14 s_15 d_16 e_17 v1 v2)))))
set_option maxHeartbeats 4000000 in
set_option maxRecDepth 100000 in
theorem ca_Mo_addNine (l : Launch) (D : va_G) (g : Nat → ClassId) (ad : Nat → Nat) (mc ms : Nat) (y : Ly) (Post : Ly → St → Nat → Nat → Prop) (σ : St) (a0 : Nat) (v1 : Int32) (v2 : Int32) (sz uz : Nat) (h_a0 : cl a0 = 14) (h : wa_Mo_addNine mc ms y Post σ a0 v1 v2) : Met l y_Mo_addNine (mw y_Mo_addNine b_Mo_addNine 4 (none)) (ra_Mo_addNine mc ms) (PCu g D [] [.ref (ad a0), .int v1, .int v2] sz uz (ws g ad y σ)) (va_Qv (fun (u : Ly × St × Nat × Nat) => Post u.1 u.2.1 u.2.2.1 u.2.2.2) (QU D (va_A (ws g ad y σ) sz) (fun u => ws g ad u.1 u.2.1) sz uz (fun u => u.2.2.1) (fun u => u.2.2.2)) (va_A (ws g ad y σ) sz)) mc ms (va_A (ws g ad y σ) sz) := by
  refine ofVu (by decide +kernel) (Nat.le_of_ble_eq_true rfl) ?_
  intro p e s m args below meth c A Q ls H locs G hsz hP hD hS hl hret
  subst hsz
  have hl : lv_has ls 4 [(0, .ref (ad a0)), (1, .int v1), (2, .int v2)] := hl
  have hd : 0 ≤ mc ∧ 0 ≤ ms := ⟨Nat.zero_le _, Nat.zero_le _⟩
  unfold wa_Mo_addNine at h
  refine lv_aload_n G.1 G.2.1 d_Mo_addNine_0 rfl (lv_at hl 0 rfl) ?_
  refine lv_aload_n G.1 G.2.1 d_Mo_addNine_1 rfl (lv_at hl 0 rfl) ?_
  refine ugf (v := .ref (yP y a0 61)) G hP h_a0 iMo rfl 61 (by decide) rfl q3125 rfl rfl d_Mo_addNine_2 ?_
  refine lv_aload_n G.1 G.2.1 d_Mo_addNine_5 rfl (lv_at hl 0 rfl) ?_
  refine ugf (v := .int (sV σ a0 64)) G hP h_a0 iMo rfl 64 (by decide) rfl q3128 rfl rfl d_Mo_addNine_6 ?_
  refine lv_iconst (v := 1) G.1 G.2.1 d_Mo_addNine_9 (by decide) ?_
  refine lv_iadd G.1 G.2.1 d_Mo_addNine_10 ?_
  refine uroom (C := RMo) (T := TMo) (N := 131) G hP hD hS (fun ws0 q1 q t n f sz he ht hn => c_Mo_room_k l D g ws0 q1 q t n f sz he ht hn) (fun ws0 q1 q t n f sz he hn ht hf => c_Mo_room_g l D g ws0 q1 q t n f sz he hn ht hf) w9_Mo_room q2596 ⟨Nat.le_of_ble_eq_true rfl, Nat.le_of_ble_eq_true rfl⟩ (Nat.le_refl _) (Nat.le_refl _) hd (by decide) h_a0 rfl rfl iMo tMo tMo_ok nMo rfl (by decide) q3125 rfl rfl (fun _ => rfl) (fun _ => rfl) hl.1 (Nat.le_of_ble_eq_true rfl) h d_Mo_addNine_11 d_Mo_addNine_14 (fun y_1 s_2 d_3 e_4 H locs h hP hD hS => ?_)
  obtain ⟨hd, h⟩ := h
  refine lv_aload_n G.1 G.2.1 d_Mo_addNine_17 rfl (lv_at hl 0 rfl) ?_
  refine lv_aload_n G.1 G.2.1 d_Mo_addNine_18 rfl (lv_at hl 0 rfl) ?_
  refine ugf (v := .ref (yP y_1 a0 62)) G hP h_a0 iMo rfl 62 (by decide) rfl q3126 rfl rfl d_Mo_addNine_19 ?_
  refine W.eq (g2 := F0 m 22 ls [.ref (yP y_1 a0 62), .ref (ad a0)]) rfl ?_
  refine lv_aload_n G.1 G.2.1 d_Mo_addNine_22 rfl (lv_at hl 0 rfl) ?_
  refine ugf (v := .int (sV s_2 a0 64)) G hP h_a0 iMo rfl 64 (by decide) rfl q3128 rfl rfl d_Mo_addNine_23 ?_
  refine lv_iconst (v := 1) G.1 G.2.1 d_Mo_addNine_26 (by decide) ?_
  refine lv_iadd G.1 G.2.1 d_Mo_addNine_27 ?_
  refine uroom (C := RMo) (T := TMo) (N := 131) G hP hD hS (fun ws0 q1 q t n f sz he ht hn => c_Mo_room_k l D g ws0 q1 q t n f sz he ht hn) (fun ws0 q1 q t n f sz he hn ht hf => c_Mo_room_g l D g ws0 q1 q t n f sz he hn ht hf) w9_Mo_room q2596 ⟨Nat.le_of_ble_eq_true rfl, Nat.le_of_ble_eq_true rfl⟩ (Nat.le_refl _) (Nat.le_refl _) hd (by decide) h_a0 rfl rfl iMo tMo tMo_ok nMo rfl (by decide) q3126 rfl rfl (fun _ => rfl) (fun _ => rfl) hl.1 (Nat.le_of_ble_eq_true rfl) h d_Mo_addNine_28 d_Mo_addNine_31 (fun y_5 s_6 d_7 e_8 H locs h hP hD hS => ?_)
  obtain ⟨hd, h⟩ := h
  refine lv_aload_n G.1 G.2.1 d_Mo_addNine_34 rfl (lv_at hl 0 rfl) ?_
  refine ugf (v := .int (sV s_6 a0 64)) G hP h_a0 iMo rfl 64 (by decide) rfl q3128 rfl rfl d_Mo_addNine_35 ?_
  refine lv_aload_n G.1 G.2.1 d_Mo_addNine_38 rfl (lv_at hl 0 rfl) ?_
  refine ugf (v := .ref (yP y_5 a0 63)) G hP h_a0 iMo rfl 63 (by decide) rfl q3127 rfl rfl d_Mo_addNine_39 ?_
  refine ualen G hP (kdp h_a0 rfl) (by decide) (by decide) (typ h_a0 rfl) rfl d_Mo_addNine_42 ?_
  have J_74 : ∀ (y_j74 : Ly) (s_j74 : St) (d_j74 e_j74 : Nat) (x1j74 : Int32) (x2j74 : Int32) (H : Heap) (locs : List Loc), wja_Mo_addNine_74 mc ms Post a0 y_j74 s_j74 d_j74 e_j74 x1j74 x2j74 → va_P D CL (ws g ad y_j74 s_j74) H → va_D A (ws g ad y_j74 s_j74) → va_S A s.heap H locs → ∀ ls, lv_has ls 4 [(0, .ref (ad a0)), (1, .int x1j74), (2, .int x2j74)] → W p l e (ra_Mo_addNine mc ms) s m args below meth c H locs d_j74 e_j74 Q (F0 m 74 ls []) := by
    intro y_j74 s_j74 d_j74 e_j74 x1j74 x2j74 H locs h hP hD hS ls hl
    unfold wja_Mo_addNine_74 at h
    obtain ⟨hd, h⟩ := h
    refine lv_aload_n G.1 G.2.1 d_Mo_addNine_74 rfl (lv_at hl 0 rfl) ?_
    refine ugf (v := .ref (yP y_j74 a0 61)) G hP h_a0 iMo rfl 61 (by decide) rfl q3125 rfl rfl d_Mo_addNine_75 ?_
    refine lv_aload_n G.1 G.2.1 d_Mo_addNine_78 rfl (lv_at hl 0 rfl) ?_
    refine ugf (v := .int (sV s_j74 a0 64)) G hP h_a0 iMo rfl 64 (by decide) rfl q3128 rfl rfl d_Mo_addNine_79 ?_
    refine lv_iload_n G.1 G.2.1 d_Mo_addNine_82 rfl (lv_at hl 1 rfl) ?_
    refine uiast G hP hD hS (kdp h_a0 rfl) (typ h_a0 rfl) h d_Mo_addNine_83 (fun s_9 H locs h hP hD hS => ?_)
    refine lv_aload_n G.1 G.2.1 d_Mo_addNine_84 rfl (lv_at hl 0 rfl) ?_
    refine ugf (v := .ref (yP y_j74 a0 62)) G hP h_a0 iMo rfl 62 (by decide) rfl q3126 rfl rfl d_Mo_addNine_85 ?_
    refine lv_aload_n G.1 G.2.1 d_Mo_addNine_88 rfl (lv_at hl 0 rfl) ?_
    refine ugf (v := .int (sV s_9 a0 64)) G hP h_a0 iMo rfl 64 (by decide) rfl q3128 rfl rfl d_Mo_addNine_89 ?_
    refine lv_aload_n G.1 G.2.1 d_Mo_addNine_92 rfl (lv_at hl 0 rfl) ?_
    refine W.eq (g2 := F0 m 93 ls [.ref (ad a0), .int (sV s_9 a0 64), .ref (yP y_j74 a0 62)]) rfl ?_
    refine ugf (v := .ref (yP y_j74 a0 41)) G hP h_a0 iMo rfl 41 (by decide) rfl q3105 rfl rfl d_Mo_addNine_93 ?_
    refine lv_iconst (v := 0) G.1 G.2.1 d_Mo_addNine_96 (by decide) ?_
    refine uiald G hP (kdp h_a0 rfl) (typ h_a0 rfl) h d_Mo_addNine_97 (fun x_10 h => ?_)
    refine uiast G hP hD hS (kdp h_a0 rfl) (typ h_a0 rfl) h d_Mo_addNine_98 (fun s_11 H locs h hP hD hS => ?_)
    refine lv_aload_n G.1 G.2.1 d_Mo_addNine_99 rfl (lv_at hl 0 rfl) ?_
    refine ugf (v := .ref (yP y_j74 a0 63)) G hP h_a0 iMo rfl 63 (by decide) rfl q3127 rfl rfl d_Mo_addNine_100 ?_
    refine lv_aload_n G.1 G.2.1 d_Mo_addNine_103 rfl (lv_at hl 0 rfl) ?_
    refine ugf (v := .int (sV s_11 a0 64)) G hP h_a0 iMo rfl 64 (by decide) rfl q3128 rfl rfl d_Mo_addNine_104 ?_
    refine lv_iload_n G.1 G.2.1 d_Mo_addNine_107 rfl (lv_at hl 2 rfl) ?_
    refine uzast G hP hD hS (kdp h_a0 rfl) (typ h_a0 rfl) h d_Mo_addNine_108 (fun s_12 H locs h hP hD hS => ?_)
    refine lv_aload_n G.1 G.2.1 d_Mo_addNine_109 rfl (lv_at hl 0 rfl) ?_
    refine lv_dup G.1 G.2.1 d_Mo_addNine_110 rfl ?_
    refine W.eq (g2 := F0 m 111 ls [.ref (ad a0), .ref (ad a0)]) rfl ?_
    refine ugf (v := .int (sV s_12 a0 64)) G hP h_a0 iMo rfl 64 (by decide) rfl q3128 rfl rfl d_Mo_addNine_111 ?_
    refine lv_iconst (v := 1) G.1 G.2.1 d_Mo_addNine_114 (by decide) ?_
    refine lv_iadd G.1 G.2.1 d_Mo_addNine_115 ?_
    refine upf G hP hD hS h 64 putV h_a0 iMo tMo tMo_ok nMo rfl (by decide) rfl q3128 rfl rfl fV rfl rfl d_Mo_addNine_116 (fun s_13 H locs h hP hD hS => ?_)
    exact hret (y_j74, s_13, d_j74, e_j74) _ _ _ _ _ ls h hP hD hS (Nat.le_refl _) (Nat.le_refl _) hd.1 hd.2 d_Mo_addNine_119
  refine lv_icmp_ne (tgt := 74) G.1 G.2.1 d_Mo_addNine_43 (by decide) (fun c43 => ?_) (fun c43 => ?_)
  · skip
    have h := h.1 c43
    exact J_74 y_5 s_6 d_7 e_8 v1 v2 H locs h hP hD hS ls (lv_sub hl [0, 1, 2] rfl)
  · skip
    have h := h.2 c43
    refine lv_iconst (v := 2) G.1 G.2.1 d_Mo_addNine_46 (by decide) ?_
    refine W.eq (g2 := F0 m 47 ls [.int 2]) rfl ?_
    refine lv_aload_n G.1 G.2.1 d_Mo_addNine_47 rfl (lv_at hl 0 rfl) ?_
    refine ugf (v := .int (sV s_6 a0 64)) G hP h_a0 iMo rfl 64 (by decide) rfl q3128 rfl rfl d_Mo_addNine_48 ?_
    refine lv_imul G.1 G.2.1 d_Mo_addNine_51 ?_
    have hl := lv_sub (l' := [(0, .ref (ad a0)), (1, .int v1), (2, .int v2)]) hl [0, 1, 2] rfl
    refine W.eq (g2 := F0 m 52 ls [.int (2 * sV s_6 a0 64)]) rfl ?_
    refine unine G hP hD hS h_a0 hl (Nat.le_refl _) (Nat.le_refl _) (Nat.le_of_ble_eq_true rfl) (Nat.le_of_ble_eq_true rfl) h (fun y_14 s_15 d_16 e_17 ls H locs h hl hP hD hS => ?_)
    obtain ⟨hd, h⟩ := h
    exact J_74 y_14 s_15 d_16 e_17 v1 v2 H locs h hP hD hS ls (lv_sub hl [0, 1, 2] rfl)
