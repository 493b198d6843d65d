theorem q1731 : Cond.methodLink "ClassWorks" 212 y_Cw_takeLine ∈ lw_ok := lw_okmem (List.mem_of_getElem? (i := 1731) (by decide +kernel)) rfl
theorem q1734 : Cond.code y_Cw_takeLine b_Cw_takeLine 4 (some (.boolean)) ∈ lw_ok := lw_okmem (List.mem_of_getElem? (i := 1734) (by decide +kernel)) rfl
theorem q1733 : Cond.instanceMethod y_Cw_takeLine ∈ lw_ok := lw_okmem (List.mem_of_getElem? (i := 1733) (by decide +kernel)) rfl
theorem q77 : Cond.selects y_Cw_takeLine.cls y_Cw_takeLine y_Cw_takeLine ∈ lw_ok := lw_okmem (List.mem_of_getElem? (i := 77) (by decide +kernel)) rfl
theorem w9_Cw_takeLine : CWv y_Cw_takeLine b_Cw_takeLine 4 (some (.boolean)) 2 ∧ Cond.instanceMethod y_Cw_takeLine ∈ lw_ok ∧ Cond.selects y_Cw_takeLine.cls y_Cw_takeLine y_Cw_takeLine ∈ lw_ok := ⟨⟨q1734, q329, by decide +kernel, by decide +kernel, by decide +kernel⟩, q1733, q77⟩
theorem q1747 : Cond.methodLink "ClassWorks" 216 y_Ru_clear ∈ lw_ok := lw_okmem (List.mem_of_getElem? (i := 1747) (by decide +kernel)) rfl
theorem q1748 : Cond.methodLink "ClassWorks" 219 y_Ru_begin ∈ lw_ok := lw_okmem (List.mem_of_getElem? (i := 1748) (by decide +kernel)) rfl
theorem q1751 : Cond.code y_Ru_begin b_Ru_begin 1 (none) ∈ lw_ok := lw_okmem (List.mem_of_getElem? (i := 1751) (by decide +kernel)) rfl
theorem q1749 : Cond.instanceMethod y_Ru_begin ∈ lw_ok := lw_okmem (List.mem_of_getElem? (i := 1749) (by decide +kernel)) rfl
theorem q1750 : Cond.selects y_Ru_begin.cls y_Ru_begin y_Ru_begin ∈ lw_ok := lw_okmem (List.mem_of_getElem? (i := 1750) (by decide +kernel)) rfl
theorem w9_Ru_begin : CWv y_Ru_begin b_Ru_begin 1 (none) 0 ∧ Cond.instanceMethod y_Ru_begin ∈ lw_ok ∧ Cond.selects y_Ru_begin.cls y_Ru_begin y_Ru_begin ∈ lw_ok := ⟨⟨q1751, q347, by decide +kernel, by decide +kernel, by decide +kernel⟩, q1749, q1750⟩
def y_Cw_call : MethodName := ⟨"ClassWorks", "call", "(II)I"⟩
abbrev b_Cw_call : ByteArray := prog_1_method_19_code
theorem d_Cw_call_0 : decode b_Cw_call 0 = .ok (.aload_n 0, 1) := by decide +kernel
theorem d_Cw_call_1 : decode b_Cw_call 1 = .ok (.iload_n 1, 1) := by decide +kernel
theorem d_Cw_call_2 : decode b_Cw_call 2 = .ok (.invokevirtual 129, 3) := by decide +kernel
theorem d_Cw_call_5 : decode b_Cw_call 5 = .ok (.astore_n 3, 1) := by decide +kernel
theorem d_Cw_call_6 : decode b_Cw_call 6 = .ok (.aload_n 3, 1) := by decide +kernel
theorem d_Cw_call_7 : decode b_Cw_call 7 = .ok (.ifnull 12, 3) := by decide +kernel
theorem d_Cw_call_10 : decode b_Cw_call 10 = .ok (.iload_n 2, 1) := by decide +kernel
theorem d_Cw_call_11 : decode b_Cw_call 11 = .ok (.ifCond .lt 8, 3) := by decide +kernel
theorem d_Cw_call_14 : decode b_Cw_call 14 = .ok (.iload_n 2, 1) := by decide +kernel
theorem d_Cw_call_15 : decode b_Cw_call 15 = .ok (.iconst 3, 1) := by decide +kernel
theorem d_Cw_call_16 : decode b_Cw_call 16 = .ok (.if_icmp .lt 5, 3) := by decide +kernel
theorem d_Cw_call_19 : decode b_Cw_call 19 = .ok (.iconst (-1), 1) := by decide +kernel
theorem d_Cw_call_20 : decode b_Cw_call 20 = .ok (.ireturn, 1) := by decide +kernel
theorem d_Cw_call_21 : decode b_Cw_call 21 = .ok (.aload_n 3, 1) := by decide +kernel
theorem d_Cw_call_22 : decode b_Cw_call 22 = .ok (.getfield 202, 3) := by decide +kernel
theorem d_Cw_call_25 : decode b_Cw_call 25 = .ok (.iload_n 2, 1) := by decide +kernel
theorem d_Cw_call_26 : decode b_Cw_call 26 = .ok (.aaload, 1) := by decide +kernel
theorem d_Cw_call_27 : decode b_Cw_call 27 = .ok (.astore 4, 2) := by decide +kernel
theorem d_Cw_call_29 : decode b_Cw_call 29 = .ok (.aload 4, 2) := by decide +kernel
theorem d_Cw_call_31 : decode b_Cw_call 31 = .ok (.invokevirtual 206, 3) := by decide +kernel
theorem d_Cw_call_34 : decode b_Cw_call 34 = .ok (.ifCond .eq 6, 3) := by decide +kernel
theorem d_Cw_call_37 : decode b_Cw_call 37 = .ok (.bipush (-2), 2) := by decide +kernel
theorem d_Cw_call_39 : decode b_Cw_call 39 = .ok (.ireturn, 1) := by decide +kernel
theorem d_Cw_call_40 : decode b_Cw_call 40 = .ok (.aload_n 0, 1) := by decide +kernel
theorem d_Cw_call_41 : decode b_Cw_call 41 = .ok (.aload 4, 2) := by decide +kernel
theorem d_Cw_call_43 : decode b_Cw_call 43 = .ok (.iconst 1, 1) := by decide +kernel
theorem d_Cw_call_44 : decode b_Cw_call 44 = .ok (.invokevirtual 212, 3) := by decide +kernel
theorem d_Cw_call_47 : decode b_Cw_call 47 = .ok (.istore 5, 2) := by decide +kernel
theorem d_Cw_call_49 : decode b_Cw_call 49 = .ok (.aload 4, 2) := by decide +kernel
theorem d_Cw_call_51 : decode b_Cw_call 51 = .ok (.invokevirtual 216, 3) := by decide +kernel
theorem d_Cw_call_54 : decode b_Cw_call 54 = .ok (.iload 5, 2) := by decide +kernel
theorem d_Cw_call_56 : decode b_Cw_call 56 = .ok (.ifCond .ne 6, 3) := by decide +kernel
theorem d_Cw_call_59 : decode b_Cw_call 59 = .ok (.bipush (-11), 2) := by decide +kernel
theorem d_Cw_call_61 : decode b_Cw_call 61 = .ok (.ireturn, 1) := by decide +kernel
theorem d_Cw_call_62 : decode b_Cw_call 62 = .ok (.aload 4, 2) := by decide +kernel
theorem d_Cw_call_64 : decode b_Cw_call 64 = .ok (.invokevirtual 219, 3) := by decide +kernel
theorem d_Cw_call_67 : decode b_Cw_call 67 = .ok (.iconst 0, 1) := by decide +kernel
theorem d_Cw_call_68 : decode b_Cw_call 68 = .ok (.ireturn, 1) := by decide +kernel
abbrev ra_Cw_call (mc ms : Nat) : Room := { frames := 11, cells := mc, slots := ms, locals := 565 }
def wja_Cw_call_19 (mc ms : Nat) (Post : Ly → St → Int32 → Nat → Nat → Prop) (a0 : Nat) (y_j19 : Ly) (s_j19 : St) (d_j19 e_j19 : Nat) : Prop := (d_j19 ≤ mc ∧ e_j19 ≤ ms) ∧ Post y_j19 s_j19 (-1) d_j19 e_j19
def wa_Cw_call (mc ms : Nat) (y : Ly) (Post : Ly → St → Int32 → Nat → Nat → Prop) (σ : St) (a0 : Nat) (v1 : Int32) (v2 : Int32) : Prop := wu_Cw_machine y (fun (s_2 : St) (r_1 : Option Nat) => ((r_1 = none → wja_Cw_call_19 mc ms Post a0 y s_2 0 0) ∧ (∀ r_1b : Nat, r_1 = some r_1b → (cl r_1b = 4 ∧ ((v2 < 0 → wja_Cw_call_19 mc ms Post a0 y s_2 0 0) ∧ (¬ (v2 < 0) → ((v2 < 3 → xQ y r_1b 2 v2 (fun b_3 : Nat => wu_Ru_on y (fun (s_6 : St) (r_5 : Int32) => ((r_5 = 0 → ∃ mc_12 ms_13 : Nat, (0 + mc_12 ≤ mc ∧ 0 + ms_13 ≤ ms) ∧ wa_Cw_takeLine mc_12 ms_13 y (fun (y_9 : Ly) (s_8 : St) (r_7 : Int32) (d_10 e_11 : Nat) => (0 + d_10 ≤ mc ∧ 0 + e_11 ≤ ms) ∧ wu_Ru_clear y_9 (fun (s_16 : St) => ((¬ r_7 = 0 → wu_Ru_begin y_9 (fun (s_18 : St) => Post y_9 s_18 0 (0 + d_10) (0 + e_11)) s_16 b_3) ∧ (r_7 = 0 → Post y_9 s_16 (-11) (0 + d_10) (0 + e_11)))) s_8 b_3) s_6 a0 b_3 1) ∧ (¬ (r_5 = 0) → Post y s_6 (-2) 0 0))) s_2 b_3)) ∧ (¬ (v2 < 3) → wja_Cw_call_19 mc ms Post a0 y s_2 0 0)))))))) σ a0 v1
set_option maxHeartbeats 4000000 in
set_option maxRecDepth 100000 in
theorem ca_Cw_call (l : Launch) (D : va_G) (g : Nat → ClassId) (ad : Nat → Nat) (mc ms : Nat) (y : Ly) (Post : Ly → St → Int32 → Nat → Nat → Prop) (σ : St) (a0 : Nat) (v1 : Int32) (v2 : Int32) (sz uz : Nat) (h_a0 : cl a0 = 11) (h : wa_Cw_call mc ms y Post σ a0 v1 v2) : Met l y_Cw_call (mw y_Cw_call b_Cw_call 6 (some .int)) (ra_Cw_call mc ms) (PCu g D [] [.ref (ad a0), .int v1, .int v2] sz uz (ws g ad y σ)) (va_Qi (fun (r : Int32) (u : Ly × St × Nat × Nat) => Post u.1 u.2.1 r u.2.2.1 u.2.2.2) (QU D (va_A (ws g ad y σ) sz) (fun u => ws g ad u.1 u.2.1) sz uz (fun u => u.2.2.1) (fun u => u.2.2.2)) (va_A (ws g ad y σ) sz)) mc ms (va_A (ws g ad y σ) sz) := by
  refine ofIu (by decide +kernel) (Nat.le_of_ble_eq_true rfl) ?_
  intro p e s m args below meth c A Q ls H locs G hsz hP hD hS hl hret
  subst hsz
  have hl : lv_has ls 6 [(0, .ref (ad a0)), (1, .int v1), (2, .int v2)] := hl
  have hd : 0 ≤ mc ∧ 0 ≤ ms := ⟨Nat.zero_le _, Nat.zero_le _⟩
  unfold wa_Cw_call at h
  refine lv_aload_n G.1 G.2.1 d_Cw_call_0 rfl (lv_at hl 0 rfl) ?_
  refine lv_iload_n G.1 G.2.1 d_Cw_call_1 rfl (lv_at hl 1 rfl) ?_
  refine ucVq (As := [.int v1]) (rest := []) G hP hD hS (cu_Cw_machine l D g ad y _ σ a0 v1 H.size h_a0 h) w9_Cw_machine q1248 ⟨Nat.le_of_ble_eq_true rfl, Nat.le_of_ble_eq_true rfl⟩ rfl rfl h_a0 (q := (RCw, TCw, 20)) rfl rfl hl.1 rfl (Nat.le_of_ble_eq_true rfl) rfl hd d_Cw_call_2 (fun r_1 s_2 H locs h hP hD hS => ?_)
  rcases r_1 with _ | r_1b
  · skip
    have h := h.1 rfl
    show W p l e (ra_Cw_call mc ms) s m args below meth c H locs 0 0 Q (F0 m 5 ls [.null])
    refine lv_astore_nN (lv' := [(3, .null), (0, .ref (ad a0)), (1, .int v1), (2, .int v2)]) G.1 G.2.1 d_Cw_call_5 rfl hl (by decide) rfl (fun ls hl => ?_)
    refine lv_aload_nN G.1 G.2.1 d_Cw_call_6 rfl (lv_at hl 0 rfl) ?_
    have J_19 : ∀ (y_j19 : Ly) (s_j19 : St) (d_j19 e_j19 : Nat) (H : Heap) (locs : List Loc), wja_Cw_call_19 mc ms Post a0 y_j19 s_j19 d_j19 e_j19 → va_P D CL (ws g ad y_j19 s_j19) H → va_D A (ws g ad y_j19 s_j19) → va_S A s.heap H locs → ∀ ls, lv_has ls 6 [] → W p l e (ra_Cw_call mc ms) s m args below meth c H locs d_j19 e_j19 Q (F0 m 19 ls []) := by
      intro y_j19 s_j19 d_j19 e_j19 H locs h hP hD hS ls hl
      unfold wja_Cw_call_19 at h
      obtain ⟨hd, h⟩ := h
      refine lv_iconst (v := (-1)) G.1 G.2.1 d_Cw_call_19 (by decide) ?_
      exact hret _ (y_j19, s_j19, d_j19, e_j19) _ _ _ _ _ ls h hP hD hS (Nat.le_refl _) (Nat.le_refl _) hd.1 hd.2 d_Cw_call_20
    refine lv_ifnullN (tgt := 19) G.1 G.2.1 d_Cw_call_7 (by decide) ?_
    exact J_19 y s_2 0 0 H locs h hP hD hS ls (lv_sub hl [] rfl)
  · skip
    obtain ⟨c_r_1b, h⟩ := h.2 _ rfl
    show W p l e (ra_Cw_call mc ms) s m args below meth c H locs 0 0 Q (F0 m 5 ls [.ref (ad r_1b)])
    refine lv_astore_n (lv' := [(3, .ref (ad r_1b)), (0, .ref (ad a0)), (1, .int v1), (2, .int v2)]) G.1 G.2.1 d_Cw_call_5 rfl hl (by decide) rfl (fun ls hl => ?_)
    refine lv_aload_n G.1 G.2.1 d_Cw_call_6 rfl (lv_at hl 0 rfl) ?_
    have J_19 : ∀ (y_j19 : Ly) (s_j19 : St) (d_j19 e_j19 : Nat) (H : Heap) (locs : List Loc), wja_Cw_call_19 mc ms Post a0 y_j19 s_j19 d_j19 e_j19 → va_P D CL (ws g ad y_j19 s_j19) H → va_D A (ws g ad y_j19 s_j19) → va_S A s.heap H locs → ∀ ls, lv_has ls 6 [] → W p l e (ra_Cw_call mc ms) s m args below meth c H locs d_j19 e_j19 Q (F0 m 19 ls []) := by
      intro y_j19 s_j19 d_j19 e_j19 H locs h hP hD hS ls hl
      unfold wja_Cw_call_19 at h
      obtain ⟨hd, h⟩ := h
      refine lv_iconst (v := (-1)) G.1 G.2.1 d_Cw_call_19 (by decide) ?_
      exact hret _ (y_j19, s_j19, d_j19, e_j19) _ _ _ _ _ ls h hP hD hS (Nat.le_refl _) (Nat.le_refl _) hd.1 hd.2 d_Cw_call_20
    refine lv_ifnull G.1 G.2.1 d_Cw_call_7 ?_
    refine lv_iload_n G.1 G.2.1 d_Cw_call_10 rfl (lv_at hl 3 rfl) ?_
    refine lv_if_lt (tgt := 19) G.1 G.2.1 d_Cw_call_11 (by decide) (fun c11 => ?_) (fun c11 => ?_)
    · skip
      have h := h.1 c11
      exact J_19 y s_2 0 0 H locs h hP hD hS ls (lv_sub hl [] rfl)
    · skip
      have h := h.2 c11
      refine lv_iload_n G.1 G.2.1 d_Cw_call_14 rfl (lv_at hl 3 rfl) ?_
      refine lv_iconst (v := 3) G.1 G.2.1 d_Cw_call_15 (by decide) ?_
      refine lv_icmp_lt (tgt := 21) G.1 G.2.1 d_Cw_call_16 (by decide) (fun c16 => ?_) (fun c16 => ?_)
      · skip
        have h := h.1 c16
        refine W.eq (g2 := F0 m 21 ls []) rfl ?_
        refine lv_aload_n G.1 G.2.1 d_Cw_call_21 rfl (lv_at hl 0 rfl) ?_
        refine ugf (v := .ref (yP y r_1b 2)) G hP c_r_1b iMa rfl 2 (by decide) rfl q1070 rfl rfl d_Cw_call_22 ?_
        refine lv_iload_n G.1 G.2.1 d_Cw_call_25 rfl (lv_at hl 3 rfl) ?_
        refine uqald G hP (kdp c_r_1b rfl) (typ c_r_1b rfl) rfl h d_Cw_call_26 (fun b_3 n_4 h => ?_)
        refine lv_astore (lv' := [(4, .ref (ad b_3)), (3, .ref (ad r_1b)), (0, .ref (ad a0)), (1, .int v1), (2, .int v2)]) G.1 G.2.1 d_Cw_call_27 hl (by decide) rfl (fun ls hl => ?_)
        refine lv_aload G.1 G.2.1 d_Cw_call_29 (lv_at hl 0 rfl) ?_
        refine ucVi (As := []) (rest := []) G hP hD hS (cu_Ru_on l D g ad y _ s_2 b_3 H.size (oa_4 c_r_1b n_4) h) w9_Ru_on q1727 ⟨Nat.le_of_ble_eq_true rfl, Nat.le_of_ble_eq_true rfl⟩ rfl rfl (oa_4 c_r_1b n_4) (q := (RRu, TRu, 19)) rfl rfl hl.1 rfl (Nat.le_of_ble_eq_true rfl) rfl hd d_Cw_call_31 (fun r_5 s_6 H locs h hP hD hS => ?_)
        refine lv_if_eq (tgt := 40) G.1 G.2.1 d_Cw_call_34 (by decide) (fun c34 => ?_) (fun c34 => ?_)
        · skip
          have h := h.1 c34
          refine lv_aload_n G.1 G.2.1 d_Cw_call_40 rfl (lv_at hl 2 rfl) ?_
          refine lv_aload G.1 G.2.1 d_Cw_call_41 (lv_at hl 0 rfl) ?_
          refine lv_iconst (v := 1) G.1 G.2.1 d_Cw_call_43 (by decide) ?_
          obtain ⟨mc_12, ms_13, hr_14, h⟩ := h
          refine uaVi (As := [.ref (ad b_3), .int 1]) (rest := []) G hP hD hS (ca_Cw_takeLine l D g ad mc_12 ms_13 y _ s_6 a0 b_3 1 H.size (us H) h_a0 (oa_4 c_r_1b n_4) h) w9_Cw_takeLine q1731 ⟨Nat.le_of_ble_eq_true rfl, Nat.le_of_ble_eq_true rfl⟩ rfl rfl h_a0 (q := (RCw, TCw, 20)) rfl rfl hl.1 rfl (Nat.le_of_ble_eq_true rfl) rfl hr_14 d_Cw_call_44 (fun r_7 y_9 s_8 d_10 e_11 H locs h hP hD hS => ?_)
          have hl := lv_sub (l' := [(4, .ref (ad b_3))]) hl [0] rfl
          obtain ⟨hd, h⟩ := h
          refine W.eq (g2 := F0 m 47 ls [.int r_7]) rfl ?_
          refine lv_istore (lv' := [(5, .int r_7), (4, .ref (ad b_3))]) G.1 G.2.1 d_Cw_call_47 hl (by decide) rfl (fun ls hl => ?_)
          refine lv_aload G.1 G.2.1 d_Cw_call_49 (lv_at hl 1 rfl) ?_
          refine ucVv (As := []) (rest := []) G hP hD hS (cu_Ru_clear l D g ad y_9 _ s_8 b_3 H.size (oa_4 c_r_1b n_4) h) w9_Ru_clear q1747 ⟨Nat.le_of_ble_eq_true rfl, Nat.le_of_ble_eq_true rfl⟩ rfl rfl (oa_4 c_r_1b n_4) (q := (RRu, TRu, 19)) rfl rfl hl.1 rfl (Nat.le_of_ble_eq_true rfl) rfl hd d_Cw_call_51 (fun s_16 H locs h hP hD hS => ?_)
          refine lv_iload G.1 G.2.1 d_Cw_call_54 (lv_at hl 0 rfl) ?_
          refine lv_if_ne (tgt := 62) G.1 G.2.1 d_Cw_call_56 (by decide) (fun c56 => ?_) (fun c56 => ?_)
          · skip
            have h := h.1 c56
            refine lv_aload G.1 G.2.1 d_Cw_call_62 (lv_at hl 1 rfl) ?_
            refine ucVv (As := []) (rest := []) G hP hD hS (cu_Ru_begin l D g ad y_9 _ s_16 b_3 H.size (oa_4 c_r_1b n_4) h) w9_Ru_begin q1748 ⟨Nat.le_of_ble_eq_true rfl, Nat.le_of_ble_eq_true rfl⟩ rfl rfl (oa_4 c_r_1b n_4) (q := (RRu, TRu, 19)) rfl rfl hl.1 rfl (Nat.le_of_ble_eq_true rfl) rfl hd d_Cw_call_64 (fun s_18 H locs h hP hD hS => ?_)
            refine lv_iconst (v := 0) G.1 G.2.1 d_Cw_call_67 (by decide) ?_
            exact hret _ (y_9, s_18, 0 + d_10, 0 + e_11) _ _ _ _ _ ls h hP hD hS (Nat.le_refl _) (Nat.le_refl _) hd.1 hd.2 d_Cw_call_68
          · skip
            have h := h.2 c56
            refine lv_bipush (v := (-11)) G.1 G.2.1 d_Cw_call_59 (by decide) ?_
            exact hret _ (y_9, s_16, 0 + d_10, 0 + e_11) _ _ _ _ _ ls h hP hD hS (Nat.le_refl _) (Nat.le_refl _) hd.1 hd.2 d_Cw_call_61
        · skip
          have h := h.2 c34
          refine lv_bipush (v := (-2)) G.1 G.2.1 d_Cw_call_37 (by decide) ?_
          exact hret _ (y, s_6, 0, 0) _ _ _ _ _ ls h hP hD hS (Nat.le_refl _) (Nat.le_refl _) hd.1 hd.2 d_Cw_call_39
      · skip
        have h := h.2 c16
        exact J_19 y s_2 0 0 H locs h hP hD hS ls (lv_sub hl [] rfl)
def y_Ru_addFrame : MethodName := ⟨"ClassWorks$Runner", "addFrame", "(III)V"⟩
abbrev b_Ru_addFrame : ByteArray := prog_9_method_15_code
theorem q1008 : Cond.fieldLink "ClassWorks$Runner" 47 "ClassWorks$Runner" "classOf" "[I" ∈ lw_ok := lw_okmem (List.mem_of_getElem? (i := 1008) (by decide +kernel)) rfl
theorem q1011 : Cond.fieldLink "ClassWorks$Runner" 50 "ClassWorks$Runner" "methodOf" "[I" ∈ lw_ok := lw_okmem (List.mem_of_getElem? (i := 1011) (by decide +kernel)) rfl
theorem q1014 : Cond.fieldLink "ClassWorks$Runner" 53 "ClassWorks$Runner" "at" "[I" ∈ lw_ok := lw_okmem (List.mem_of_getElem? (i := 1014) (by decide +kernel)) rfl
theorem q1906 : Cond.methodLink "ClassWorks$Runner" 87 arraycopyName ∈ lw_ok := lw_okmem (List.mem_of_getElem? (i := 1906) (by decide +kernel)) rfl
theorem d_Ru_addFrame_0 : decode b_Ru_addFrame 0 = .ok (.aload_n 0, 1) := by decide +kernel
theorem d_Ru_addFrame_1 : decode b_Ru_addFrame 1 = .ok (.getfield 44, 3) := by decide +kernel
theorem d_Ru_addFrame_4 : decode b_Ru_addFrame 4 = .ok (.bipush 40, 2) := by decide +kernel
theorem d_Ru_addFrame_6 : decode b_Ru_addFrame 6 = .ok (.imul, 1) := by decide +kernel
theorem d_Ru_addFrame_7 : decode b_Ru_addFrame 7 = .ok (.istore 4, 2) := by decide +kernel
theorem d_Ru_addFrame_9 : decode b_Ru_addFrame 9 = .ok (.iconst 0, 1) := by decide +kernel
theorem d_Ru_addFrame_10 : decode b_Ru_addFrame 10 = .ok (.istore 5, 2) := by decide +kernel
theorem d_Ru_addFrame_12 : decode b_Ru_addFrame 12 = .ok (.iload 5, 2) := by decide +kernel
theorem d_Ru_addFrame_14 : decode b_Ru_addFrame 14 = .ok (.bipush 20, 2) := by decide +kernel
theorem d_Ru_addFrame_16 : decode b_Ru_addFrame 16 = .ok (.if_icmp .ge 20, 3) := by decide +kernel
theorem d_Ru_addFrame_19 : decode b_Ru_addFrame 19 = .ok (.aload_n 0, 1) := by decide +kernel
theorem d_Ru_addFrame_20 : decode b_Ru_addFrame 20 = .ok (.getfield 59, 3) := by decide +kernel
theorem d_Ru_addFrame_23 : decode b_Ru_addFrame 23 = .ok (.iload 4, 2) := by decide +kernel
theorem d_Ru_addFrame_25 : decode b_Ru_addFrame 25 = .ok (.iload 5, 2) := by decide +kernel
theorem d_Ru_addFrame_27 : decode b_Ru_addFrame 27 = .ok (.iadd, 1) := by decide +kernel
theorem d_Ru_addFrame_28 : decode b_Ru_addFrame 28 = .ok (.lconst 0, 1) := by decide +kernel
theorem d_Ru_addFrame_29 : decode b_Ru_addFrame 29 = .ok (.lastore, 1) := by decide +kernel
theorem d_Ru_addFrame_30 : decode b_Ru_addFrame 30 = .ok (.iinc 5 1, 3) := by decide +kernel
theorem d_Ru_addFrame_33 : decode b_Ru_addFrame 33 = .ok (.goto (-21), 3) := by decide +kernel
theorem d_Ru_addFrame_36 : decode b_Ru_addFrame 36 = .ok (.aload_n 0, 1) := by decide +kernel
theorem d_Ru_addFrame_37 : decode b_Ru_addFrame 37 = .ok (.getfield 44, 3) := by decide +kernel
theorem d_Ru_addFrame_40 : decode b_Ru_addFrame 40 = .ok (.ifCond .le 66, 3) := by decide +kernel
theorem d_Ru_addFrame_43 : decode b_Ru_addFrame 43 = .ok (.iload_n 3, 1) := by decide +kernel
theorem d_Ru_addFrame_44 : decode b_Ru_addFrame 44 = .ok (.ifCond .le 62, 3) := by decide +kernel
theorem d_Ru_addFrame_47 : decode b_Ru_addFrame 47 = .ok (.aload_n 0, 1) := by decide +kernel
theorem d_Ru_addFrame_48 : decode b_Ru_addFrame 48 = .ok (.getfield 44, 3) := by decide +kernel
theorem d_Ru_addFrame_51 : decode b_Ru_addFrame 51 = .ok (.iconst 1, 1) := by decide +kernel
theorem d_Ru_addFrame_52 : decode b_Ru_addFrame 52 = .ok (.isub, 1) := by decide +kernel
theorem d_Ru_addFrame_53 : decode b_Ru_addFrame 53 = .ok (.bipush 40, 2) := by decide +kernel
theorem d_Ru_addFrame_55 : decode b_Ru_addFrame 55 = .ok (.imul, 1) := by decide +kernel
theorem d_Ru_addFrame_56 : decode b_Ru_addFrame 56 = .ok (.bipush 20, 2) := by decide +kernel
theorem d_Ru_addFrame_58 : decode b_Ru_addFrame 58 = .ok (.iadd, 1) := by decide +kernel
theorem d_Ru_addFrame_59 : decode b_Ru_addFrame 59 = .ok (.aload_n 0, 1) := by decide +kernel
theorem d_Ru_addFrame_60 : decode b_Ru_addFrame 60 = .ok (.getfield 56, 3) := by decide +kernel
theorem d_Ru_addFrame_63 : decode b_Ru_addFrame 63 = .ok (.aload_n 0, 1) := by decide +kernel
theorem d_Ru_addFrame_64 : decode b_Ru_addFrame 64 = .ok (.getfield 44, 3) := by decide +kernel
theorem d_Ru_addFrame_67 : decode b_Ru_addFrame 67 = .ok (.iconst 1, 1) := by decide +kernel
theorem d_Ru_addFrame_68 : decode b_Ru_addFrame 68 = .ok (.isub, 1) := by decide +kernel
theorem d_Ru_addFrame_69 : decode b_Ru_addFrame 69 = .ok (.iaload, 1) := by decide +kernel
theorem d_Ru_addFrame_70 : decode b_Ru_addFrame 70 = .ok (.iadd, 1) := by decide +kernel
theorem d_Ru_addFrame_71 : decode b_Ru_addFrame 71 = .ok (.iload_n 3, 1) := by decide +kernel
theorem d_Ru_addFrame_72 : decode b_Ru_addFrame 72 = .ok (.isub, 1) := by decide +kernel
theorem d_Ru_addFrame_73 : decode b_Ru_addFrame 73 = .ok (.istore 5, 2) := by decide +kernel
theorem d_Ru_addFrame_75 : decode b_Ru_addFrame 75 = .ok (.aload_n 0, 1) := by decide +kernel
theorem d_Ru_addFrame_76 : decode b_Ru_addFrame 76 = .ok (.getfield 59, 3) := by decide +kernel
theorem d_Ru_addFrame_79 : decode b_Ru_addFrame 79 = .ok (.iload 5, 2) := by decide +kernel
theorem d_Ru_addFrame_81 : decode b_Ru_addFrame 81 = .ok (.aload_n 0, 1) := by decide +kernel
theorem d_Ru_addFrame_82 : decode b_Ru_addFrame 82 = .ok (.getfield 59, 3) := by decide +kernel
theorem d_Ru_addFrame_85 : decode b_Ru_addFrame 85 = .ok (.iload 4, 2) := by decide +kernel
theorem d_Ru_addFrame_87 : decode b_Ru_addFrame 87 = .ok (.iload_n 3, 1) := by decide +kernel
theorem d_Ru_addFrame_88 : decode b_Ru_addFrame 88 = .ok (.invokestatic 87, 3) := by decide +kernel
theorem d_Ru_addFrame_91 : decode b_Ru_addFrame 91 = .ok (.aload_n 0, 1) := by decide +kernel
theorem d_Ru_addFrame_92 : decode b_Ru_addFrame 92 = .ok (.getfield 56, 3) := by decide +kernel
theorem d_Ru_addFrame_95 : decode b_Ru_addFrame 95 = .ok (.aload_n 0, 1) := by decide +kernel
theorem d_Ru_addFrame_96 : decode b_Ru_addFrame 96 = .ok (.getfield 44, 3) := by decide +kernel
theorem d_Ru_addFrame_99 : decode b_Ru_addFrame 99 = .ok (.iconst 1, 1) := by decide +kernel
theorem d_Ru_addFrame_100 : decode b_Ru_addFrame 100 = .ok (.isub, 1) := by decide +kernel
theorem d_Ru_addFrame_101 : decode b_Ru_addFrame 101 = .ok (.dup2, 1) := by decide +kernel
theorem d_Ru_addFrame_102 : decode b_Ru_addFrame 102 = .ok (.iaload, 1) := by decide +kernel
theorem d_Ru_addFrame_103 : decode b_Ru_addFrame 103 = .ok (.iload_n 3, 1) := by decide +kernel
theorem d_Ru_addFrame_104 : decode b_Ru_addFrame 104 = .ok (.isub, 1) := by decide +kernel
theorem d_Ru_addFrame_105 : decode b_Ru_addFrame 105 = .ok (.iastore, 1) := by decide +kernel
theorem d_Ru_addFrame_106 : decode b_Ru_addFrame 106 = .ok (.aload_n 0, 1) := by decide +kernel
theorem d_Ru_addFrame_107 : decode b_Ru_addFrame 107 = .ok (.getfield 47, 3) := by decide +kernel
theorem d_Ru_addFrame_110 : decode b_Ru_addFrame 110 = .ok (.aload_n 0, 1) := by decide +kernel
theorem d_Ru_addFrame_111 : decode b_Ru_addFrame 111 = .ok (.getfield 44, 3) := by decide +kernel
theorem d_Ru_addFrame_114 : decode b_Ru_addFrame 114 = .ok (.iload_n 1, 1) := by decide +kernel
theorem d_Ru_addFrame_115 : decode b_Ru_addFrame 115 = .ok (.iastore, 1) := by decide +kernel
theorem d_Ru_addFrame_116 : decode b_Ru_addFrame 116 = .ok (.aload_n 0, 1) := by decide +kernel
theorem d_Ru_addFrame_117 : decode b_Ru_addFrame 117 = .ok (.getfield 50, 3) := by decide +kernel
theorem d_Ru_addFrame_120 : decode b_Ru_addFrame 120 = .ok (.aload_n 0, 1) := by decide +kernel
theorem d_Ru_addFrame_121 : decode b_Ru_addFrame 121 = .ok (.getfield 44, 3) := by decide +kernel
theorem d_Ru_addFrame_124 : decode b_Ru_addFrame 124 = .ok (.iload_n 2, 1) := by decide +kernel
theorem d_Ru_addFrame_125 : decode b_Ru_addFrame 125 = .ok (.iastore, 1) := by decide +kernel
theorem d_Ru_addFrame_126 : decode b_Ru_addFrame 126 = .ok (.aload_n 0, 1) := by decide +kernel
theorem d_Ru_addFrame_127 : decode b_Ru_addFrame 127 = .ok (.getfield 53, 3) := by decide +kernel
theorem d_Ru_addFrame_130 : decode b_Ru_addFrame 130 = .ok (.aload_n 0, 1) := by decide +kernel
theorem d_Ru_addFrame_131 : decode b_Ru_addFrame 131 = .ok (.getfield 44, 3) := by decide +kernel
theorem d_Ru_addFrame_134 : decode b_Ru_addFrame 134 = .ok (.iconst 0, 1) := by decide +kernel
theorem d_Ru_addFrame_135 : decode b_Ru_addFrame 135 = .ok (.iastore, 1) := by decide +kernel
theorem d_Ru_addFrame_136 : decode b_Ru_addFrame 136 = .ok (.aload_n 0, 1) := by decide +kernel
theorem d_Ru_addFrame_137 : decode b_Ru_addFrame 137 = .ok (.getfield 56, 3) := by decide +kernel
theorem d_Ru_addFrame_140 : decode b_Ru_addFrame 140 = .ok (.aload_n 0, 1) := by decide +kernel
theorem d_Ru_addFrame_141 : decode b_Ru_addFrame 141 = .ok (.getfield 44, 3) := by decide +kernel
theorem d_Ru_addFrame_144 : decode b_Ru_addFrame 144 = .ok (.iconst 0, 1) := by decide +kernel
theorem d_Ru_addFrame_145 : decode b_Ru_addFrame 145 = .ok (.iastore, 1) := by decide +kernel
theorem d_Ru_addFrame_146 : decode b_Ru_addFrame 146 = .ok (.aload_n 0, 1) := by decide +kernel
theorem d_Ru_addFrame_147 : decode b_Ru_addFrame 147 = .ok (.dup, 1) := by decide +kernel
theorem d_Ru_addFrame_148 : decode b_Ru_addFrame 148 = .ok (.getfield 44, 3) := by decide +kernel
theorem d_Ru_addFrame_151 : decode b_Ru_addFrame 151 = .ok (.iconst 1, 1) := by decide +kernel
theorem d_Ru_addFrame_152 : decode b_Ru_addFrame 152 = .ok (.iadd, 1) := by decide +kernel
theorem d_Ru_addFrame_153 : decode b_Ru_addFrame 153 = .ok (.putfield 44, 3) := by decide +kernel
theorem d_Ru_addFrame_156 : decode b_Ru_addFrame 156 = .ok (.return_, 1) := by decide +kernel
abbrev ru_Ru_addFrame : Room := { frames := 1, cells := 0, slots := 0, locals := 120 }
def wj_Ru_addFrame_106 (y : Ly) (Post : St → Prop) (a0 : Nat) (s_j106 : St) (x1j106 : Int32) (x2j106 : Int32) : Prop := xS y s_j106 a0 11 (sV s_j106 a0 10) x1j106 (fun s_1 : St => xS y s_1 a0 12 (sV s_1 a0 10) x2j106 (fun s_2 : St => xS y s_2 a0 13 (sV s_2 a0 10) 0 (fun s_3 : St => xS y s_3 a0 14 (sV s_3 a0 10) 0 (fun s_4 : St => xP (uV s_4 a0 10 ((sV s_4 a0 10) + 1)) (fun s_5 : St => Post s_5)))))
def wb_Ru_addFrame_12 (y : Ly) (Post : St → Prop) (K_12 : St → Int32 → Int32 → Int32 → Int32 → Int32 → Prop) (a0 : Nat) (s_h12 : St) (x1h12 : Int32) (x2h12 : Int32) (x3h12 : Int32) (x4h12 : Int32) (x5h12 : Int32) : Prop := ((20 ≤ x5h12 → (((sV s_h12 a0 10) ≤ 0 → wj_Ru_addFrame_106 y Post a0 s_h12 x1h12 x2h12) ∧ (¬ ((sV s_h12 a0 10) ≤ 0) → ((x3h12 ≤ 0 → wj_Ru_addFrame_106 y Post a0 s_h12 x1h12 x2h12) ∧ (¬ (x3h12 ≤ 0) → xA y s_h12 a0 14 ((sV s_h12 a0 10) - 1) (fun x_6 : Int32 => xD y s_h12 a0 15 a0 15  ((((((sV s_h12 a0 10) - 1) * 40) + 20) + x_6) - x3h12) x4h12 x3h12 (fun s_7 : St => xA y s_7 a0 14 ((sV s_7 a0 10) - 1) (fun x_8 : Int32 => xS y s_7 a0 14 ((sV s_7 a0 10) - 1) (x_8 - x3h12) (fun s_9 : St => wj_Ru_addFrame_106 y Post a0 s_9 x1h12 x2h12))))))))) ∧ (¬ (20 ≤ x5h12) → xT y s_h12 a0 15 (x4h12 + x5h12) 0 (fun s_10 : St => K_12 s_10 x1h12 x2h12 x3h12 x4h12 (x5h12 + 1))))
def wl_Ru_addFrame_12 (y : Ly) (Post : St → Prop) (a0 : Nat) (s_h12 : St) (x1h12 : Int32) (x2h12 : Int32) (x3h12 : Int32) (x4h12 : Int32) (x5h12 : Int32) : Prop := ∃ (I : St → Int32 → Int32 → Int32 → Int32 → Int32 → Prop) (μ : St → Int32 → Int32 → Int32 → Int32 → Int32 → Nat), I s_h12 x1h12 x2h12 x3h12 x4h12 x5h12 ∧ ∀ (u : St) (t0 : Int32) (t1 : Int32) (t2 : Int32) (t3 : Int32) (t4 : Int32), I u t0 t1 t2 t3 t4 → wb_Ru_addFrame_12 y Post (fun z t0q t1q t2q t3q t4q => I z t0q t1q t2q t3q t4q ∧ μ z t0q t1q t2q t3q t4q < μ u t0 t1 t2 t3 t4) a0 u t0 t1 t2 t3 t4
def wu_Ru_addFrame (y : Ly) (Post : St → Prop) (σ : St) (a0 : Nat) (v1 : Int32) (v2 : Int32) (v3 : Int32) : Prop := wl_Ru_addFrame_12 y Post a0 σ v1 v2 v3 ((sV σ a0 10) * 40) 0
set_option maxHeartbeats 4000000 in
set_option maxRecDepth 100000 in
theorem cu_Ru_addFrame (l : Launch) (D : va_G) (g : Nat → ClassId) (ad : Nat → Nat) (y : Ly) (Post : St → Prop) (σ : St) (a0 : Nat) (v1 : Int32) (v2 : Int32) (v3 : Int32) (sz : Nat) (h_a0 : cl a0 = 7) (h : wu_Ru_addFrame y Post σ a0 v1 v2 v3) : Met l y_Ru_addFrame (mw y_Ru_addFrame b_Ru_addFrame 6 (none)) ru_Ru_addFrame (PC g D [] [.ref (ad a0), .int v1, .int v2, .int v3] sz (ws g ad y σ)) (va_Qv (fun u : St => Post u) (QW D (va_A (ws g ad y σ) sz) (fun u => ws g ad y u)) (va_A (ws g ad y σ) sz)) 0 0 (va_A (ws g ad y σ) sz) := by
  refine ofV (by decide +kernel) (Nat.le_of_ble_eq_true rfl) ?_
  intro p e s m args below meth c A Q ls H locs G hsz hP hD hS hl hret
  subst hsz
  have hl : lv_has ls 6 [(0, .ref (ad a0)), (1, .int v1), (2, .int v2), (3, .int v3)] := hl
  unfold wu_Ru_addFrame at h
  refine lv_aload_n G.1 G.2.1 d_Ru_addFrame_0 rfl (lv_at hl 0 rfl) ?_
  refine ugf (v := .int (sV σ a0 10)) G hP h_a0 iRu rfl 10 (by decide) rfl q1005 rfl rfl d_Ru_addFrame_1 ?_
  refine lv_bipush (v := 40) G.1 G.2.1 d_Ru_addFrame_4 (by decide) ?_
  refine lv_imul G.1 G.2.1 d_Ru_addFrame_6 ?_
  refine lv_istore (lv' := [(4, .int ((sV σ a0 10) * 40)), (0, .ref (ad a0)), (1, .int v1), (2, .int v2), (3, .int v3)]) G.1 G.2.1 d_Ru_addFrame_7 hl (by decide) rfl (fun ls hl => ?_)
  refine lv_iconst (v := 0) G.1 G.2.1 d_Ru_addFrame_9 (by decide) ?_
  refine lv_istore (lv' := [(5, .int 0), (4, .int ((sV σ a0 10) * 40)), (0, .ref (ad a0)), (1, .int v1), (2, .int v2), (3, .int v3)]) G.1 G.2.1 d_Ru_addFrame_10 hl (by decide) rfl (fun ls hl => ?_)
  unfold wl_Ru_addFrame_12 at h
  obtain ⟨I_12, μ_12, hI_12, hB_12⟩ := h
  have L_12 : ∀ (n_12 : Nat) (s_h12 : St) (x1h12 : Int32) (x2h12 : Int32) (x3h12 : Int32) (x4h12 : Int32) (x5h12 : Int32), μ_12 s_h12 x1h12 x2h12 x3h12 x4h12 x5h12 < n_12 → I_12 s_h12 x1h12 x2h12 x3h12 x4h12 x5h12 → ∀ (H : Heap) (locs : List Loc), va_P D CL (ws g ad y s_h12) H → va_D A (ws g ad y s_h12) → va_S A s.heap H locs → ∀ ls, lv_has ls 6 [(0, .ref (ad a0)), (1, .int x1h12), (2, .int x2h12), (3, .int x3h12), (4, .int x4h12), (5, .int x5h12)] → W p l e ru_Ru_addFrame s m args below meth c H locs 0 0 Q (F0 m 12 ls []) := by
    intro n_12
    induction n_12 with
    | zero => intro s_h12 x1h12 x2h12 x3h12 x4h12 x5h12 hμ; exact absurd hμ (Nat.not_lt_zero _)
    | succ n_12 ih_12 =>
      intro s_h12 x1h12 x2h12 x3h12 x4h12 x5h12 hμ_12 hJ H locs hP hD hS ls hl
      obtain ⟨K_12, hK_12, h⟩ : ∃ K : St → Int32 → Int32 → Int32 → Int32 → Int32 → Prop, (∀ z (t0 : Int32) (t1 : Int32) (t2 : Int32) (t3 : Int32) (t4 : Int32), K z t0 t1 t2 t3 t4 → I_12 z t0 t1 t2 t3 t4 ∧ μ_12 z t0 t1 t2 t3 t4 < μ_12 s_h12 x1h12 x2h12 x3h12 x4h12 x5h12) ∧ wb_Ru_addFrame_12 y Post K a0 s_h12 x1h12 x2h12 x3h12 x4h12 x5h12 := ⟨_, fun _ _ _ _ _ _ h => h, hB_12 s_h12 x1h12 x2h12 x3h12 x4h12 x5h12 hJ⟩
      unfold wb_Ru_addFrame_12 at h
      refine lv_iload G.1 G.2.1 d_Ru_addFrame_12 (lv_at hl 5 rfl) ?_
      refine lv_bipush (v := 20) G.1 G.2.1 d_Ru_addFrame_14 (by decide) ?_
      refine lv_icmp_ge (tgt := 36) G.1 G.2.1 d_Ru_addFrame_16 (by decide) (fun c16 => ?_) (fun c16 => ?_)
      · skip
        have h := h.1 c16
        refine lv_aload_n G.1 G.2.1 d_Ru_addFrame_36 rfl (lv_at hl 0 rfl) ?_
        refine ugf (v := .int (sV s_h12 a0 10)) G hP h_a0 iRu rfl 10 (by decide) rfl q1005 rfl rfl d_Ru_addFrame_37 ?_
        have J_106 : ∀ (s_j106 : St) (x1j106 : Int32) (x2j106 : Int32) (H : Heap) (locs : List Loc), wj_Ru_addFrame_106 y Post a0 s_j106 x1j106 x2j106 → va_P D CL (ws g ad y s_j106) H → va_D A (ws g ad y s_j106) → va_S A s.heap H locs → ∀ ls, lv_has ls 6 [(0, .ref (ad a0)), (1, .int x1j106), (2, .int x2j106)] → W p l e ru_Ru_addFrame s m args below meth c H locs 0 0 Q (F0 m 106 ls []) := by
          intro s_j106 x1j106 x2j106 H locs h hP hD hS ls hl
          unfold wj_Ru_addFrame_106 at h
          refine lv_aload_n G.1 G.2.1 d_Ru_addFrame_106 rfl (lv_at hl 0 rfl) ?_
          refine ugf (v := .ref (yP y a0 11)) G hP h_a0 iRu rfl 11 (by decide) rfl q1008 rfl rfl d_Ru_addFrame_107 ?_
          refine lv_aload_n G.1 G.2.1 d_Ru_addFrame_110 rfl (lv_at hl 0 rfl) ?_
          refine ugf (v := .int (sV s_j106 a0 10)) G hP h_a0 iRu rfl 10 (by decide) rfl q1005 rfl rfl d_Ru_addFrame_111 ?_
          refine lv_iload_n G.1 G.2.1 d_Ru_addFrame_114 rfl (lv_at hl 1 rfl) ?_
          refine uiast G hP hD hS (kdp h_a0 rfl) (typ h_a0 rfl) h d_Ru_addFrame_115 (fun s_1 H locs h hP hD hS => ?_)
          refine lv_aload_n G.1 G.2.1 d_Ru_addFrame_116 rfl (lv_at hl 0 rfl) ?_
          refine ugf (v := .ref (yP y a0 12)) G hP h_a0 iRu rfl 12 (by decide) rfl q1011 rfl rfl d_Ru_addFrame_117 ?_
          refine lv_aload_n G.1 G.2.1 d_Ru_addFrame_120 rfl (lv_at hl 0 rfl) ?_
          refine ugf (v := .int (sV s_1 a0 10)) G hP h_a0 iRu rfl 10 (by decide) rfl q1005 rfl rfl d_Ru_addFrame_121 ?_
          refine lv_iload_n G.1 G.2.1 d_Ru_addFrame_124 rfl (lv_at hl 2 rfl) ?_
          refine W.eq (g2 := F0 m 125 ls [.int x2j106, .int (sV s_1 a0 10), .ref (yP y a0 12)]) rfl ?_
          refine uiast G hP hD hS (kdp h_a0 rfl) (typ h_a0 rfl) h d_Ru_addFrame_125 (fun s_2 H locs h hP hD hS => ?_)
          refine lv_aload_n G.1 G.2.1 d_Ru_addFrame_126 rfl (lv_at hl 0 rfl) ?_
          refine ugf (v := .ref (yP y a0 13)) G hP h_a0 iRu rfl 13 (by decide) rfl q1014 rfl rfl d_Ru_addFrame_127 ?_
          refine lv_aload_n G.1 G.2.1 d_Ru_addFrame_130 rfl (lv_at hl 0 rfl) ?_
          refine ugf (v := .int (sV s_2 a0 10)) G hP h_a0 iRu rfl 10 (by decide) rfl q1005 rfl rfl d_Ru_addFrame_131 ?_
          refine lv_iconst (v := 0) G.1 G.2.1 d_Ru_addFrame_134 (by decide) ?_
          refine uiast G hP hD hS (kdp h_a0 rfl) (typ h_a0 rfl) h d_Ru_addFrame_135 (fun s_3 H locs h hP hD hS => ?_)
          refine lv_aload_n G.1 G.2.1 d_Ru_addFrame_136 rfl (lv_at hl 0 rfl) ?_
          refine ugf (v := .ref (yP y a0 14)) G hP h_a0 iRu rfl 14 (by decide) rfl q1017 rfl rfl d_Ru_addFrame_137 ?_
          refine lv_aload_n G.1 G.2.1 d_Ru_addFrame_140 rfl (lv_at hl 0 rfl) ?_
          refine ugf (v := .int (sV s_3 a0 10)) G hP h_a0 iRu rfl 10 (by decide) rfl q1005 rfl rfl d_Ru_addFrame_141 ?_
          refine lv_iconst (v := 0) G.1 G.2.1 d_Ru_addFrame_144 (by decide) ?_
          refine W.eq (g2 := F0 m 145 ls [.int 0, .int (sV s_3 a0 10), .ref (yP y a0 14)]) rfl ?_
          refine uiast G hP hD hS (kdp h_a0 rfl) (typ h_a0 rfl) h d_Ru_addFrame_145 (fun s_4 H locs h hP hD hS => ?_)
          refine lv_aload_n G.1 G.2.1 d_Ru_addFrame_146 rfl (lv_at hl 0 rfl) ?_
          refine lv_dup G.1 G.2.1 d_Ru_addFrame_147 rfl ?_
          refine ugf (v := .int (sV s_4 a0 10)) G hP h_a0 iRu rfl 10 (by decide) rfl q1005 rfl rfl d_Ru_addFrame_148 ?_
          refine lv_iconst (v := 1) G.1 G.2.1 d_Ru_addFrame_151 (by decide) ?_
          refine lv_iadd G.1 G.2.1 d_Ru_addFrame_152 ?_
          refine upf G hP hD hS h 10 putV h_a0 iRu tRu tRu_ok nRu rfl (by decide) rfl q1005 rfl rfl fV rfl rfl d_Ru_addFrame_153 (fun s_5 H locs h hP hD hS => ?_)
          exact hret _ _ _ _ _ _ ls h hP hD hS (Nat.le_refl _) (Nat.le_refl _) d_Ru_addFrame_156
        refine lv_if_le (tgt := 106) G.1 G.2.1 d_Ru_addFrame_40 (by decide) (fun c40 => ?_) (fun c40 => ?_)
        · skip
          have h := h.1 c40
          exact J_106 s_h12 x1h12 x2h12 H locs h hP hD hS ls (lv_sub hl [0, 1, 2] rfl)
        · skip
          have h := h.2 c40
          refine lv_iload_n G.1 G.2.1 d_Ru_addFrame_43 rfl (lv_at hl 3 rfl) ?_
          refine lv_if_le (tgt := 106) G.1 G.2.1 d_Ru_addFrame_44 (by decide) (fun c44 => ?_) (fun c44 => ?_)
          · skip
            have h := h.1 c44
            exact J_106 s_h12 x1h12 x2h12 H locs h hP hD hS ls (lv_sub hl [0, 1, 2] rfl)
          · skip
            have h := h.2 c44
            refine lv_aload_n G.1 G.2.1 d_Ru_addFrame_47 rfl (lv_at hl 0 rfl) ?_
            refine ugf (v := .int (sV s_h12 a0 10)) G hP h_a0 iRu rfl 10 (by decide) rfl q1005 rfl rfl d_Ru_addFrame_48 ?_
            refine lv_iconst (v := 1) G.1 G.2.1 d_Ru_addFrame_51 (by decide) ?_
            refine W.eq (g2 := F0 m 52 ls [.int 1, .int (sV s_h12 a0 10)]) rfl ?_
            refine lv_isub G.1 G.2.1 d_Ru_addFrame_52 ?_
            refine lv_bipush (v := 40) G.1 G.2.1 d_Ru_addFrame_53 (by decide) ?_
            refine lv_imul G.1 G.2.1 d_Ru_addFrame_55 ?_
            refine lv_bipush (v := 20) G.1 G.2.1 d_Ru_addFrame_56 (by decide) ?_
            refine lv_iadd G.1 G.2.1 d_Ru_addFrame_58 ?_
            refine lv_aload_n G.1 G.2.1 d_Ru_addFrame_59 rfl (lv_at hl 0 rfl) ?_
            refine ugf (v := .ref (yP y a0 14)) G hP h_a0 iRu rfl 14 (by decide) rfl q1017 rfl rfl d_Ru_addFrame_60 ?_
            refine lv_aload_n G.1 G.2.1 d_Ru_addFrame_63 rfl (lv_at hl 0 rfl) ?_
            refine ugf (v := .int (sV s_h12 a0 10)) G hP h_a0 iRu rfl 10 (by decide) rfl q1005 rfl rfl d_Ru_addFrame_64 ?_
            refine lv_iconst (v := 1) G.1 G.2.1 d_Ru_addFrame_67 (by decide) ?_
            refine lv_isub G.1 G.2.1 d_Ru_addFrame_68 ?_
            refine uiald G hP (kdp h_a0 rfl) (typ h_a0 rfl) h d_Ru_addFrame_69 (fun x_6 h => ?_)
            refine W.eq (g2 := F0 m 70 ls [.int x_6, .int ((((sV s_h12 a0 10) - 1) * 40) + 20)]) rfl ?_
            refine lv_iadd G.1 G.2.1 d_Ru_addFrame_70 ?_
            refine lv_iload_n G.1 G.2.1 d_Ru_addFrame_71 rfl (lv_at hl 3 rfl) ?_
            refine lv_isub G.1 G.2.1 d_Ru_addFrame_72 ?_
            refine lv_istore (lv' := [(5, .int ((((((sV s_h12 a0 10) - 1) * 40) + 20) + x_6) - x3h12)), (0, .ref (ad a0)), (1, .int x1h12), (2, .int x2h12), (3, .int x3h12), (4, .int x4h12)]) G.1 G.2.1 d_Ru_addFrame_73 hl (by decide) rfl (fun ls hl => ?_)
            refine lv_aload_n G.1 G.2.1 d_Ru_addFrame_75 rfl (lv_at hl 1 rfl) ?_
            refine ugf (v := .ref (yP y a0 15)) G hP h_a0 iRu rfl 15 (by decide) rfl q1020 rfl rfl d_Ru_addFrame_76 ?_
            refine lv_iload G.1 G.2.1 d_Ru_addFrame_79 (lv_at hl 0 rfl) ?_
            refine lv_aload_n G.1 G.2.1 d_Ru_addFrame_81 rfl (lv_at hl 1 rfl) ?_
            refine ugf (v := .ref (yP y a0 15)) G hP h_a0 iRu rfl 15 (by decide) rfl q1020 rfl rfl d_Ru_addFrame_82 ?_
            refine lv_iload G.1 G.2.1 d_Ru_addFrame_85 (lv_at hl 5 rfl) ?_
            refine lv_iload_n G.1 G.2.1 d_Ru_addFrame_87 rfl (lv_at hl 4 rfl) ?_
            refine ucpl G hP hD hS (kdp h_a0 rfl) (typ h_a0 rfl) (kdp h_a0 rfl) (typ h_a0 rfl) h hl.1 q1906 q488 q487 q338 (Nat.le_of_ble_eq_true rfl) (Nat.le_of_ble_eq_true rfl) d_Ru_addFrame_88 (fun s_7 H locs h hP hD hS => ?_)
            refine W.eq (g2 := F0 m 91 ls []) rfl ?_
            refine lv_aload_n G.1 G.2.1 d_Ru_addFrame_91 rfl (lv_at hl 1 rfl) ?_
            refine ugf (v := .ref (yP y a0 14)) G hP h_a0 iRu rfl 14 (by decide) rfl q1017 rfl rfl d_Ru_addFrame_92 ?_
            refine lv_aload_n G.1 G.2.1 d_Ru_addFrame_95 rfl (lv_at hl 1 rfl) ?_
            refine ugf (v := .int (sV s_7 a0 10)) G hP h_a0 iRu rfl 10 (by decide) rfl q1005 rfl rfl d_Ru_addFrame_96 ?_
            refine lv_iconst (v := 1) G.1 G.2.1 d_Ru_addFrame_99 (by decide) ?_
            refine lv_isub G.1 G.2.1 d_Ru_addFrame_100 ?_
            refine lv_dup2_11 G.1 G.2.1 d_Ru_addFrame_101 rfl rfl ?_
            refine uiald G hP (kdp h_a0 rfl) (typ h_a0 rfl) h d_Ru_addFrame_102 (fun x_8 h => ?_)
            refine lv_iload_n G.1 G.2.1 d_Ru_addFrame_103 rfl (lv_at hl 4 rfl) ?_
            refine lv_isub G.1 G.2.1 d_Ru_addFrame_104 ?_
            refine uiast G hP hD hS (kdp h_a0 rfl) (typ h_a0 rfl) h d_Ru_addFrame_105 (fun s_9 H locs h hP hD hS => ?_)
            exact J_106 s_9 x1h12 x2h12 H locs h hP hD hS ls (lv_sub hl [1, 2, 3] rfl)
      · skip
        have h := h.2 c16
        refine lv_aload_n G.1 G.2.1 d_Ru_addFrame_19 rfl (lv_at hl 0 rfl) ?_
        refine ugf (v := .ref (yP y a0 15)) G hP h_a0 iRu rfl 15 (by decide) rfl q1020 rfl rfl d_Ru_addFrame_20 ?_
        refine lv_iload G.1 G.2.1 d_Ru_addFrame_23 (lv_at hl 4 rfl) ?_
        refine lv_iload G.1 G.2.1 d_Ru_addFrame_25 (lv_at hl 5 rfl) ?_
        refine lv_iadd G.1 G.2.1 d_Ru_addFrame_27 ?_
        refine lv_lconst (v := 0) G.1 G.2.1 d_Ru_addFrame_28 (by decide) ?_
        refine ulast G hP hD hS (kdp h_a0 rfl) (typ h_a0 rfl) h d_Ru_addFrame_29 (fun s_10 H locs h hP hD hS => ?_)
        refine lv_iinc (v := x5h12 + 1) (lv' := [(5, .int (x5h12 + 1)), (0, .ref (ad a0)), (1, .int x1h12), (2, .int x2h12), (3, .int x3h12), (4, .int x4h12)]) G.1 G.2.1 d_Ru_addFrame_30 hl (k := 5) rfl rfl (by decide) rfl (fun ls hl => ?_)
        refine W.eq (g2 := F0 m 33 ls []) rfl ?_
        refine lv_goto (tgt := 12) G.1 G.2.1 d_Ru_addFrame_33 (by decide) ?_
        have h := hK_12 s_10 x1h12 x2h12 x3h12 x4h12 (x5h12 + 1) h
        exact ih_12 s_10 x1h12 x2h12 x3h12 x4h12 (x5h12 + 1) (Nat.lt_of_lt_of_le h.2 (Nat.le_of_lt_succ hμ_12)) h.1 H locs hP hD hS ls (lv_sub hl [1, 2, 3, 4, 5, 0] rfl)
  exact L_12 _ σ v1 v2 v3 ((sV σ a0 10) * 40) 0 (Nat.lt_succ_self _) hI_12 H locs hP hD hS ls (lv_sub hl [2, 3, 4, 5, 1, 0] rfl)
theorem q1880 : Cond.methodLink "ClassWorks$Machine" 307 y_Na_argumentsOf ∈ lw_ok := lw_okmem (List.mem_of_getElem? (i := 1880) (by decide +kernel)) rfl
theorem q1902 : Cond.methodLink "ClassWorks$Machine" 298 y_Ru_addFrame ∈ lw_ok := lw_okmem (List.mem_of_getElem? (i := 1902) (by decide +kernel)) rfl
theorem q1905 : Cond.code y_Ru_addFrame b_Ru_addFrame 6 (none) ∈ lw_ok := lw_okmem (List.mem_of_getElem? (i := 1905) (by decide +kernel)) rfl
theorem q1903 : Cond.instanceMethod y_Ru_addFrame ∈ lw_ok := lw_okmem (List.mem_of_getElem? (i := 1903) (by decide +kernel)) rfl
theorem q1904 : Cond.selects y_Ru_addFrame.cls y_Ru_addFrame y_Ru_addFrame ∈ lw_ok := lw_okmem (List.mem_of_getElem? (i := 1904) (by decide +kernel)) rfl
theorem w9_Ru_addFrame : CWv y_Ru_addFrame b_Ru_addFrame 6 (none) 3 ∧ Cond.instanceMethod y_Ru_addFrame ∈ lw_ok ∧ Cond.selects y_Ru_addFrame.cls y_Ru_addFrame y_Ru_addFrame ∈ lw_ok := ⟨⟨q1905, q347, by decide +kernel, by decide +kernel, by decide +kernel⟩, q1903, q1904⟩
def y_Ma_enterMethod : MethodName := ⟨"ClassWorks$Machine", "enterMethod", "(LClassWorks$Runner;II)I"⟩
abbrev b_Ma_enterMethod : ByteArray := prog_6_method_41_code
theorem q1881 : Cond.methodLink "ClassWorks$Machine" 443 y_Fi_isFound ∈ lw_ok := lw_okmem (List.mem_of_getElem? (i := 1881) (by decide +kernel)) rfl
theorem q1893 : Cond.methodLink "ClassWorks$Machine" 447 y_Fi_seekForObject ∈ lw_ok := lw_okmem (List.mem_of_getElem? (i := 1893) (by decide +kernel)) rfl
theorem q1897 : Cond.methodLink "ClassWorks$Machine" 451 y_Fi_seekInFaces ∈ lw_ok := lw_okmem (List.mem_of_getElem? (i := 1897) (by decide +kernel)) rfl
theorem d_Ma_enterMethod_0 : decode b_Ma_enterMethod 0 = .ok (.aload_n 0, 1) := by decide +kernel
theorem d_Ma_enterMethod_1 : decode b_Ma_enterMethod 1 = .ok (.getfield 69, 3) := by decide +kernel
theorem d_Ma_enterMethod_4 : decode b_Ma_enterMethod 4 = .ok (.getfield 224, 3) := by decide +kernel
theorem d_Ma_enterMethod_7 : decode b_Ma_enterMethod 7 = .ok (.getfield 228, 3) := by decide +kernel
theorem d_Ma_enterMethod_10 : decode b_Ma_enterMethod 10 = .ok (.iload_n 3, 1) := by decide +kernel
theorem d_Ma_enterMethod_11 : decode b_Ma_enterMethod 11 = .ok (.iaload, 1) := by decide +kernel
theorem d_Ma_enterMethod_12 : decode b_Ma_enterMethod 12 = .ok (.istore 4, 2) := by decide +kernel
theorem d_Ma_enterMethod_14 : decode b_Ma_enterMethod 14 = .ok (.aload_n 0, 1) := by decide +kernel
theorem d_Ma_enterMethod_15 : decode b_Ma_enterMethod 15 = .ok (.getfield 69, 3) := by decide +kernel
theorem d_Ma_enterMethod_18 : decode b_Ma_enterMethod 18 = .ok (.getfield 224, 3) := by decide +kernel
theorem d_Ma_enterMethod_21 : decode b_Ma_enterMethod 21 = .ok (.getfield 228, 3) := by decide +kernel
theorem d_Ma_enterMethod_24 : decode b_Ma_enterMethod 24 = .ok (.iload_n 3, 1) := by decide +kernel
theorem d_Ma_enterMethod_25 : decode b_Ma_enterMethod 25 = .ok (.iconst 2, 1) := by decide +kernel
theorem d_Ma_enterMethod_26 : decode b_Ma_enterMethod 26 = .ok (.iadd, 1) := by decide +kernel
theorem d_Ma_enterMethod_27 : decode b_Ma_enterMethod 27 = .ok (.iaload, 1) := by decide +kernel
theorem d_Ma_enterMethod_28 : decode b_Ma_enterMethod 28 = .ok (.istore 5, 2) := by decide +kernel
theorem d_Ma_enterMethod_30 : decode b_Ma_enterMethod 30 = .ok (.aload_n 0, 1) := by decide +kernel
theorem d_Ma_enterMethod_31 : decode b_Ma_enterMethod 31 = .ok (.getfield 77, 3) := by decide +kernel
theorem d_Ma_enterMethod_34 : decode b_Ma_enterMethod 34 = .ok (.iload 5, 2) := by decide +kernel
theorem d_Ma_enterMethod_36 : decode b_Ma_enterMethod 36 = .ok (.invokevirtual 307, 3) := by decide +kernel
theorem d_Ma_enterMethod_39 : decode b_Ma_enterMethod 39 = .ok (.iload 4, 2) := by decide +kernel
theorem d_Ma_enterMethod_41 : decode b_Ma_enterMethod 41 = .ok (.bipush 52, 2) := by decide +kernel
theorem d_Ma_enterMethod_43 : decode b_Ma_enterMethod 43 = .ok (.if_icmp .ne 7, 3) := by decide +kernel
theorem d_Ma_enterMethod_46 : decode b_Ma_enterMethod 46 = .ok (.iconst 0, 1) := by decide +kernel
theorem d_Ma_enterMethod_47 : decode b_Ma_enterMethod 47 = .ok (.goto 4, 3) := by decide +kernel
theorem d_Ma_enterMethod_50 : decode b_Ma_enterMethod 50 = .ok (.iconst 1, 1) := by decide +kernel
theorem d_Ma_enterMethod_51 : decode b_Ma_enterMethod 51 = .ok (.iadd, 1) := by decide +kernel
theorem d_Ma_enterMethod_52 : decode b_Ma_enterMethod 52 = .ok (.istore 6, 2) := by decide +kernel
theorem d_Ma_enterMethod_54 : decode b_Ma_enterMethod 54 = .ok (.iload 4, 2) := by decide +kernel
theorem d_Ma_enterMethod_56 : decode b_Ma_enterMethod 56 = .ok (.bipush 52, 2) := by decide +kernel
theorem d_Ma_enterMethod_58 : decode b_Ma_enterMethod 58 = .ok (.if_icmp .eq 163, 3) := by decide +kernel
theorem d_Ma_enterMethod_61 : decode b_Ma_enterMethod 61 = .ok (.aload_n 1, 1) := by decide +kernel
theorem d_Ma_enterMethod_62 : decode b_Ma_enterMethod 62 = .ok (.iload 6, 2) := by decide +kernel
theorem d_Ma_enterMethod_64 : decode b_Ma_enterMethod 64 = .ok (.iconst 1, 1) := by decide +kernel
theorem d_Ma_enterMethod_65 : decode b_Ma_enterMethod 65 = .ok (.isub, 1) := by decide +kernel
theorem d_Ma_enterMethod_66 : decode b_Ma_enterMethod 66 = .ok (.invokevirtual 233, 3) := by decide +kernel
theorem d_Ma_enterMethod_69 : decode b_Ma_enterMethod 69 = .ok (.l2i, 1) := by decide +kernel
theorem d_Ma_enterMethod_70 : decode b_Ma_enterMethod 70 = .ok (.istore 7, 2) := by decide +kernel
theorem d_Ma_enterMethod_72 : decode b_Ma_enterMethod 72 = .ok (.iload 7, 2) := by decide +kernel
theorem d_Ma_enterMethod_74 : decode b_Ma_enterMethod 74 = .ok (.ifCond .ne 5, 3) := by decide +kernel
theorem d_Ma_enterMethod_77 : decode b_Ma_enterMethod 77 = .ok (.iconst 2, 1) := by decide +kernel
theorem d_Ma_enterMethod_78 : decode b_Ma_enterMethod 78 = .ok (.ireturn, 1) := by decide +kernel
theorem d_Ma_enterMethod_79 : decode b_Ma_enterMethod 79 = .ok (.iload 4, 2) := by decide +kernel
theorem d_Ma_enterMethod_81 : decode b_Ma_enterMethod 81 = .ok (.bipush 51, 2) := by decide +kernel
theorem d_Ma_enterMethod_83 : decode b_Ma_enterMethod 83 = .ok (.if_icmp .eq 138, 3) := by decide +kernel
theorem d_Ma_enterMethod_86 : decode b_Ma_enterMethod 86 = .ok (.aload_n 0, 1) := by decide +kernel
theorem d_Ma_enterMethod_87 : decode b_Ma_enterMethod 87 = .ok (.getfield 73, 3) := by decide +kernel
theorem d_Ma_enterMethod_90 : decode b_Ma_enterMethod 90 = .ok (.aload_n 0, 1) := by decide +kernel
theorem d_Ma_enterMethod_91 : decode b_Ma_enterMethod 91 = .ok (.getfield 69, 3) := by decide +kernel
theorem d_Ma_enterMethod_94 : decode b_Ma_enterMethod 94 = .ok (.iconst 4, 1) := by decide +kernel
theorem d_Ma_enterMethod_95 : decode b_Ma_enterMethod 95 = .ok (.invokevirtual 443, 3) := by decide +kernel
theorem d_Ma_enterMethod_98 : decode b_Ma_enterMethod 98 = .ok (.ifCond .ne 123, 3) := by decide +kernel
theorem d_Ma_enterMethod_101 : decode b_Ma_enterMethod 101 = .ok (.aload_n 0, 1) := by decide +kernel
theorem d_Ma_enterMethod_102 : decode b_Ma_enterMethod 102 = .ok (.getfield 12, 3) := by decide +kernel
theorem d_Ma_enterMethod_105 : decode b_Ma_enterMethod 105 = .ok (.iload 7, 2) := by decide +kernel
theorem d_Ma_enterMethod_107 : decode b_Ma_enterMethod 107 = .ok (.invokevirtual 319, 3) := by decide +kernel
theorem d_Ma_enterMethod_110 : decode b_Ma_enterMethod 110 = .ok (.istore 8, 2) := by decide +kernel
theorem d_Ma_enterMethod_112 : decode b_Ma_enterMethod 112 = .ok (.iload 4, 2) := by decide +kernel
theorem d_Ma_enterMethod_114 : decode b_Ma_enterMethod 114 = .ok (.bipush 53, 2) := by decide +kernel
theorem d_Ma_enterMethod_116 : decode b_Ma_enterMethod 116 = .ok (.if_icmp .ne 31, 3) := by decide +kernel
theorem d_Ma_enterMethod_119 : decode b_Ma_enterMethod 119 = .ok (.iload 8, 2) := by decide +kernel
theorem d_Ma_enterMethod_121 : decode b_Ma_enterMethod 121 = .ok (.ifCond .lt 22, 3) := by decide +kernel
theorem d_Ma_enterMethod_124 : decode b_Ma_enterMethod 124 = .ok (.aload_n 0, 1) := by decide +kernel
theorem d_Ma_enterMethod_125 : decode b_Ma_enterMethod 125 = .ok (.getfield 69, 3) := by decide +kernel
theorem d_Ma_enterMethod_128 : decode b_Ma_enterMethod 128 = .ok (.iload 8, 2) := by decide +kernel
theorem d_Ma_enterMethod_130 : decode b_Ma_enterMethod 130 = .ok (.aload_n 0, 1) := by decide +kernel
theorem d_Ma_enterMethod_131 : decode b_Ma_enterMethod 131 = .ok (.getfield 73, 3) := by decide +kernel
theorem d_Ma_enterMethod_134 : decode b_Ma_enterMethod 134 = .ok (.getfield 205, 3) := by decide +kernel
theorem d_Ma_enterMethod_137 : decode b_Ma_enterMethod 137 = .ok (.invokevirtual 346, 3) := by decide +kernel
theorem d_Ma_enterMethod_140 : decode b_Ma_enterMethod 140 = .ok (.ifCond .ne 7, 3) := by decide +kernel
theorem d_Ma_enterMethod_143 : decode b_Ma_enterMethod 143 = .ok (.sipush 5915, 3) := by decide +kernel
theorem d_Ma_enterMethod_146 : decode b_Ma_enterMethod 146 = .ok (.ireturn, 1) := by decide +kernel
theorem d_Ma_enterMethod_147 : decode b_Ma_enterMethod 147 = .ok (.iload 8, 2) := by decide +kernel
theorem d_Ma_enterMethod_149 : decode b_Ma_enterMethod 149 = .ok (.ifCond .lt 44, 3) := by decide +kernel
theorem d_Ma_enterMethod_152 : decode b_Ma_enterMethod 152 = .ok (.aload_n 0, 1) := by decide +kernel
theorem d_Ma_enterMethod_153 : decode b_Ma_enterMethod 153 = .ok (.getfield 73, 3) := by decide +kernel
theorem d_Ma_enterMethod_156 : decode b_Ma_enterMethod 156 = .ok (.aload_n 0, 1) := by decide +kernel
theorem d_Ma_enterMethod_157 : decode b_Ma_enterMethod 157 = .ok (.getfield 69, 3) := by decide +kernel
theorem d_Ma_enterMethod_160 : decode b_Ma_enterMethod 160 = .ok (.iload 8, 2) := by decide +kernel
theorem d_Ma_enterMethod_162 : decode b_Ma_enterMethod 162 = .ok (.iload 5, 2) := by decide +kernel
theorem d_Ma_enterMethod_164 : decode b_Ma_enterMethod 164 = .ok (.invokevirtual 447, 3) := by decide +kernel
theorem d_Ma_enterMethod_167 : decode b_Ma_enterMethod 167 = .ok (.ifCond .ne 22, 3) := by decide +kernel
theorem d_Ma_enterMethod_170 : decode b_Ma_enterMethod 170 = .ok (.aload_n 0, 1) := by decide +kernel
theorem d_Ma_enterMethod_171 : decode b_Ma_enterMethod 171 = .ok (.getfield 73, 3) := by decide +kernel
theorem d_Ma_enterMethod_174 : decode b_Ma_enterMethod 174 = .ok (.aload_n 0, 1) := by decide +kernel
theorem d_Ma_enterMethod_175 : decode b_Ma_enterMethod 175 = .ok (.getfield 69, 3) := by decide +kernel
theorem d_Ma_enterMethod_178 : decode b_Ma_enterMethod 178 = .ok (.iload 8, 2) := by decide +kernel
theorem d_Ma_enterMethod_180 : decode b_Ma_enterMethod 180 = .ok (.iload 5, 2) := by decide +kernel
theorem d_Ma_enterMethod_182 : decode b_Ma_enterMethod 182 = .ok (.iconst 5, 1) := by decide +kernel
theorem d_Ma_enterMethod_183 : decode b_Ma_enterMethod 183 = .ok (.invokevirtual 451, 3) := by decide +kernel
theorem d_Ma_enterMethod_186 : decode b_Ma_enterMethod 186 = .ok (.ifCond .eq 7, 3) := by decide +kernel
theorem d_Ma_enterMethod_189 : decode b_Ma_enterMethod 189 = .ok (.iconst 1, 1) := by decide +kernel
theorem d_Ma_enterMethod_190 : decode b_Ma_enterMethod 190 = .ok (.goto 4, 3) := by decide +kernel
theorem d_Ma_enterMethod_193 : decode b_Ma_enterMethod 193 = .ok (.iconst 0, 1) := by decide +kernel
theorem d_Ma_enterMethod_194 : decode b_Ma_enterMethod 194 = .ok (.istore 9, 2) := by decide +kernel
theorem d_Ma_enterMethod_196 : decode b_Ma_enterMethod 196 = .ok (.iload 9, 2) := by decide +kernel
theorem d_Ma_enterMethod_198 : decode b_Ma_enterMethod 198 = .ok (.ifCond .eq 19, 3) := by decide +kernel
theorem d_Ma_enterMethod_201 : decode b_Ma_enterMethod 201 = .ok (.aload_n 0, 1) := by decide +kernel
theorem d_Ma_enterMethod_202 : decode b_Ma_enterMethod 202 = .ok (.getfield 73, 3) := by decide +kernel
theorem d_Ma_enterMethod_205 : decode b_Ma_enterMethod 205 = .ok (.aload_n 0, 1) := by decide +kernel
theorem d_Ma_enterMethod_206 : decode b_Ma_enterMethod 206 = .ok (.getfield 69, 3) := by decide +kernel
theorem d_Ma_enterMethod_209 : decode b_Ma_enterMethod 209 = .ok (.bipush 8, 2) := by decide +kernel
theorem d_Ma_enterMethod_211 : decode b_Ma_enterMethod 211 = .ok (.invokevirtual 443, 3) := by decide +kernel
theorem d_Ma_enterMethod_214 : decode b_Ma_enterMethod 214 = .ok (.ifCond .eq 7, 3) := by decide +kernel
theorem d_Ma_enterMethod_217 : decode b_Ma_enterMethod 217 = .ok (.sipush 5818, 3) := by decide +kernel
theorem d_Ma_enterMethod_220 : decode b_Ma_enterMethod 220 = .ok (.ireturn, 1) := by decide +kernel
theorem d_Ma_enterMethod_221 : decode b_Ma_enterMethod 221 = .ok (.aload_n 1, 1) := by decide +kernel
theorem d_Ma_enterMethod_222 : decode b_Ma_enterMethod 222 = .ok (.getfield 158, 3) := by decide +kernel
theorem d_Ma_enterMethod_225 : decode b_Ma_enterMethod 225 = .ok (.iconst 1, 1) := by decide +kernel
theorem d_Ma_enterMethod_226 : decode b_Ma_enterMethod 226 = .ok (.isub, 1) := by decide +kernel
theorem d_Ma_enterMethod_227 : decode b_Ma_enterMethod 227 = .ok (.istore 7, 2) := by decide +kernel
theorem d_Ma_enterMethod_229 : decode b_Ma_enterMethod 229 = .ok (.aload_n 0, 1) := by decide +kernel
theorem d_Ma_enterMethod_230 : decode b_Ma_enterMethod 230 = .ok (.getfield 73, 3) := by decide +kernel
theorem d_Ma_enterMethod_233 : decode b_Ma_enterMethod 233 = .ok (.getfield 208, 3) := by decide +kernel
theorem d_Ma_enterMethod_236 : decode b_Ma_enterMethod 236 = .ok (.bipush 21, 2) := by decide +kernel
theorem d_Ma_enterMethod_238 : decode b_Ma_enterMethod 238 = .ok (.if_icmp .ge 21, 3) := by decide +kernel
theorem d_Ma_enterMethod_241 : decode b_Ma_enterMethod 241 = .ok (.aload_n 1, 1) := by decide +kernel
theorem d_Ma_enterMethod_242 : decode b_Ma_enterMethod 242 = .ok (.invokevirtual 394, 3) := by decide +kernel
theorem d_Ma_enterMethod_245 : decode b_Ma_enterMethod 245 = .ok (.pop2, 1) := by decide +kernel
theorem d_Ma_enterMethod_246 : decode b_Ma_enterMethod 246 = .ok (.aload_n 1, 1) := by decide +kernel
theorem d_Ma_enterMethod_247 : decode b_Ma_enterMethod 247 = .ok (.getfield 217, 3) := by decide +kernel
theorem d_Ma_enterMethod_250 : decode b_Ma_enterMethod 250 = .ok (.iload 7, 2) := by decide +kernel
theorem d_Ma_enterMethod_252 : decode b_Ma_enterMethod 252 = .ok (.dup2, 1) := by decide +kernel
theorem d_Ma_enterMethod_253 : decode b_Ma_enterMethod 253 = .ok (.iaload, 1) := by decide +kernel
theorem d_Ma_enterMethod_254 : decode b_Ma_enterMethod 254 = .ok (.iconst 1, 1) := by decide +kernel
theorem d_Ma_enterMethod_255 : decode b_Ma_enterMethod 255 = .ok (.iadd, 1) := by decide +kernel
theorem d_Ma_enterMethod_256 : decode b_Ma_enterMethod 256 = .ok (.iastore, 1) := by decide +kernel
theorem d_Ma_enterMethod_257 : decode b_Ma_enterMethod 257 = .ok (.iconst 0, 1) := by decide +kernel
theorem d_Ma_enterMethod_258 : decode b_Ma_enterMethod 258 = .ok (.ireturn, 1) := by decide +kernel
theorem d_Ma_enterMethod_259 : decode b_Ma_enterMethod 259 = .ok (.aload_n 1, 1) := by decide +kernel
theorem d_Ma_enterMethod_260 : decode b_Ma_enterMethod 260 = .ok (.getfield 158, 3) := by decide +kernel
theorem d_Ma_enterMethod_263 : decode b_Ma_enterMethod 263 = .ok (.bipush 40, 2) := by decide +kernel
theorem d_Ma_enterMethod_265 : decode b_Ma_enterMethod 265 = .ok (.if_icmp .ne 6, 3) := by decide +kernel
theorem d_Ma_enterMethod_268 : decode b_Ma_enterMethod 268 = .ok (.bipush 8, 2) := by decide +kernel
theorem d_Ma_enterMethod_270 : decode b_Ma_enterMethod 270 = .ok (.ireturn, 1) := by decide +kernel
theorem d_Ma_enterMethod_271 : decode b_Ma_enterMethod 271 = .ok (.aload_n 1, 1) := by decide +kernel
theorem d_Ma_enterMethod_272 : decode b_Ma_enterMethod 272 = .ok (.aload_n 0, 1) := by decide +kernel
theorem d_Ma_enterMethod_273 : decode b_Ma_enterMethod 273 = .ok (.getfield 73, 3) := by decide +kernel
theorem d_Ma_enterMethod_276 : decode b_Ma_enterMethod 276 = .ok (.getfield 208, 3) := by decide +kernel
theorem d_Ma_enterMethod_279 : decode b_Ma_enterMethod 279 = .ok (.aload_n 0, 1) := by decide +kernel
theorem d_Ma_enterMethod_280 : decode b_Ma_enterMethod 280 = .ok (.getfield 73, 3) := by decide +kernel
theorem d_Ma_enterMethod_283 : decode b_Ma_enterMethod 283 = .ok (.getfield 304, 3) := by decide +kernel
theorem d_Ma_enterMethod_286 : decode b_Ma_enterMethod 286 = .ok (.iload 6, 2) := by decide +kernel
theorem d_Ma_enterMethod_288 : decode b_Ma_enterMethod 288 = .ok (.invokevirtual 298, 3) := by decide +kernel
theorem d_Ma_enterMethod_291 : decode b_Ma_enterMethod 291 = .ok (.aload_n 0, 1) := by decide +kernel
theorem d_Ma_enterMethod_292 : decode b_Ma_enterMethod 292 = .ok (.iconst 1, 1) := by decide +kernel
theorem d_Ma_enterMethod_293 : decode b_Ma_enterMethod 293 = .ok (.iload_n 2, 1) := by decide +kernel
theorem d_Ma_enterMethod_294 : decode b_Ma_enterMethod 294 = .ok (.invokevirtual 301, 3) := by decide +kernel
theorem d_Ma_enterMethod_297 : decode b_Ma_enterMethod 297 = .ok (.iconst 0, 1) := by decide +kernel
theorem d_Ma_enterMethod_298 : decode b_Ma_enterMethod 298 = .ok (.ireturn, 1) := by decide +kernel
abbrev ru_Ma_enterMethod : Room := { frames := 2, cells := 0, slots := 0, locals := 145 }
def wj_Ma_enterMethod_221 (y : Ly) (Post : St → Int32 → Prop) (a0 : Nat) (a1 : Nat) (s_j221 : St) (x2j221 : Int32) (x6j221 : Int32) : Prop := ((21 ≤ (sV s_j221 (lk a0 14) 0) → ((¬ (sV s_j221 a1 10) = 40 → wu_Ru_addFrame y (fun (s_6 : St) => wu_Ma_markFrame y (fun (s_8 : St) => Post s_8 0) s_6 a0 1 x2j221) s_j221 a1 (sV s_j221 (lk a0 14) 0) (sV s_j221 (lk a0 14) 1) x6j221) ∧ ((sV s_j221 a1 10) = 40 → Post s_j221 8))) ∧ (¬ (21 ≤ (sV s_j221 (lk a0 14) 0)) → wu_Ru_pop y (fun (s_10 : St) (r_9 : Int64) => xA y s_10 a1 13 ((sV s_j221 a1 10) - 1) (fun x_11 : Int32 => xS y s_10 a1 13 ((sV s_j221 a1 10) - 1) (x_11 + 1) (fun s_12 : St => Post s_12 0))) s_j221 a1))
def wj_Ma_enterMethod_217 (y : Ly) (Post : St → Int32 → Prop) (a0 : Nat) (a1 : Nat) (s_j217 : St) : Prop := Post s_j217 5818
def wj_Ma_enterMethod_194 (y : Ly) (Post : St → Int32 → Prop) (a0 : Nat) (a1 : Nat) (s_j194 : St) (x2j194 : Int32) (x6j194 : Int32) (z0j194 : Int32) : Prop := ((z0j194 = 0 → wj_Ma_enterMethod_217 y Post a0 a1 s_j194) ∧ (¬ (z0j194 = 0) → wu_Fi_isFound y (fun (s_20 : St) (r_19 : Int32) => ((r_19 = 0 → wj_Ma_enterMethod_221 y Post a0 a1 s_20 x2j194 x6j194) ∧ (¬ (r_19 = 0) → wj_Ma_enterMethod_217 y Post a0 a1 s_20))) s_j194 (lk a0 14) (lk a0 0) 8))
def wj_Ma_enterMethod_193 (y : Ly) (Post : St → Int32 → Prop) (a0 : Nat) (a1 : Nat) (s_j193 : St) (x2j193 : Int32) (x6j193 : Int32) : Prop := wj_Ma_enterMethod_194 y Post a0 a1 s_j193 x2j193 x6j193 0
def wj_Ma_enterMethod_189 (y : Ly) (Post : St → Int32 → Prop) (a0 : Nat) (a1 : Nat) (s_j189 : St) (x2j189 : Int32) (x6j189 : Int32) : Prop := wj_Ma_enterMethod_194 y Post a0 a1 s_j189 x2j189 x6j189 1
def wj_Ma_enterMethod_147 (y : Ly) (Post : St → Int32 → Prop) (a0 : Nat) (a1 : Nat) (s_j147 : St) (x2j147 : Int32) (x5j147 : Int32) (x6j147 : Int32) (x8j147 : Int32) : Prop := ((x8j147 < 0 → wj_Ma_enterMethod_193 y Post a0 a1 s_j147 x2j147 x6j147) ∧ (¬ (x8j147 < 0) → wu_Fi_seekForObject y (fun (s_22 : St) (r_21 : Int32) => ((¬ r_21 = 0 → wj_Ma_enterMethod_189 y Post a0 a1 s_22 x2j147 x6j147) ∧ (r_21 = 0 → wu_Fi_seekInFaces y (fun (s_24 : St) (r_23 : Int32) => ((r_23 = 0 → wj_Ma_enterMethod_193 y Post a0 a1 s_24 x2j147 x6j147) ∧ (¬ (r_23 = 0) → wj_Ma_enterMethod_189 y Post a0 a1 s_24 x2j147 x6j147))) s_22 (lk a0 14) (lk a0 0) x8j147 x5j147 5))) s_j147 (lk a0 14) (lk a0 0) x8j147 x5j147))
def wj_Ma_enterMethod_143 (y : Ly) (Post : St → Int32 → Prop) (a0 : Nat) (a1 : Nat) (s_j143 : St) : Prop := Post s_j143 5915
def wj_Ma_enterMethod_51 (y : Ly) (Post : St → Int32 → Prop) (a0 : Nat) (a1 : Nat) (s_j51 : St) (x2j51 : Int32) (x4j51 : Int32) (x5j51 : Int32) (z0j51 : Int32) (z1j51 : Int32) : Prop := ((x4j51 = 52 → wj_Ma_enterMethod_221 y Post a0 a1 s_j51 x2j51 (z0j51 + z1j51)) ∧ (¬ (x4j51 = 52) → wu_Ru_fromTop y (fun (s_14 : St) (r_13 : Int64) => ((¬ r_13.toInt32 = 0 → ((x4j51 = 51 → wj_Ma_enterMethod_221 y Post a0 a1 s_14 x2j51 (z0j51 + z1j51)) ∧ (¬ (x4j51 = 51) → wu_Fi_isFound y (fun (s_16 : St) (r_15 : Int32) => ((¬ r_15 = 0 → wj_Ma_enterMethod_221 y Post a0 a1 s_16 x2j51 (z0j51 + z1j51)) ∧ (r_15 = 0 → wu_Hp_classOf y (fun (s_18 : St) (r_17 : Int32) => ((¬ x4j51 = 53 → wj_Ma_enterMethod_147 y Post a0 a1 s_18 x2j51 x5j51 (z0j51 + z1j51) r_17) ∧ (x4j51 = 53 → ((r_17 < 0 → wj_Ma_enterMethod_143 y Post a0 a1 s_18) ∧ (¬ (r_17 < 0) → wu_Wd_below y (fun (s_26 : St) (r_25 : Int32) => ((¬ r_25 = 0 → wj_Ma_enterMethod_147 y Post a0 a1 s_26 x2j51 x5j51 (z0j51 + z1j51) r_17) ∧ (r_25 = 0 → wj_Ma_enterMethod_143 y Post a0 a1 s_26))) s_18 (lk a0 0) r_17 (sV s_18 (lk a0 14) 2)))))) s_16 (lk a0 1) r_13.toInt32))) s_14 (lk a0 14) (lk a0 0) 4))) ∧ (r_13.toInt32 = 0 → Post s_14 2))) s_j51 a1 ((z0j51 + z1j51) - 1)))
def wu_Ma_enterMethod (y : Ly) (Post : St → Int32 → Prop) (σ : St) (a0 : Nat) (a1 : Nat) (v2 : Int32) (v3 : Int32) : Prop := xA y σ (lk (lk a0 0) 10) 0 v3 (fun x_1 : Int32 => xA y σ (lk (lk a0 0) 10) 0 (v3 + 2) (fun x_2 : Int32 => wu_Na_argumentsOf y (fun (s_4 : St) (r_3 : Int32) => ((¬ x_1 = 52 → wj_Ma_enterMethod_51 y Post a0 a1 s_4 v2 x_1 x_2 r_3 1) ∧ (x_1 = 52 → wj_Ma_enterMethod_51 y Post a0 a1 s_4 v2 x_1 x_2 r_3 0))) σ (lk a0 15) x_2))
set_option maxHeartbeats 4000000 in
set_option maxRecDepth 100000 in
theorem cu_Ma_enterMethod (l : Launch) (D : va_G) (g : Nat → ClassId) (ad : Nat → Nat) (y : Ly) (Post : St → Int32 → Prop) (σ : St) (a0 : Nat) (a1 : Nat) (v2 : Int32) (v3 : Int32) (sz : Nat) (h_a0 : cl a0 = 4) (h_a1 : cl a1 = 7) (h : wu_Ma_enterMethod y Post σ a0 a1 v2 v3) : Met l y_Ma_enterMethod (mw y_Ma_enterMethod b_Ma_enterMethod 10 (some .int)) ru_Ma_enterMethod (PC g D [] [.ref (ad a0), .ref (ad a1), .int v2, .int v3] sz (ws g ad y σ)) (va_Qi (fun (r : Int32) (u : St) => Post u r) (QW D (va_A (ws g ad y σ) sz) (fun u => ws g ad y u)) (va_A (ws g ad y σ) sz)) 0 0 (va_A (ws g ad y σ) sz) := by
  refine ofI (by decide +kernel) (Nat.le_of_ble_eq_true rfl) ?_
  intro p e s m args below meth c A Q ls H locs G hsz hP hD hS hl hret
  subst hsz
  have hl : lv_has ls 10 [(0, .ref (ad a0)), (1, .ref (ad a1)), (2, .int v2), (3, .int v3)] := hl
  unfold wu_Ma_enterMethod at h
  refine lv_aload_n G.1 G.2.1 d_Ma_enterMethod_0 rfl (lv_at hl 0 rfl) ?_
  refine ugf (v := .ref (ad (lk a0 0))) G hP h_a0 iMa rfl 0 (by decide) rfl q1065 rfl rfl d_Ma_enterMethod_1 ?_
  refine ugf (v := .ref (ad (lk (lk a0 0) 10))) G hP (lk_4_0 h_a0) iWd rfl 10 (by decide) rfl q845 rfl rfl d_Ma_enterMethod_4 ?_
  refine ugf (v := .ref (yP y (lk (lk a0 0) 10) 0)) G hP (lk_9_10 (lk_4_0 h_a0)) iIn rfl 0 (by decide) rfl q385 rfl rfl d_Ma_enterMethod_7 ?_
  refine lv_iload_n G.1 G.2.1 d_Ma_enterMethod_10 rfl (lv_at hl 3 rfl) ?_
  refine uiald G hP (kdp (lk_9_10 (lk_4_0 h_a0)) rfl) (typ (lk_9_10 (lk_4_0 h_a0)) rfl) h d_Ma_enterMethod_11 (fun x_1 h => ?_)
  refine lv_istore (lv' := [(4, .int x_1), (0, .ref (ad a0)), (1, .ref (ad a1)), (2, .int v2), (3, .int v3)]) G.1 G.2.1 d_Ma_enterMethod_12 hl (by decide) rfl (fun ls hl => ?_)
  refine lv_aload_n G.1 G.2.1 d_Ma_enterMethod_14 rfl (lv_at hl 1 rfl) ?_
  refine ugf (v := .ref (ad (lk a0 0))) G hP h_a0 iMa rfl 0 (by decide) rfl q1065 rfl rfl d_Ma_enterMethod_15 ?_
  refine ugf (v := .ref (ad (lk (lk a0 0) 10))) G hP (lk_4_0 h_a0) iWd rfl 10 (by decide) rfl q845 rfl rfl d_Ma_enterMethod_18 ?_
  refine ugf (v := .ref (yP y (lk (lk a0 0) 10) 0)) G hP (lk_9_10 (lk_4_0 h_a0)) iIn rfl 0 (by decide) rfl q385 rfl rfl d_Ma_enterMethod_21 ?_
  refine W.eq (g2 := F0 m 24 ls [.ref (yP y (lk (lk a0 0) 10) 0)]) rfl ?_
  refine lv_iload_n G.1 G.2.1 d_Ma_enterMethod_24 rfl (lv_at hl 4 rfl) ?_
  refine lv_iconst (v := 2) G.1 G.2.1 d_Ma_enterMethod_25 (by decide) ?_
  refine lv_iadd G.1 G.2.1 d_Ma_enterMethod_26 ?_
  refine uiald G hP (kdp (lk_9_10 (lk_4_0 h_a0)) rfl) (typ (lk_9_10 (lk_4_0 h_a0)) rfl) h d_Ma_enterMethod_27 (fun x_2 h => ?_)
  refine lv_istore (lv' := [(5, .int x_2), (4, .int x_1), (0, .ref (ad a0)), (1, .ref (ad a1)), (2, .int v2), (3, .int v3)]) G.1 G.2.1 d_Ma_enterMethod_28 hl (by decide) rfl (fun ls hl => ?_)
  refine lv_aload_n G.1 G.2.1 d_Ma_enterMethod_30 rfl (lv_at hl 2 rfl) ?_
  refine ugf (v := .ref (ad (lk a0 15))) G hP h_a0 iMa rfl 15 (by decide) rfl q1091 rfl rfl d_Ma_enterMethod_31 ?_
  refine lv_iload G.1 G.2.1 d_Ma_enterMethod_34 (lv_at hl 0 rfl) ?_
  refine ucVi (As := [.int x_2]) (rest := []) G hP hD hS (cu_Na_argumentsOf l D g ad y _ σ (lk a0 15) x_2 H.size (lk_4_15 h_a0) h) w9_Na_argumentsOf q1880 ⟨Nat.le_of_ble_eq_true rfl, Nat.le_of_ble_eq_true rfl⟩ rfl rfl (lk_4_15 h_a0) (q := (RNa, TNa, 11)) rfl rfl hl.1 rfl (Nat.le_of_ble_eq_true rfl) rfl ⟨Nat.le_refl _, Nat.le_refl _⟩ d_Ma_enterMethod_36 (fun r_3 s_4 H locs h hP hD hS => ?_)
  refine lv_iload G.1 G.2.1 d_Ma_enterMethod_39 (lv_at hl 1 rfl) ?_
  refine lv_bipush (v := 52) G.1 G.2.1 d_Ma_enterMethod_41 (by decide) ?_
  have J_51 : ∀ (s_j51 : St) (x2j51 : Int32) (x4j51 : Int32) (x5j51 : Int32) (z0j51 : Int32) (z1j51 : Int32) (H : Heap) (locs : List Loc), wj_Ma_enterMethod_51 y Post a0 a1 s_j51 x2j51 x4j51 x5j51 z0j51 z1j51 → va_P D CL (ws g ad y s_j51) H → va_D A (ws g ad y s_j51) → va_S A s.heap H locs → ∀ ls, lv_has ls 10 [(0, .ref (ad a0)), (1, .ref (ad a1)), (2, .int x2j51), (4, .int x4j51), (5, .int x5j51)] → W p l e ru_Ma_enterMethod s m args below meth c H locs 0 0 Q (F0 m 51 ls [.int z1j51, .int z0j51]) := by
    intro s_j51 x2j51 x4j51 x5j51 z0j51 z1j51 H locs h hP hD hS ls hl
    unfold wj_Ma_enterMethod_51 at h
    refine lv_iadd G.1 G.2.1 d_Ma_enterMethod_51 ?_
    refine lv_istore (lv' := [(6, .int (z0j51 + z1j51)), (0, .ref (ad a0)), (1, .ref (ad a1)), (2, .int x2j51), (4, .int x4j51), (5, .int x5j51)]) G.1 G.2.1 d_Ma_enterMethod_52 hl (by decide) rfl (fun ls hl => ?_)
    refine lv_iload G.1 G.2.1 d_Ma_enterMethod_54 (lv_at hl 4 rfl) ?_
    refine lv_bipush (v := 52) G.1 G.2.1 d_Ma_enterMethod_56 (by decide) ?_
    have J_221 : ∀ (s_j221 : St) (x2j221 : Int32) (x6j221 : Int32) (H : Heap) (locs : List Loc), wj_Ma_enterMethod_221 y Post a0 a1 s_j221 x2j221 x6j221 → va_P D CL (ws g ad y s_j221) H → va_D A (ws g ad y s_j221) → va_S A s.heap H locs → ∀ ls, lv_has ls 10 [(0, .ref (ad a0)), (1, .ref (ad a1)), (2, .int x2j221), (6, .int x6j221)] → W p l e ru_Ma_enterMethod s m args below meth c H locs 0 0 Q (F0 m 221 ls []) := by
      intro s_j221 x2j221 x6j221 H locs h hP hD hS ls hl
      unfold wj_Ma_enterMethod_221 at h
      refine lv_aload_n G.1 G.2.1 d_Ma_enterMethod_221 rfl (lv_at hl 1 rfl) ?_
      refine ugf (v := .int (sV s_j221 a1 10)) G hP h_a1 iRu rfl 10 (by decide) rfl q1006 rfl rfl d_Ma_enterMethod_222 ?_
      refine lv_iconst (v := 1) G.1 G.2.1 d_Ma_enterMethod_225 (by decide) ?_
      refine lv_isub G.1 G.2.1 d_Ma_enterMethod_226 ?_
      refine lv_istore (lv' := [(7, .int ((sV s_j221 a1 10) - 1)), (0, .ref (ad a0)), (1, .ref (ad a1)), (2, .int x2j221), (6, .int x6j221)]) G.1 G.2.1 d_Ma_enterMethod_227 hl (by decide) rfl (fun ls hl => ?_)
      refine lv_aload_n G.1 G.2.1 d_Ma_enterMethod_229 rfl (lv_at hl 1 rfl) ?_
      refine ugf (v := .ref (ad (lk a0 14))) G hP h_a0 iMa rfl 14 (by decide) rfl q1090 rfl rfl d_Ma_enterMethod_230 ?_
      refine ugf (v := .int (sV s_j221 (lk a0 14) 0)) G hP (lk_4_14 h_a0) iFi rfl 0 (by decide) rfl q727 rfl rfl d_Ma_enterMethod_233 ?_
      refine lv_bipush (v := 21) G.1 G.2.1 d_Ma_enterMethod_236 (by decide) ?_
      refine lv_icmp_ge (tgt := 259) G.1 G.2.1 d_Ma_enterMethod_238 (by decide) (fun c238 => ?_) (fun c238 => ?_)
      · skip
        have h := h.1 c238
        refine lv_aload_n G.1 G.2.1 d_Ma_enterMethod_259 rfl (lv_at hl 2 rfl) ?_
        refine W.eq (g2 := F0 m 260 ls [.ref (ad a1)]) rfl ?_
        refine ugf (v := .int (sV s_j221 a1 10)) G hP h_a1 iRu rfl 10 (by decide) rfl q1006 rfl rfl d_Ma_enterMethod_260 ?_
        refine lv_bipush (v := 40) G.1 G.2.1 d_Ma_enterMethod_263 (by decide) ?_
        refine lv_icmp_ne (tgt := 271) G.1 G.2.1 d_Ma_enterMethod_265 (by decide) (fun c265 => ?_) (fun c265 => ?_)
        · skip
          have h := h.1 c265
          refine lv_aload_n G.1 G.2.1 d_Ma_enterMethod_271 rfl (lv_at hl 2 rfl) ?_
          refine lv_aload_n G.1 G.2.1 d_Ma_enterMethod_272 rfl (lv_at hl 1 rfl) ?_
          refine ugf (v := .ref (ad (lk a0 14))) G hP h_a0 iMa rfl 14 (by decide) rfl q1090 rfl rfl d_Ma_enterMethod_273 ?_
          refine ugf (v := .int (sV s_j221 (lk a0 14) 0)) G hP (lk_4_14 h_a0) iFi rfl 0 (by decide) rfl q727 rfl rfl d_Ma_enterMethod_276 ?_
          refine lv_aload_n G.1 G.2.1 d_Ma_enterMethod_279 rfl (lv_at hl 1 rfl) ?_
          refine ugf (v := .ref (ad (lk a0 14))) G hP h_a0 iMa rfl 14 (by decide) rfl q1090 rfl rfl d_Ma_enterMethod_280 ?_
          refine ugf (v := .int (sV s_j221 (lk a0 14) 1)) G hP (lk_4_14 h_a0) iFi rfl 1 (by decide) rfl q730 rfl rfl d_Ma_enterMethod_283 ?_
          refine lv_iload G.1 G.2.1 d_Ma_enterMethod_286 (lv_at hl 4 rfl) ?_
          refine ucVv (As := [.int (sV s_j221 (lk a0 14) 0), .int (sV s_j221 (lk a0 14) 1), .int x6j221]) (rest := []) G hP hD hS (cu_Ru_addFrame l D g ad y _ s_j221 a1 (sV s_j221 (lk a0 14) 0) (sV s_j221 (lk a0 14) 1) x6j221 H.size h_a1 h) w9_Ru_addFrame q1902 ⟨Nat.le_of_ble_eq_true rfl, Nat.le_of_ble_eq_true rfl⟩ rfl rfl h_a1 (q := (RRu, TRu, 19)) rfl rfl hl.1 rfl (Nat.le_of_ble_eq_true rfl) rfl ⟨Nat.le_refl _, Nat.le_refl _⟩ d_Ma_enterMethod_288 (fun s_6 H locs h hP hD hS => ?_)
          refine W.eq (g2 := F0 m 291 ls []) rfl ?_
          refine lv_aload_n G.1 G.2.1 d_Ma_enterMethod_291 rfl (lv_at hl 1 rfl) ?_
          refine lv_iconst (v := 1) G.1 G.2.1 d_Ma_enterMethod_292 (by decide) ?_
          refine lv_iload_n G.1 G.2.1 d_Ma_enterMethod_293 rfl (lv_at hl 3 rfl) ?_
          refine ucVv (As := [.int 1, .int x2j221]) (rest := []) G hP hD hS (cu_Ma_markFrame l D g ad y _ s_6 a0 1 x2j221 H.size h_a0 h) w9_Ma_markFrame q1907 ⟨Nat.le_of_ble_eq_true rfl, Nat.le_of_ble_eq_true rfl⟩ rfl rfl h_a0 (q := (RMa, TMa, 19)) rfl rfl hl.1 rfl (Nat.le_of_ble_eq_true rfl) rfl ⟨Nat.le_refl _, Nat.le_refl _⟩ d_Ma_enterMethod_294 (fun s_8 H locs h hP hD hS => ?_)
          refine lv_iconst (v := 0) G.1 G.2.1 d_Ma_enterMethod_297 (by decide) ?_
          exact hret _ _ _ _ _ _ _ ls h hP hD hS (Nat.le_refl _) (Nat.le_refl _) d_Ma_enterMethod_298
        · skip
          have h := h.2 c265
          refine lv_bipush (v := 8) G.1 G.2.1 d_Ma_enterMethod_268 (by decide) ?_
          exact hret _ _ _ _ _ _ _ ls h hP hD hS (Nat.le_refl _) (Nat.le_refl _) d_Ma_enterMethod_270
      · skip
        have h := h.2 c238
        refine lv_aload_n G.1 G.2.1 d_Ma_enterMethod_241 rfl (lv_at hl 2 rfl) ?_
        refine W.eq (g2 := F0 m 242 ls [.ref (ad a1)]) rfl ?_
        refine ucVl (As := []) (rest := []) G hP hD hS (cu_Ru_pop l D g ad y _ s_j221 a1 H.size h_a1 h) w9_Ru_pop q1898 ⟨Nat.le_of_ble_eq_true rfl, Nat.le_of_ble_eq_true rfl⟩ rfl rfl h_a1 (q := (RRu, TRu, 19)) rfl rfl hl.1 rfl (Nat.le_of_ble_eq_true rfl) rfl ⟨Nat.le_refl _, Nat.le_refl _⟩ d_Ma_enterMethod_242 (fun r_9 s_10 H locs h hP hD hS => ?_)
        refine lv_pop2_2 G.1 G.2.1 d_Ma_enterMethod_245 rfl ?_
        refine lv_aload_n G.1 G.2.1 d_Ma_enterMethod_246 rfl (lv_at hl 2 rfl) ?_
        refine ugf (v := .ref (yP y a1 13)) G hP h_a1 iRu rfl 13 (by decide) rfl q1015 rfl rfl d_Ma_enterMethod_247 ?_
        refine lv_iload G.1 G.2.1 d_Ma_enterMethod_250 (lv_at hl 0 rfl) ?_
        refine lv_dup2_11 G.1 G.2.1 d_Ma_enterMethod_252 rfl rfl ?_
        refine uiald G hP (kdp h_a1 rfl) (typ h_a1 rfl) h d_Ma_enterMethod_253 (fun x_11 h => ?_)
        refine lv_iconst (v := 1) G.1 G.2.1 d_Ma_enterMethod_254 (by decide) ?_
        refine lv_iadd G.1 G.2.1 d_Ma_enterMethod_255 ?_
        refine uiast G hP hD hS (kdp h_a1 rfl) (typ h_a1 rfl) h d_Ma_enterMethod_256 (fun s_12 H locs h hP hD hS => ?_)
        refine lv_iconst (v := 0) G.1 G.2.1 d_Ma_enterMethod_257 (by decide) ?_
        exact hret _ _ _ _ _ _ _ ls h hP hD hS (Nat.le_refl _) (Nat.le_refl _) d_Ma_enterMethod_258
    refine lv_icmp_eq (tgt := 221) G.1 G.2.1 d_Ma_enterMethod_58 (by decide) (fun c58 => ?_) (fun c58 => ?_)
    · skip
      have h := h.1 c58
      exact J_221 s_j51 x2j51 (z0j51 + z1j51) H locs h hP hD hS ls (lv_sub hl [1, 2, 3, 0] rfl)
    · skip
      have h := h.2 c58
      refine lv_aload_n G.1 G.2.1 d_Ma_enterMethod_61 rfl (lv_at hl 2 rfl) ?_
      refine lv_iload G.1 G.2.1 d_Ma_enterMethod_62 (lv_at hl 0 rfl) ?_
      refine lv_iconst (v := 1) G.1 G.2.1 d_Ma_enterMethod_64 (by decide) ?_
      refine lv_isub G.1 G.2.1 d_Ma_enterMethod_65 ?_
      refine ucVl (As := [.int ((z0j51 + z1j51) - 1)]) (rest := []) G hP hD hS (cu_Ru_fromTop l D g ad y _ s_j51 a1 ((z0j51 + z1j51) - 1) H.size h_a1 h) w9_Ru_fromTop q1841 ⟨Nat.le_of_ble_eq_true rfl, Nat.le_of_ble_eq_true rfl⟩ rfl rfl h_a1 (q := (RRu, TRu, 19)) rfl rfl hl.1 rfl (Nat.le_of_ble_eq_true rfl) rfl ⟨Nat.le_refl _, Nat.le_refl _⟩ d_Ma_enterMethod_66 (fun r_13 s_14 H locs h hP hD hS => ?_)
      refine lv_l2i G.1 G.2.1 d_Ma_enterMethod_69 rfl ?_
      refine W.eq (g2 := F0 m 70 ls [.int r_13.toInt32]) rfl ?_
      refine lv_istore (lv' := [(7, .int r_13.toInt32), (6, .int (z0j51 + z1j51)), (0, .ref (ad a0)), (1, .ref (ad a1)), (2, .int x2j51), (4, .int x4j51), (5, .int x5j51)]) G.1 G.2.1 d_Ma_enterMethod_70 hl (by decide) rfl (fun ls hl => ?_)
      refine lv_iload G.1 G.2.1 d_Ma_enterMethod_72 (lv_at hl 0 rfl) ?_
      refine lv_if_ne (tgt := 79) G.1 G.2.1 d_Ma_enterMethod_74 (by decide) (fun c74 => ?_) (fun c74 => ?_)
      · skip
        have h := h.1 c74
        refine lv_iload G.1 G.2.1 d_Ma_enterMethod_79 (lv_at hl 5 rfl) ?_
        refine lv_bipush (v := 51) G.1 G.2.1 d_Ma_enterMethod_81 (by decide) ?_
        refine lv_icmp_eq (tgt := 221) G.1 G.2.1 d_Ma_enterMethod_83 (by decide) (fun c83 => ?_) (fun c83 => ?_)
        · skip
          have h := h.1 c83
          exact J_221 s_14 x2j51 (z0j51 + z1j51) H locs h hP hD hS ls (lv_sub hl [2, 3, 4, 1] rfl)
        · skip
          have h := h.2 c83
          refine lv_aload_n G.1 G.2.1 d_Ma_enterMethod_86 rfl (lv_at hl 2 rfl) ?_
          refine ugf (v := .ref (ad (lk a0 14))) G hP h_a0 iMa rfl 14 (by decide) rfl q1090 rfl rfl d_Ma_enterMethod_87 ?_
          refine lv_aload_n G.1 G.2.1 d_Ma_enterMethod_90 rfl (lv_at hl 2 rfl) ?_
          refine ugf (v := .ref (ad (lk a0 0))) G hP h_a0 iMa rfl 0 (by decide) rfl q1065 rfl rfl d_Ma_enterMethod_91 ?_
          refine lv_iconst (v := 4) G.1 G.2.1 d_Ma_enterMethod_94 (by decide) ?_
          refine ucVi (As := [.ref (ad (lk a0 0)), .int 4]) (rest := []) G hP hD hS (cu_Fi_isFound l D g ad y _ s_14 (lk a0 14) (lk a0 0) 4 H.size (lk_4_14 h_a0) (lk_4_0 h_a0) h) w9_Fi_isFound q1881 ⟨Nat.le_of_ble_eq_true rfl, Nat.le_of_ble_eq_true rfl⟩ rfl rfl (lk_4_14 h_a0) (q := (RFi, TFi, 10)) rfl rfl hl.1 rfl (Nat.le_of_ble_eq_true rfl) rfl ⟨Nat.le_refl _, Nat.le_refl _⟩ d_Ma_enterMethod_95 (fun r_15 s_16 H locs h hP hD hS => ?_)
          refine W.eq (g2 := F0 m 98 ls [.int r_15]) rfl ?_
          refine lv_if_ne (tgt := 221) G.1 G.2.1 d_Ma_enterMethod_98 (by decide) (fun c98 => ?_) (fun c98 => ?_)
          · skip
            have h := h.1 c98
            exact J_221 s_16 x2j51 (z0j51 + z1j51) H locs h hP hD hS ls (lv_sub hl [2, 3, 4, 1] rfl)
          · skip
            have h := h.2 c98
            refine lv_aload_n G.1 G.2.1 d_Ma_enterMethod_101 rfl (lv_at hl 2 rfl) ?_
            refine ugf (v := .ref (ad (lk a0 1))) G hP h_a0 iMa rfl 1 (by decide) rfl q1067 rfl rfl d_Ma_enterMethod_102 ?_
            refine lv_iload G.1 G.2.1 d_Ma_enterMethod_105 (lv_at hl 0 rfl) ?_
            refine ucVi (As := [.int r_13.toInt32]) (rest := []) G hP hD hS (cu_Hp_classOf l D g ad y _ s_16 (lk a0 1) r_13.toInt32 H.size (lk_4_1 h_a0) h) w9_Hp_classOf q1885 ⟨Nat.le_of_ble_eq_true rfl, Nat.le_of_ble_eq_true rfl⟩ rfl rfl (lk_4_1 h_a0) (q := (RHp, THp, 15)) rfl rfl hl.1 rfl (Nat.le_of_ble_eq_true rfl) rfl ⟨Nat.le_refl _, Nat.le_refl _⟩ d_Ma_enterMethod_107 (fun r_17 s_18 H locs h hP hD hS => ?_)
            refine lv_istore (lv' := [(8, .int r_17), (7, .int r_13.toInt32), (6, .int (z0j51 + z1j51)), (0, .ref (ad a0)), (1, .ref (ad a1)), (2, .int x2j51), (4, .int x4j51), (5, .int x5j51)]) G.1 G.2.1 d_Ma_enterMethod_110 hl (by decide) rfl (fun ls hl => ?_)
            refine lv_iload G.1 G.2.1 d_Ma_enterMethod_112 (lv_at hl 6 rfl) ?_
            refine lv_bipush (v := 53) G.1 G.2.1 d_Ma_enterMethod_114 (by decide) ?_
            have J_147 : ∀ (s_j147 : St) (x2j147 : Int32) (x5j147 : Int32) (x6j147 : Int32) (x8j147 : Int32) (H : Heap) (locs : List Loc), wj_Ma_enterMethod_147 y Post a0 a1 s_j147 x2j147 x5j147 x6j147 x8j147 → va_P D CL (ws g ad y s_j147) H → va_D A (ws g ad y s_j147) → va_S A s.heap H locs → ∀ ls, lv_has ls 10 [(0, .ref (ad a0)), (1, .ref (ad a1)), (2, .int x2j147), (5, .int x5j147), (6, .int x6j147), (8, .int x8j147)] → W p l e ru_Ma_enterMethod s m args below meth c H locs 0 0 Q (F0 m 147 ls []) := by
              intro s_j147 x2j147 x5j147 x6j147 x8j147 H locs h hP hD hS ls hl
              unfold wj_Ma_enterMethod_147 at h
              refine lv_iload G.1 G.2.1 d_Ma_enterMethod_147 (lv_at hl 5 rfl) ?_
              have J_194 : ∀ (s_j194 : St) (x2j194 : Int32) (x6j194 : Int32) (z0j194 : Int32) (H : Heap) (locs : List Loc), wj_Ma_enterMethod_194 y Post a0 a1 s_j194 x2j194 x6j194 z0j194 → va_P D CL (ws g ad y s_j194) H → va_D A (ws g ad y s_j194) → va_S A s.heap H locs → ∀ ls, lv_has ls 10 [(0, .ref (ad a0)), (1, .ref (ad a1)), (2, .int x2j194), (6, .int x6j194)] → W p l e ru_Ma_enterMethod s m args below meth c H locs 0 0 Q (F0 m 194 ls [.int z0j194]) := by
                intro s_j194 x2j194 x6j194 z0j194 H locs h hP hD hS ls hl
                unfold wj_Ma_enterMethod_194 at h
                refine lv_istore (lv' := [(9, .int z0j194), (0, .ref (ad a0)), (1, .ref (ad a1)), (2, .int x2j194), (6, .int x6j194)]) G.1 G.2.1 d_Ma_enterMethod_194 hl (by decide) rfl (fun ls hl => ?_)
                refine lv_iload G.1 G.2.1 d_Ma_enterMethod_196 (lv_at hl 0 rfl) ?_
                have J_217 : ∀ (s_j217 : St) (H : Heap) (locs : List Loc), wj_Ma_enterMethod_217 y Post a0 a1 s_j217 → va_P D CL (ws g ad y s_j217) H → va_D A (ws g ad y s_j217) → va_S A s.heap H locs → ∀ ls, lv_has ls 10 [] → W p l e ru_Ma_enterMethod s m args below meth c H locs 0 0 Q (F0 m 217 ls []) := by
                  intro s_j217 H locs h hP hD hS ls hl
                  unfold wj_Ma_enterMethod_217 at h
                  refine lv_sipush (v := 5818) G.1 G.2.1 d_Ma_enterMethod_217 (by decide) ?_
                  exact hret _ _ _ _ _ _ _ ls h hP hD hS (Nat.le_refl _) (Nat.le_refl _) d_Ma_enterMethod_220
                refine lv_if_eq (tgt := 217) G.1 G.2.1 d_Ma_enterMethod_198 (by decide) (fun c198 => ?_) (fun c198 => ?_)
                · skip
                  have h := h.1 c198
                  exact J_217 s_j194 H locs h hP hD hS ls (lv_sub hl [] rfl)
                · skip
                  have h := h.2 c198
                  refine lv_aload_n G.1 G.2.1 d_Ma_enterMethod_201 rfl (lv_at hl 1 rfl) ?_
                  refine ugf (v := .ref (ad (lk a0 14))) G hP h_a0 iMa rfl 14 (by decide) rfl q1090 rfl rfl d_Ma_enterMethod_202 ?_
                  refine lv_aload_n G.1 G.2.1 d_Ma_enterMethod_205 rfl (lv_at hl 1 rfl) ?_
                  refine ugf (v := .ref (ad (lk a0 0))) G hP h_a0 iMa rfl 0 (by decide) rfl q1065 rfl rfl d_Ma_enterMethod_206 ?_
                  refine lv_bipush (v := 8) G.1 G.2.1 d_Ma_enterMethod_209 (by decide) ?_
                  refine ucVi (As := [.ref (ad (lk a0 0)), .int 8]) (rest := []) G hP hD hS (cu_Fi_isFound l D g ad y _ s_j194 (lk a0 14) (lk a0 0) 8 H.size (lk_4_14 h_a0) (lk_4_0 h_a0) h) w9_Fi_isFound q1881 ⟨Nat.le_of_ble_eq_true rfl, Nat.le_of_ble_eq_true rfl⟩ rfl rfl (lk_4_14 h_a0) (q := (RFi, TFi, 10)) rfl rfl hl.1 rfl (Nat.le_of_ble_eq_true rfl) rfl ⟨Nat.le_refl _, Nat.le_refl _⟩ d_Ma_enterMethod_211 (fun r_19 s_20 H locs h hP hD hS => ?_)
                  refine lv_if_eq (tgt := 221) G.1 G.2.1 d_Ma_enterMethod_214 (by decide) (fun c214 => ?_) (fun c214 => ?_)
                  · skip
                    have h := h.1 c214
                    exact J_221 s_20 x2j194 x6j194 H locs h hP hD hS ls (lv_sub hl [1, 2, 3, 4] rfl)
                  · skip
                    have h := h.2 c214
                    exact J_217 s_20 H locs h hP hD hS ls (lv_sub hl [] rfl)
              have J_193 : ∀ (s_j193 : St) (x2j193 : Int32) (x6j193 : Int32) (H : Heap) (locs : List Loc), wj_Ma_enterMethod_193 y Post a0 a1 s_j193 x2j193 x6j193 → va_P D CL (ws g ad y s_j193) H → va_D A (ws g ad y s_j193) → va_S A s.heap H locs → ∀ ls, lv_has ls 10 [(0, .ref (ad a0)), (1, .ref (ad a1)), (2, .int x2j193), (6, .int x6j193)] → W p l e ru_Ma_enterMethod s m args below meth c H locs 0 0 Q (F0 m 193 ls []) := by
                intro s_j193 x2j193 x6j193 H locs h hP hD hS ls hl
                unfold wj_Ma_enterMethod_193 at h
                refine lv_iconst (v := 0) G.1 G.2.1 d_Ma_enterMethod_193 (by decide) ?_
                exact J_194 s_j193 x2j193 x6j193 0 H locs h hP hD hS ls (lv_sub hl [0, 1, 2, 3] rfl)
              refine lv_if_lt (tgt := 193) G.1 G.2.1 d_Ma_enterMethod_149 (by decide) (fun c149 => ?_) (fun c149 => ?_)
              · skip
                have h := h.1 c149
                exact J_193 s_j147 x2j147 x6j147 H locs h hP hD hS ls (lv_sub hl [0, 1, 2, 4] rfl)
              · skip
                have h := h.2 c149
                refine lv_aload_n G.1 G.2.1 d_Ma_enterMethod_152 rfl (lv_at hl 0 rfl) ?_
                refine ugf (v := .ref (ad (lk a0 14))) G hP h_a0 iMa rfl 14 (by decide) rfl q1090 rfl rfl d_Ma_enterMethod_153 ?_
                refine lv_aload_n G.1 G.2.1 d_Ma_enterMethod_156 rfl (lv_at hl 0 rfl) ?_
                refine ugf (v := .ref (ad (lk a0 0))) G hP h_a0 iMa rfl 0 (by decide) rfl q1065 rfl rfl d_Ma_enterMethod_157 ?_
                refine lv_iload G.1 G.2.1 d_Ma_enterMethod_160 (lv_at hl 5 rfl) ?_
                refine lv_iload G.1 G.2.1 d_Ma_enterMethod_162 (lv_at hl 3 rfl) ?_
                refine ucVi (As := [.ref (ad (lk a0 0)), .int x8j147, .int x5j147]) (rest := []) G hP hD hS (cu_Fi_seekForObject l D g ad y _ s_j147 (lk a0 14) (lk a0 0) x8j147 x5j147 H.size (lk_4_14 h_a0) (lk_4_0 h_a0) h) w9_Fi_seekForObject q1893 ⟨Nat.le_of_ble_eq_true rfl, Nat.le_of_ble_eq_true rfl⟩ rfl rfl (lk_4_14 h_a0) (q := (RFi, TFi, 10)) rfl rfl hl.1 rfl (Nat.le_of_ble_eq_true rfl) rfl ⟨Nat.le_refl _, Nat.le_refl _⟩ d_Ma_enterMethod_164 (fun r_21 s_22 H locs h hP hD hS => ?_)
                have J_189 : ∀ (s_j189 : St) (x2j189 : Int32) (x6j189 : Int32) (H : Heap) (locs : List Loc), wj_Ma_enterMethod_189 y Post a0 a1 s_j189 x2j189 x6j189 → va_P D CL (ws g ad y s_j189) H → va_D A (ws g ad y s_j189) → va_S A s.heap H locs → ∀ ls, lv_has ls 10 [(0, .ref (ad a0)), (1, .ref (ad a1)), (2, .int x2j189), (6, .int x6j189)] → W p l e ru_Ma_enterMethod s m args below meth c H locs 0 0 Q (F0 m 189 ls []) := by
                  intro s_j189 x2j189 x6j189 H locs h hP hD hS ls hl
                  unfold wj_Ma_enterMethod_189 at h
                  refine lv_iconst (v := 1) G.1 G.2.1 d_Ma_enterMethod_189 (by decide) ?_
                  refine lv_goto (tgt := 194) G.1 G.2.1 d_Ma_enterMethod_190 (by decide) ?_
                  exact J_194 s_j189 x2j189 x6j189 1 H locs h hP hD hS ls (lv_sub hl [0, 1, 2, 3] rfl)
                refine lv_if_ne (tgt := 189) G.1 G.2.1 d_Ma_enterMethod_167 (by decide) (fun c167 => ?_) (fun c167 => ?_)
                · skip
                  have h := h.1 c167
                  exact J_189 s_22 x2j147 x6j147 H locs h hP hD hS ls (lv_sub hl [0, 1, 2, 4] rfl)
                · skip
                  have h := h.2 c167
                  refine lv_aload_n G.1 G.2.1 d_Ma_enterMethod_170 rfl (lv_at hl 0 rfl) ?_
                  refine W.eq (g2 := F0 m 171 ls [.ref (ad a0)]) rfl ?_
                  refine ugf (v := .ref (ad (lk a0 14))) G hP h_a0 iMa rfl 14 (by decide) rfl q1090 rfl rfl d_Ma_enterMethod_171 ?_
                  refine lv_aload_n G.1 G.2.1 d_Ma_enterMethod_174 rfl (lv_at hl 0 rfl) ?_
                  refine ugf (v := .ref (ad (lk a0 0))) G hP h_a0 iMa rfl 0 (by decide) rfl q1065 rfl rfl d_Ma_enterMethod_175 ?_
                  refine lv_iload G.1 G.2.1 d_Ma_enterMethod_178 (lv_at hl 5 rfl) ?_
                  refine lv_iload G.1 G.2.1 d_Ma_enterMethod_180 (lv_at hl 3 rfl) ?_
                  refine lv_iconst (v := 5) G.1 G.2.1 d_Ma_enterMethod_182 (by decide) ?_
                  refine ucVi (As := [.ref (ad (lk a0 0)), .int x8j147, .int x5j147, .int 5]) (rest := []) G hP hD hS (cu_Fi_seekInFaces l D g ad y _ s_22 (lk a0 14) (lk a0 0) x8j147 x5j147 5 H.size (lk_4_14 h_a0) (lk_4_0 h_a0) h) w9_Fi_seekInFaces q1897 ⟨Nat.le_of_ble_eq_true rfl, Nat.le_of_ble_eq_true rfl⟩ rfl rfl (lk_4_14 h_a0) (q := (RFi, TFi, 10)) rfl rfl hl.1 rfl (Nat.le_of_ble_eq_true rfl) rfl ⟨Nat.le_refl _, Nat.le_refl _⟩ d_Ma_enterMethod_183 (fun r_23 s_24 H locs h hP hD hS => ?_)
                  refine lv_if_eq (tgt := 193) G.1 G.2.1 d_Ma_enterMethod_186 (by decide) (fun c186 => ?_) (fun c186 => ?_)
                  · skip
                    have h := h.1 c186
                    exact J_193 s_24 x2j147 x6j147 H locs h hP hD hS ls (lv_sub hl [0, 1, 2, 4] rfl)
                  · skip
                    have h := h.2 c186
                    exact J_189 s_24 x2j147 x6j147 H locs h hP hD hS ls (lv_sub hl [0, 1, 2, 4] rfl)
            refine lv_icmp_ne (tgt := 147) G.1 G.2.1 d_Ma_enterMethod_116 (by decide) (fun c116 => ?_) (fun c116 => ?_)
            · skip
              have h := h.1 c116
              exact J_147 s_18 x2j51 x5j51 (z0j51 + z1j51) r_17 H locs h hP hD hS ls (lv_sub hl [3, 4, 5, 7, 2, 0] rfl)
            · skip
              have h := h.2 c116
              refine lv_iload G.1 G.2.1 d_Ma_enterMethod_119 (lv_at hl 0 rfl) ?_
              have J_143 : ∀ (s_j143 : St) (H : Heap) (locs : List Loc), wj_Ma_enterMethod_143 y Post a0 a1 s_j143 → va_P D CL (ws g ad y s_j143) H → va_D A (ws g ad y s_j143) → va_S A s.heap H locs → ∀ ls, lv_has ls 10 [] → W p l e ru_Ma_enterMethod s m args below meth c H locs 0 0 Q (F0 m 143 ls []) := by
                intro s_j143 H locs h hP hD hS ls hl
                unfold wj_Ma_enterMethod_143 at h
                refine lv_sipush (v := 5915) G.1 G.2.1 d_Ma_enterMethod_143 (by decide) ?_
                exact hret _ _ _ _ _ _ _ ls h hP hD hS (Nat.le_refl _) (Nat.le_refl _) d_Ma_enterMethod_146
              refine lv_if_lt (tgt := 143) G.1 G.2.1 d_Ma_enterMethod_121 (by decide) (fun c121 => ?_) (fun c121 => ?_)
              · skip
                have h := h.1 c121
                exact J_143 s_18 H locs h hP hD hS ls (lv_sub hl [] rfl)
              · skip
                have h := h.2 c121
                refine lv_aload_n G.1 G.2.1 d_Ma_enterMethod_124 rfl (lv_at hl 3 rfl) ?_
                refine W.eq (g2 := F0 m 125 ls [.ref (ad a0)]) rfl ?_
                refine ugf (v := .ref (ad (lk a0 0))) G hP h_a0 iMa rfl 0 (by decide) rfl q1065 rfl rfl d_Ma_enterMethod_125 ?_
                refine lv_iload G.1 G.2.1 d_Ma_enterMethod_128 (lv_at hl 0 rfl) ?_
                refine lv_aload_n G.1 G.2.1 d_Ma_enterMethod_130 rfl (lv_at hl 3 rfl) ?_
                refine ugf (v := .ref (ad (lk a0 14))) G hP h_a0 iMa rfl 14 (by decide) rfl q1090 rfl rfl d_Ma_enterMethod_131 ?_
                refine ugf (v := .int (sV s_18 (lk a0 14) 2)) G hP (lk_4_14 h_a0) iFi rfl 2 (by decide) rfl q733 rfl rfl d_Ma_enterMethod_134 ?_
                refine ucVi (As := [.int r_17, .int (sV s_18 (lk a0 14) 2)]) (rest := []) G hP hD hS (cu_Wd_below l D g ad y _ s_18 (lk a0 0) r_17 (sV s_18 (lk a0 14) 2) H.size (lk_4_0 h_a0) h) w9_Wd_below q1889 ⟨Nat.le_of_ble_eq_true rfl, Nat.le_of_ble_eq_true rfl⟩ rfl rfl (lk_4_0 h_a0) (q := (RWd, TWd, 17)) rfl rfl hl.1 rfl (Nat.le_of_ble_eq_true rfl) rfl ⟨Nat.le_refl _, Nat.le_refl _⟩ d_Ma_enterMethod_137 (fun r_25 s_26 H locs h hP hD hS => ?_)
                refine lv_if_ne (tgt := 147) G.1 G.2.1 d_Ma_enterMethod_140 (by decide) (fun c140 => ?_) (fun c140 => ?_)
                · skip
                  have h := h.1 c140
                  exact J_147 s_26 x2j51 x5j51 (z0j51 + z1j51) r_17 H locs h hP hD hS ls (lv_sub hl [3, 4, 5, 7, 2, 0] rfl)
                · skip
                  have h := h.2 c140
                  exact J_143 s_26 H locs h hP hD hS ls (lv_sub hl [] rfl)
      · skip
        have h := h.2 c74
        refine lv_iconst (v := 2) G.1 G.2.1 d_Ma_enterMethod_77 (by decide) ?_
        exact hret _ _ _ _ _ _ _ ls h hP hD hS (Nat.le_refl _) (Nat.le_refl _) d_Ma_enterMethod_78
  refine lv_icmp_ne (tgt := 50) G.1 G.2.1 d_Ma_enterMethod_43 (by decide) (fun c43 => ?_) (fun c43 => ?_)
  · skip
    have h := h.1 c43
    refine W.eq (g2 := F0 m 50 ls [.int r_3]) rfl ?_
    refine lv_iconst (v := 1) G.1 G.2.1 d_Ma_enterMethod_50 (by decide) ?_
    exact J_51 s_4 v2 x_1 x_2 r_3 1 H locs h hP hD hS ls (lv_sub hl [2, 3, 4, 1, 0] rfl)
  · skip
    have h := h.2 c43
    refine W.eq (g2 := F0 m 46 ls [.int r_3]) rfl ?_
    refine lv_iconst (v := 0) G.1 G.2.1 d_Ma_enterMethod_46 (by decide) ?_
    refine lv_goto (tgt := 51) G.1 G.2.1 d_Ma_enterMethod_47 (by decide) ?_
    exact J_51 s_4 v2 x_1 x_2 r_3 0 H locs h hP hD hS ls (lv_sub hl [2, 3, 4, 1, 0] rfl)
theorem q1951 : Cond.methodLink "ClassWorks$Machine" 369 y_Ma_move ∈ lw_ok := lw_okmem (List.mem_of_getElem? (i := 1951) (by decide +kernel)) rfl
theorem q1954 : Cond.code y_Ma_move b_Ma_move 4 (some .int) ∈ lw_ok := lw_okmem (List.mem_of_getElem? (i := 1954) (by decide +kernel)) rfl
theorem q1953 : Cond.instanceMethod y_Ma_move ∈ lw_ok := lw_okmem (List.mem_of_getElem? (i := 1953) (by decide +kernel)) rfl
theorem q98 : Cond.selects y_Ma_move.cls y_Ma_move y_Ma_move ∈ lw_ok := lw_okmem (List.mem_of_getElem? (i := 98) (by decide +kernel)) rfl
theorem w9_Ma_move : CWv y_Ma_move b_Ma_move 4 (some .int) 2 ∧ Cond.instanceMethod y_Ma_move ∈ lw_ok ∧ Cond.selects y_Ma_move.cls y_Ma_move y_Ma_move ∈ lw_ok := ⟨⟨q1954, q344, by decide +kernel, by decide +kernel, by decide +kernel⟩, q1953, q98⟩
theorem q2020 : Cond.methodLink "ClassWorks$Machine" 381 y_Ma_useObject ∈ lw_ok := lw_okmem (List.mem_of_getElem? (i := 2020) (by decide +kernel)) rfl
theorem q2023 : Cond.code y_Ma_useObject b_Ma_useObject 7 (some .int) ∈ lw_ok := lw_okmem (List.mem_of_getElem? (i := 2023) (by decide +kernel)) rfl
theorem q2022 : Cond.instanceMethod y_Ma_useObject ∈ lw_ok := lw_okmem (List.mem_of_getElem? (i := 2022) (by decide +kernel)) rfl
theorem q102 : Cond.selects y_Ma_useObject.cls y_Ma_useObject y_Ma_useObject ∈ lw_ok := lw_okmem (List.mem_of_getElem? (i := 102) (by decide +kernel)) rfl
theorem w9_Ma_useObject : CWv y_Ma_useObject b_Ma_useObject 7 (some .int) 3 ∧ Cond.instanceMethod y_Ma_useObject ∈ lw_ok ∧ Cond.selects y_Ma_useObject.cls y_Ma_useObject y_Ma_useObject ∈ lw_ok := ⟨⟨q2023, q344, by decide +kernel, by decide +kernel, by decide +kernel⟩, q2022, q102⟩
theorem q2006 : Cond.methodLink "ClassWorks$Machine" 378 y_Ma_useRow ∈ lw_ok := lw_okmem (List.mem_of_getElem? (i := 2006) (by decide +kernel)) rfl
theorem q2009 : Cond.code y_Ma_useRow b_Ma_useRow 6 (some .int) ∈ lw_ok := lw_okmem (List.mem_of_getElem? (i := 2009) (by decide +kernel)) rfl
theorem q2008 : Cond.instanceMethod y_Ma_useRow ∈ lw_ok := lw_okmem (List.mem_of_getElem? (i := 2008) (by decide +kernel)) rfl
theorem q101 : Cond.selects y_Ma_useRow.cls y_Ma_useRow y_Ma_useRow ∈ lw_ok := lw_okmem (List.mem_of_getElem? (i := 101) (by decide +kernel)) rfl
theorem w9_Ma_useRow : CWv y_Ma_useRow b_Ma_useRow 6 (some .int) 2 ∧ Cond.instanceMethod y_Ma_useRow ∈ lw_ok ∧ Cond.selects y_Ma_useRow.cls y_Ma_useRow y_Ma_useRow ∈ lw_ok := ⟨⟨q2009, q344, by decide +kernel, by decide +kernel, by decide +kernel⟩, q2008, q101⟩
theorem q1984 : Cond.methodLink "ClassWorks$Machine" 375 y_Ma_useField ∈ lw_ok := lw_okmem (List.mem_of_getElem? (i := 1984) (by decide +kernel)) rfl
theorem q1987 : Cond.code y_Ma_useField b_Ma_useField 9 (some .int) ∈ lw_ok := lw_okmem (List.mem_of_getElem? (i := 1987) (by decide +kernel)) rfl
theorem q1986 : Cond.instanceMethod y_Ma_useField ∈ lw_ok := lw_okmem (List.mem_of_getElem? (i := 1986) (by decide +kernel)) rfl
theorem q99 : Cond.selects y_Ma_useField.cls y_Ma_useField y_Ma_useField ∈ lw_ok := lw_okmem (List.mem_of_getElem? (i := 99) (by decide +kernel)) rfl
theorem w9_Ma_useField : CWv y_Ma_useField b_Ma_useField 9 (some .int) 2 ∧ Cond.instanceMethod y_Ma_useField ∈ lw_ok ∧ Cond.selects y_Ma_useField.cls y_Ma_useField y_Ma_useField ∈ lw_ok := ⟨⟨q1987, q344, by decide +kernel, by decide +kernel, by decide +kernel⟩, q1986, q99⟩
theorem q1978 : Cond.methodLink "ClassWorks$Machine" 372 y_Ma_reckon ∈ lw_ok := lw_okmem (List.mem_of_getElem? (i := 1978) (by decide +kernel)) rfl
theorem q1980 : Cond.code y_Ma_reckon b_Ma_reckon 4 (some .int) ∈ lw_ok := lw_okmem (List.mem_of_getElem? (i := 1980) (by decide +kernel)) rfl
theorem q1979 : Cond.static y_Ma_reckon ∈ lw_ok := lw_okmem (List.mem_of_getElem? (i := 1979) (by decide +kernel)) rfl
theorem w9_Ma_reckon : CWv y_Ma_reckon b_Ma_reckon 4 (some .int) 2 ∧ Cond.static y_Ma_reckon ∈ lw_ok := ⟨⟨q1980, q344, by decide +kernel, by decide +kernel, by decide +kernel⟩, q1979⟩
theorem q1945 : Cond.methodLink "ClassWorks$Machine" 365 y_Ma_jumps ∈ lw_ok := lw_okmem (List.mem_of_getElem? (i := 1945) (by decide +kernel)) rfl
theorem q1947 : Cond.code y_Ma_jumps b_Ma_jumps 5 (some (.boolean)) ∈ lw_ok := lw_okmem (List.mem_of_getElem? (i := 1947) (by decide +kernel)) rfl
theorem q1946 : Cond.static y_Ma_jumps ∈ lw_ok := lw_okmem (List.mem_of_getElem? (i := 1946) (by decide +kernel)) rfl
theorem w9_Ma_jumps : CWv y_Ma_jumps b_Ma_jumps 5 (some (.boolean)) 2 ∧ Cond.static y_Ma_jumps ∈ lw_ok := ⟨⟨q1947, q344, by decide +kernel, by decide +kernel, by decide +kernel⟩, q1946⟩
theorem q1936 : Cond.methodLink "ClassWorks$Machine" 362 y_Ma_picked ∈ lw_ok := lw_okmem (List.mem_of_getElem? (i := 1936) (by decide +kernel)) rfl
theorem q1939 : Cond.code y_Ma_picked b_Ma_picked 8 (some .int) ∈ lw_ok := lw_okmem (List.mem_of_getElem? (i := 1939) (by decide +kernel)) rfl
theorem q1938 : Cond.instanceMethod y_Ma_picked ∈ lw_ok := lw_okmem (List.mem_of_getElem? (i := 1938) (by decide +kernel)) rfl
theorem q97 : Cond.selects y_Ma_picked.cls y_Ma_picked y_Ma_picked ∈ lw_ok := lw_okmem (List.mem_of_getElem? (i := 97) (by decide +kernel)) rfl
theorem w9_Ma_picked : CWv y_Ma_picked b_Ma_picked 8 (some .int) 2 ∧ Cond.instanceMethod y_Ma_picked ∈ lw_ok ∧ Cond.selects y_Ma_picked.cls y_Ma_picked y_Ma_picked ∈ lw_ok := ⟨⟨q1939, q344, by decide +kernel, by decide +kernel, by decide +kernel⟩, q1938, q97⟩
theorem q1915 : Cond.methodLink "ClassWorks$Machine" 359 y_Ma_endFrame ∈ lw_ok := lw_okmem (List.mem_of_getElem? (i := 1915) (by decide +kernel)) rfl
theorem q1918 : Cond.code y_Ma_endFrame b_Ma_endFrame 7 (none) ∈ lw_ok := lw_okmem (List.mem_of_getElem? (i := 1918) (by decide +kernel)) rfl
theorem q1917 : Cond.instanceMethod y_Ma_endFrame ∈ lw_ok := lw_okmem (List.mem_of_getElem? (i := 1917) (by decide +kernel)) rfl
theorem q93 : Cond.selects y_Ma_endFrame.cls y_Ma_endFrame y_Ma_endFrame ∈ lw_ok := lw_okmem (List.mem_of_getElem? (i := 93) (by decide +kernel)) rfl
theorem w9_Ma_endFrame : CWv y_Ma_endFrame b_Ma_endFrame 7 (none) 3 ∧ Cond.instanceMethod y_Ma_endFrame ∈ lw_ok ∧ Cond.selects y_Ma_endFrame.cls y_Ma_endFrame y_Ma_endFrame ∈ lw_ok := ⟨⟨q1918, q344, by decide +kernel, by decide +kernel, by decide +kernel⟩, q1917, q93⟩
theorem q1876 : Cond.methodLink "ClassWorks$Machine" 356 y_Ma_enterMethod ∈ lw_ok := lw_okmem (List.mem_of_getElem? (i := 1876) (by decide +kernel)) rfl
theorem q1879 : Cond.code y_Ma_enterMethod b_Ma_enterMethod 10 (some .int) ∈ lw_ok := lw_okmem (List.mem_of_getElem? (i := 1879) (by decide +kernel)) rfl
theorem q1878 : Cond.instanceMethod y_Ma_enterMethod ∈ lw_ok := lw_okmem (List.mem_of_getElem? (i := 1878) (by decide +kernel)) rfl
theorem q90 : Cond.selects y_Ma_enterMethod.cls y_Ma_enterMethod y_Ma_enterMethod ∈ lw_ok := lw_okmem (List.mem_of_getElem? (i := 90) (by decide +kernel)) rfl
theorem w9_Ma_enterMethod : CWv y_Ma_enterMethod b_Ma_enterMethod 10 (some .int) 3 ∧ Cond.instanceMethod y_Ma_enterMethod ∈ lw_ok ∧ Cond.selects y_Ma_enterMethod.cls y_Ma_enterMethod y_Ma_enterMethod ∈ lw_ok := ⟨⟨q1879, q344, by decide +kernel, by decide +kernel, by decide +kernel⟩, q1878, q90⟩
def y_Ma_perform : MethodName := ⟨"ClassWorks$Machine", "perform", "(LClassWorks$Runner;II)I"⟩
abbrev b_Ma_perform : ByteArray := prog_6_method_29_code
theorem d_Ma_perform_0 : decode b_Ma_perform 0 = .ok (.aload_n 0, 1) := by decide +kernel
theorem d_Ma_perform_1 : decode b_Ma_perform 1 = .ok (.getfield 69, 3) := by decide +kernel
theorem d_Ma_perform_4 : decode b_Ma_perform 4 = .ok (.getfield 224, 3) := by decide +kernel
theorem d_Ma_perform_7 : decode b_Ma_perform 7 = .ok (.getfield 228, 3) := by decide +kernel
theorem d_Ma_perform_10 : decode b_Ma_perform 10 = .ok (.iload_n 3, 1) := by decide +kernel
theorem d_Ma_perform_11 : decode b_Ma_perform 11 = .ok (.iaload, 1) := by decide +kernel
theorem d_Ma_perform_12 : decode b_Ma_perform 12 = .ok (.istore 4, 2) := by decide +kernel
theorem d_Ma_perform_14 : decode b_Ma_perform 14 = .ok (.aload_n 1, 1) := by decide +kernel
theorem d_Ma_perform_15 : decode b_Ma_perform 15 = .ok (.getfield 158, 3) := by decide +kernel
theorem d_Ma_perform_18 : decode b_Ma_perform 18 = .ok (.iconst 1, 1) := by decide +kernel
theorem d_Ma_perform_19 : decode b_Ma_perform 19 = .ok (.isub, 1) := by decide +kernel
theorem d_Ma_perform_20 : decode b_Ma_perform 20 = .ok (.istore 5, 2) := by decide +kernel
theorem d_Ma_perform_22 : decode b_Ma_perform 22 = .ok (.iload 4, 2) := by decide +kernel
theorem d_Ma_perform_24 : decode b_Ma_perform 24 = .ok (.bipush 50, 2) := by decide +kernel
theorem d_Ma_perform_26 : decode b_Ma_perform 26 = .ok (.if_icmp .lt 18, 3) := by decide +kernel
theorem d_Ma_perform_29 : decode b_Ma_perform 29 = .ok (.iload 4, 2) := by decide +kernel
theorem d_Ma_perform_31 : decode b_Ma_perform 31 = .ok (.bipush 53, 2) := by decide +kernel
theorem d_Ma_perform_33 : decode b_Ma_perform 33 = .ok (.if_icmp .gt 11, 3) := by decide +kernel
theorem d_Ma_perform_36 : decode b_Ma_perform 36 = .ok (.aload_n 0, 1) := by decide +kernel
theorem d_Ma_perform_37 : decode b_Ma_perform 37 = .ok (.aload_n 1, 1) := by decide +kernel
theorem d_Ma_perform_38 : decode b_Ma_perform 38 = .ok (.iload_n 2, 1) := by decide +kernel
theorem d_Ma_perform_39 : decode b_Ma_perform 39 = .ok (.iload_n 3, 1) := by decide +kernel
theorem d_Ma_perform_40 : decode b_Ma_perform 40 = .ok (.invokevirtual 356, 3) := by decide +kernel
theorem d_Ma_perform_43 : decode b_Ma_perform 43 = .ok (.ireturn, 1) := by decide +kernel
theorem d_Ma_perform_44 : decode b_Ma_perform 44 = .ok (.iload 4, 2) := by decide +kernel
theorem d_Ma_perform_46 : decode b_Ma_perform 46 = .ok (.bipush 57, 2) := by decide +kernel
theorem d_Ma_perform_48 : decode b_Ma_perform 48 = .ok (.if_icmp .lt 20, 3) := by decide +kernel
theorem d_Ma_perform_51 : decode b_Ma_perform 51 = .ok (.iload 4, 2) := by decide +kernel
theorem d_Ma_perform_53 : decode b_Ma_perform 53 = .ok (.bipush 59, 2) := by decide +kernel
theorem d_Ma_perform_55 : decode b_Ma_perform 55 = .ok (.if_icmp .gt 13, 3) := by decide +kernel
theorem d_Ma_perform_58 : decode b_Ma_perform 58 = .ok (.aload_n 0, 1) := by decide +kernel
theorem d_Ma_perform_59 : decode b_Ma_perform 59 = .ok (.aload_n 1, 1) := by decide +kernel
theorem d_Ma_perform_60 : decode b_Ma_perform 60 = .ok (.iload_n 2, 1) := by decide +kernel
theorem d_Ma_perform_61 : decode b_Ma_perform 61 = .ok (.iload 4, 2) := by decide +kernel
theorem d_Ma_perform_63 : decode b_Ma_perform 63 = .ok (.invokevirtual 359, 3) := by decide +kernel
theorem d_Ma_perform_66 : decode b_Ma_perform 66 = .ok (.iconst 0, 1) := by decide +kernel
theorem d_Ma_perform_67 : decode b_Ma_perform 67 = .ok (.ireturn, 1) := by decide +kernel
theorem d_Ma_perform_68 : decode b_Ma_perform 68 = .ok (.iload 4, 2) := by decide +kernel
theorem d_Ma_perform_70 : decode b_Ma_perform 70 = .ok (.bipush 23, 2) := by decide +kernel
theorem d_Ma_perform_72 : decode b_Ma_perform 72 = .ok (.if_icmp .lt 83, 3) := by decide +kernel
theorem d_Ma_perform_75 : decode b_Ma_perform 75 = .ok (.iload 4, 2) := by decide +kernel
theorem d_Ma_perform_77 : decode b_Ma_perform 77 = .ok (.bipush 40, 2) := by decide +kernel
theorem d_Ma_perform_79 : decode b_Ma_perform 79 = .ok (.if_icmp .gt 76, 3) := by decide +kernel
theorem d_Ma_perform_82 : decode b_Ma_perform 82 = .ok (.iload 4, 2) := by decide +kernel
theorem d_Ma_perform_84 : decode b_Ma_perform 84 = .ok (.bipush 40, 2) := by decide +kernel
theorem d_Ma_perform_86 : decode b_Ma_perform 86 = .ok (.if_icmp .ne 12, 3) := by decide +kernel
theorem d_Ma_perform_89 : decode b_Ma_perform 89 = .ok (.aload_n 0, 1) := by decide +kernel
theorem d_Ma_perform_90 : decode b_Ma_perform 90 = .ok (.aload_n 1, 1) := by decide +kernel
theorem d_Ma_perform_91 : decode b_Ma_perform 91 = .ok (.iload_n 3, 1) := by decide +kernel
theorem d_Ma_perform_92 : decode b_Ma_perform 92 = .ok (.invokevirtual 362, 3) := by decide +kernel
theorem d_Ma_perform_95 : decode b_Ma_perform 95 = .ok (.goto 30, 3) := by decide +kernel
theorem d_Ma_perform_98 : decode b_Ma_perform 98 = .ok (.aload_n 1, 1) := by decide +kernel
theorem d_Ma_perform_99 : decode b_Ma_perform 99 = .ok (.iload 4, 2) := by decide +kernel
theorem d_Ma_perform_101 : decode b_Ma_perform 101 = .ok (.invokestatic 365, 3) := by decide +kernel
theorem d_Ma_perform_104 : decode b_Ma_perform 104 = .ok (.ifCond .eq 20, 3) := by decide +kernel
theorem d_Ma_perform_107 : decode b_Ma_perform 107 = .ok (.aload_n 0, 1) := by decide +kernel
theorem d_Ma_perform_108 : decode b_Ma_perform 108 = .ok (.getfield 69, 3) := by decide +kernel
theorem d_Ma_perform_111 : decode b_Ma_perform 111 = .ok (.getfield 224, 3) := by decide +kernel
theorem d_Ma_perform_114 : decode b_Ma_perform 114 = .ok (.getfield 228, 3) := by decide +kernel
theorem d_Ma_perform_117 : decode b_Ma_perform 117 = .ok (.iload_n 3, 1) := by decide +kernel
theorem d_Ma_perform_118 : decode b_Ma_perform 118 = .ok (.iconst 1, 1) := by decide +kernel
theorem d_Ma_perform_119 : decode b_Ma_perform 119 = .ok (.iadd, 1) := by decide +kernel
theorem d_Ma_perform_120 : decode b_Ma_perform 120 = .ok (.iaload, 1) := by decide +kernel
theorem d_Ma_perform_121 : decode b_Ma_perform 121 = .ok (.goto 4, 3) := by decide +kernel
theorem d_Ma_perform_124 : decode b_Ma_perform 124 = .ok (.iconst (-1), 1) := by decide +kernel
theorem d_Ma_perform_125 : decode b_Ma_perform 125 = .ok (.istore 6, 2) := by decide +kernel
theorem d_Ma_perform_127 : decode b_Ma_perform 127 = .ok (.aload_n 1, 1) := by decide +kernel
theorem d_Ma_perform_128 : decode b_Ma_perform 128 = .ok (.getfield 217, 3) := by decide +kernel
theorem d_Ma_perform_131 : decode b_Ma_perform 131 = .ok (.iload 5, 2) := by decide +kernel
theorem d_Ma_perform_133 : decode b_Ma_perform 133 = .ok (.iload 6, 2) := by decide +kernel
theorem d_Ma_perform_135 : decode b_Ma_perform 135 = .ok (.ifCond .ge 15, 3) := by decide +kernel
theorem d_Ma_perform_138 : decode b_Ma_perform 138 = .ok (.aload_n 1, 1) := by decide +kernel
theorem d_Ma_perform_139 : decode b_Ma_perform 139 = .ok (.getfield 217, 3) := by decide +kernel
theorem d_Ma_perform_142 : decode b_Ma_perform 142 = .ok (.iload 5, 2) := by decide +kernel
theorem d_Ma_perform_144 : decode b_Ma_perform 144 = .ok (.iaload, 1) := by decide +kernel
theorem d_Ma_perform_145 : decode b_Ma_perform 145 = .ok (.iconst 1, 1) := by decide +kernel
theorem d_Ma_perform_146 : decode b_Ma_perform 146 = .ok (.iadd, 1) := by decide +kernel
theorem d_Ma_perform_147 : decode b_Ma_perform 147 = .ok (.goto 5, 3) := by decide +kernel
theorem d_Ma_perform_150 : decode b_Ma_perform 150 = .ok (.iload 6, 2) := by decide +kernel
theorem d_Ma_perform_152 : decode b_Ma_perform 152 = .ok (.iastore, 1) := by decide +kernel
theorem d_Ma_perform_153 : decode b_Ma_perform 153 = .ok (.iconst 0, 1) := by decide +kernel
theorem d_Ma_perform_154 : decode b_Ma_perform 154 = .ok (.ireturn, 1) := by decide +kernel
theorem d_Ma_perform_155 : decode b_Ma_perform 155 = .ok (.iload 4, 2) := by decide +kernel
theorem d_Ma_perform_157 : decode b_Ma_perform 157 = .ok (.bipush 8, 2) := by decide +kernel
theorem d_Ma_perform_159 : decode b_Ma_perform 159 = .ok (.if_icmp .lt 17, 3) := by decide +kernel
theorem d_Ma_perform_162 : decode b_Ma_perform 162 = .ok (.iload 4, 2) := by decide +kernel
theorem d_Ma_perform_164 : decode b_Ma_perform 164 = .ok (.bipush 19, 2) := by decide +kernel
theorem d_Ma_perform_166 : decode b_Ma_perform 166 = .ok (.if_icmp .lt 21, 3) := by decide +kernel
theorem d_Ma_perform_169 : decode b_Ma_perform 169 = .ok (.iload 4, 2) := by decide +kernel
theorem d_Ma_perform_171 : decode b_Ma_perform 171 = .ok (.bipush 22, 2) := by decide +kernel
theorem d_Ma_perform_173 : decode b_Ma_perform 173 = .ok (.if_icmp .gt 14, 3) := by decide +kernel
theorem d_Ma_perform_176 : decode b_Ma_perform 176 = .ok (.aload_n 0, 1) := by decide +kernel
theorem d_Ma_perform_177 : decode b_Ma_perform 177 = .ok (.aload_n 1, 1) := by decide +kernel
theorem d_Ma_perform_178 : decode b_Ma_perform 178 = .ok (.iload_n 3, 1) := by decide +kernel
theorem d_Ma_perform_179 : decode b_Ma_perform 179 = .ok (.invokevirtual 369, 3) := by decide +kernel
theorem d_Ma_perform_182 : decode b_Ma_perform 182 = .ok (.istore 6, 2) := by decide +kernel
theorem d_Ma_perform_184 : decode b_Ma_perform 184 = .ok (.goto 75, 3) := by decide +kernel
theorem d_Ma_perform_187 : decode b_Ma_perform 187 = .ok (.iload 4, 2) := by decide +kernel
theorem d_Ma_perform_189 : decode b_Ma_perform 189 = .ok (.bipush 18, 2) := by decide +kernel
theorem d_Ma_perform_191 : decode b_Ma_perform 191 = .ok (.if_icmp .gt 14, 3) := by decide +kernel
theorem d_Ma_perform_194 : decode b_Ma_perform 194 = .ok (.aload_n 1, 1) := by decide +kernel
theorem d_Ma_perform_195 : decode b_Ma_perform 195 = .ok (.iload 4, 2) := by decide +kernel
theorem d_Ma_perform_197 : decode b_Ma_perform 197 = .ok (.invokestatic 372, 3) := by decide +kernel
theorem d_Ma_perform_200 : decode b_Ma_perform 200 = .ok (.istore 6, 2) := by decide +kernel
theorem d_Ma_perform_202 : decode b_Ma_perform 202 = .ok (.goto 57, 3) := by decide +kernel
theorem d_Ma_perform_205 : decode b_Ma_perform 205 = .ok (.iload 4, 2) := by decide +kernel
theorem d_Ma_perform_207 : decode b_Ma_perform 207 = .ok (.bipush 46, 2) := by decide +kernel
theorem d_Ma_perform_209 : decode b_Ma_perform 209 = .ok (.if_icmp .lt 22, 3) := by decide +kernel
theorem d_Ma_perform_212 : decode b_Ma_perform 212 = .ok (.iload 4, 2) := by decide +kernel
theorem d_Ma_perform_214 : decode b_Ma_perform 214 = .ok (.bipush 49, 2) := by decide +kernel
theorem d_Ma_perform_216 : decode b_Ma_perform 216 = .ok (.if_icmp .gt 15, 3) := by decide +kernel
theorem d_Ma_perform_219 : decode b_Ma_perform 219 = .ok (.aload_n 0, 1) := by decide +kernel
theorem d_Ma_perform_220 : decode b_Ma_perform 220 = .ok (.aload_n 1, 1) := by decide +kernel
theorem d_Ma_perform_221 : decode b_Ma_perform 221 = .ok (.iload 4, 2) := by decide +kernel
theorem d_Ma_perform_223 : decode b_Ma_perform 223 = .ok (.invokevirtual 375, 3) := by decide +kernel
theorem d_Ma_perform_226 : decode b_Ma_perform 226 = .ok (.istore 6, 2) := by decide +kernel
theorem d_Ma_perform_228 : decode b_Ma_perform 228 = .ok (.goto 31, 3) := by decide +kernel
theorem d_Ma_perform_231 : decode b_Ma_perform 231 = .ok (.iload 4, 2) := by decide +kernel
theorem d_Ma_perform_233 : decode b_Ma_perform 233 = .ok (.bipush 45, 2) := by decide +kernel
theorem d_Ma_perform_235 : decode b_Ma_perform 235 = .ok (.if_icmp .gt 15, 3) := by decide +kernel
theorem d_Ma_perform_238 : decode b_Ma_perform 238 = .ok (.aload_n 0, 1) := by decide +kernel
theorem d_Ma_perform_239 : decode b_Ma_perform 239 = .ok (.aload_n 1, 1) := by decide +kernel
theorem d_Ma_perform_240 : decode b_Ma_perform 240 = .ok (.iload 4, 2) := by decide +kernel
theorem d_Ma_perform_242 : decode b_Ma_perform 242 = .ok (.invokevirtual 378, 3) := by decide +kernel
theorem d_Ma_perform_245 : decode b_Ma_perform 245 = .ok (.istore 6, 2) := by decide +kernel
theorem d_Ma_perform_247 : decode b_Ma_perform 247 = .ok (.goto 12, 3) := by decide +kernel
theorem d_Ma_perform_250 : decode b_Ma_perform 250 = .ok (.aload_n 0, 1) := by decide +kernel
theorem d_Ma_perform_251 : decode b_Ma_perform 251 = .ok (.aload_n 1, 1) := by decide +kernel
theorem d_Ma_perform_252 : decode b_Ma_perform 252 = .ok (.iload_n 2, 1) := by decide +kernel
theorem d_Ma_perform_253 : decode b_Ma_perform 253 = .ok (.iload_n 3, 1) := by decide +kernel
theorem d_Ma_perform_254 : decode b_Ma_perform 254 = .ok (.invokevirtual 381, 3) := by decide +kernel
theorem d_Ma_perform_257 : decode b_Ma_perform 257 = .ok (.istore 6, 2) := by decide +kernel
theorem d_Ma_perform_259 : decode b_Ma_perform 259 = .ok (.aload_n 1, 1) := by decide +kernel
theorem d_Ma_perform_260 : decode b_Ma_perform 260 = .ok (.getfield 217, 3) := by decide +kernel
theorem d_Ma_perform_263 : decode b_Ma_perform 263 = .ok (.iload 5, 2) := by decide +kernel
theorem d_Ma_perform_265 : decode b_Ma_perform 265 = .ok (.dup2, 1) := by decide +kernel
theorem d_Ma_perform_266 : decode b_Ma_perform 266 = .ok (.iaload, 1) := by decide +kernel
theorem d_Ma_perform_267 : decode b_Ma_perform 267 = .ok (.iload 6, 2) := by decide +kernel
theorem d_Ma_perform_269 : decode b_Ma_perform 269 = .ok (.ifCond .ne 7, 3) := by decide +kernel
theorem d_Ma_perform_272 : decode b_Ma_perform 272 = .ok (.iconst 1, 1) := by decide +kernel
theorem d_Ma_perform_273 : decode b_Ma_perform 273 = .ok (.goto 4, 3) := by decide +kernel
theorem d_Ma_perform_276 : decode b_Ma_perform 276 = .ok (.iconst 0, 1) := by decide +kernel
theorem d_Ma_perform_277 : decode b_Ma_perform 277 = .ok (.iadd, 1) := by decide +kernel
theorem d_Ma_perform_278 : decode b_Ma_perform 278 = .ok (.iastore, 1) := by decide +kernel
theorem d_Ma_perform_279 : decode b_Ma_perform 279 = .ok (.iload 6, 2) := by decide +kernel
theorem d_Ma_perform_281 : decode b_Ma_perform 281 = .ok (.ireturn, 1) := by decide +kernel
abbrev ru_Ma_perform : Room := { frames := 3, cells := 0, slots := 0, locals := 174 }
def wj_Ma_perform_277 (y : Ly) (Post : St → Int32 → Prop) (a0 : Nat) (a1 : Nat) (s_j277 : St) (x6j277 : Int32) (z1j277 : Int32) (z2j277 : Int32) (z3j277 : Int32) : Prop := xS y s_j277 a1 13 z1j277 (z2j277 + z3j277) (fun s_3 : St => Post s_3 x6j277)
def wj_Ma_perform_259 (y : Ly) (Post : St → Int32 → Prop) (a0 : Nat) (a1 : Nat) (s_j259 : St) (x5j259 : Int32) (x6j259 : Int32) : Prop := xA y s_j259 a1 13 x5j259 (fun x_2 : Int32 => ((¬ x6j259 = 0 → wj_Ma_perform_277 y Post a0 a1 s_j259 x6j259 x5j259 x_2 0) ∧ (x6j259 = 0 → wj_Ma_perform_277 y Post a0 a1 s_j259 x6j259 x5j259 x_2 1)))
def wj_Ma_perform_176 (y : Ly) (Post : St → Int32 → Prop) (a0 : Nat) (a1 : Nat) (s_j176 : St) (x3j176 : Int32) (x5j176 : Int32) : Prop := wu_Ma_move y (fun (s_5 : St) (r_4 : Int32) => wj_Ma_perform_259 y Post a0 a1 s_5 x5j176 r_4) s_j176 a0 a1 x3j176
def wj_Ma_perform_231 (y : Ly) (Post : St → Int32 → Prop) (a0 : Nat) (a1 : Nat) (s_j231 : St) (x2j231 : Int32) (x3j231 : Int32) (x4j231 : Int32) (x5j231 : Int32) : Prop := ((45 < x4j231 → wu_Ma_useObject y (fun (s_7 : St) (r_6 : Int32) => wj_Ma_perform_259 y Post a0 a1 s_7 x5j231 r_6) s_j231 a0 a1 x2j231 x3j231) ∧ (¬ (45 < x4j231) → wu_Ma_useRow y (fun (s_9 : St) (r_8 : Int32) => wj_Ma_perform_259 y Post a0 a1 s_9 x5j231 r_8) s_j231 a0 a1 x4j231))
def wj_Ma_perform_187 (y : Ly) (Post : St → Int32 → Prop) (a0 : Nat) (a1 : Nat) (s_j187 : St) (x2j187 : Int32) (x3j187 : Int32) (x4j187 : Int32) (x5j187 : Int32) : Prop := ((18 < x4j187 → ((x4j187 < 46 → wj_Ma_perform_231 y Post a0 a1 s_j187 x2j187 x3j187 x4j187 x5j187) ∧ (¬ (x4j187 < 46) → ((49 < x4j187 → wj_Ma_perform_231 y Post a0 a1 s_j187 x2j187 x3j187 x4j187 x5j187) ∧ (¬ (49 < x4j187) → wu_Ma_useField y (fun (s_11 : St) (r_10 : Int32) => wj_Ma_perform_259 y Post a0 a1 s_11 x5j187 r_10) s_j187 a0 a1 x4j187))))) ∧ (¬ (18 < x4j187) → wu_Ma_reckon y (fun (s_13 : St) (r_12 : Int32) => wj_Ma_perform_259 y Post a0 a1 s_13 x5j187 r_12) s_j187 a1 x4j187))
def wj_Ma_perform_155 (y : Ly) (Post : St → Int32 → Prop) (a0 : Nat) (a1 : Nat) (s_j155 : St) (x2j155 : Int32) (x3j155 : Int32) (x4j155 : Int32) (x5j155 : Int32) : Prop := ((x4j155 < 8 → wj_Ma_perform_176 y Post a0 a1 s_j155 x3j155 x5j155) ∧ (¬ (x4j155 < 8) → ((x4j155 < 19 → wj_Ma_perform_187 y Post a0 a1 s_j155 x2j155 x3j155 x4j155 x5j155) ∧ (¬ (x4j155 < 19) → ((22 < x4j155 → wj_Ma_perform_187 y Post a0 a1 s_j155 x2j155 x3j155 x4j155 x5j155) ∧ (¬ (22 < x4j155) → wj_Ma_perform_176 y Post a0 a1 s_j155 x3j155 x5j155))))))
def wj_Ma_perform_152 (y : Ly) (Post : St → Int32 → Prop) (a0 : Nat) (a1 : Nat) (s_j152 : St) (z1j152 : Int32) (z2j152 : Int32) : Prop := xS y s_j152 a1 13 z1j152 z2j152 (fun s_14 : St => Post s_14 0)
def wj_Ma_perform_125 (y : Ly) (Post : St → Int32 → Prop) (a0 : Nat) (a1 : Nat) (s_j125 : St) (x5j125 : Int32) (z0j125 : Int32) : Prop := ((0 ≤ z0j125 → wj_Ma_perform_152 y Post a0 a1 s_j125 x5j125 z0j125) ∧ (¬ (0 ≤ z0j125) → xA y s_j125 a1 13 x5j125 (fun x_15 : Int32 => wj_Ma_perform_152 y Post a0 a1 s_j125 x5j125 (x_15 + 1))))
def wj_Ma_perform_68 (y : Ly) (Post : St → Int32 → Prop) (a0 : Nat) (a1 : Nat) (s_j68 : St) (x2j68 : Int32) (x3j68 : Int32) (x4j68 : Int32) (x5j68 : Int32) : Prop := ((x4j68 < 23 → wj_Ma_perform_155 y Post a0 a1 s_j68 x2j68 x3j68 x4j68 x5j68) ∧ (¬ (x4j68 < 23) → ((40 < x4j68 → wj_Ma_perform_155 y Post a0 a1 s_j68 x2j68 x3j68 x4j68 x5j68) ∧ (¬ (40 < x4j68) → ((¬ x4j68 = 40 → wu_Ma_jumps y (fun (s_17 : St) (r_16 : Int32) => ((r_16 = 0 → wj_Ma_perform_125 y Post a0 a1 s_17 x5j68 (-1)) ∧ (¬ (r_16 = 0) → xA y s_17 (lk (lk a0 0) 10) 0 (x3j68 + 1) (fun x_18 : Int32 => wj_Ma_perform_125 y Post a0 a1 s_17 x5j68 x_18)))) s_j68 a1 x4j68) ∧ (x4j68 = 40 → wu_Ma_picked y (fun (s_20 : St) (r_19 : Int32) => wj_Ma_perform_125 y Post a0 a1 s_20 x5j68 r_19) s_j68 a0 a1 x3j68))))))
def wj_Ma_perform_44 (y : Ly) (Post : St → Int32 → Prop) (a0 : Nat) (a1 : Nat) (s_j44 : St) (x2j44 : Int32) (x3j44 : Int32) (x4j44 : Int32) (x5j44 : Int32) : Prop := ((x4j44 < 57 → wj_Ma_perform_68 y Post a0 a1 s_j44 x2j44 x3j44 x4j44 x5j44) ∧ (¬ (x4j44 < 57) → ((59 < x4j44 → wj_Ma_perform_68 y Post a0 a1 s_j44 x2j44 x3j44 x4j44 x5j44) ∧ (¬ (59 < x4j44) → wu_Ma_endFrame y (fun (s_22 : St) => Post s_22 0) s_j44 a0 a1 x2j44 x4j44))))
def wu_Ma_perform (y : Ly) (Post : St → Int32 → Prop) (σ : St) (a0 : Nat) (a1 : Nat) (v2 : Int32) (v3 : Int32) : Prop := xA y σ (lk (lk a0 0) 10) 0 v3 (fun x_1 : Int32 => ((x_1 < 50 → wj_Ma_perform_44 y Post a0 a1 σ v2 v3 x_1 ((sV σ a1 10) - 1)) ∧ (¬ (x_1 < 50) → ((53 < x_1 → wj_Ma_perform_44 y Post a0 a1 σ v2 v3 x_1 ((sV σ a1 10) - 1)) ∧ (¬ (53 < x_1) → wu_Ma_enterMethod y (fun (s_24 : St) (r_23 : Int32) => Post s_24 r_23) σ a0 a1 v2 v3)))))
set_option maxHeartbeats 4000000 in
set_option maxRecDepth 100000 in
theorem cu_Ma_perform (l : Launch) (D : va_G) (g : Nat → ClassId) (ad : Nat → Nat) (y : Ly) (Post : St → Int32 → Prop) (σ : St) (a0 : Nat) (a1 : Nat) (v2 : Int32) (v3 : Int32) (sz : Nat) (h_a0 : cl a0 = 4) (h_a1 : cl a1 = 7) (h : wu_Ma_perform y Post σ a0 a1 v2 v3) : Met l y_Ma_perform (mw y_Ma_perform b_Ma_perform 7 (some .int)) ru_Ma_perform (PC g D [] [.ref (ad a0), .ref (ad a1), .int v2, .int v3] sz (ws g ad y σ)) (va_Qi (fun (r : Int32) (u : St) => Post u r) (QW D (va_A (ws g ad y σ) sz) (fun u => ws g ad y u)) (va_A (ws g ad y σ) sz)) 0 0 (va_A (ws g ad y σ) sz) := by
  refine ofI (by decide +kernel) (Nat.le_of_ble_eq_true rfl) ?_
  intro p e s m args below meth c A Q ls H locs G hsz hP hD hS hl hret
  subst hsz
  have hl : lv_has ls 7 [(0, .ref (ad a0)), (1, .ref (ad a1)), (2, .int v2), (3, .int v3)] := hl
  unfold wu_Ma_perform at h
  refine lv_aload_n G.1 G.2.1 d_Ma_perform_0 rfl (lv_at hl 0 rfl) ?_
  refine ugf (v := .ref (ad (lk a0 0))) G hP h_a0 iMa rfl 0 (by decide) rfl q1065 rfl rfl d_Ma_perform_1 ?_
  refine ugf (v := .ref (ad (lk (lk a0 0) 10))) G hP (lk_4_0 h_a0) iWd rfl 10 (by decide) rfl q845 rfl rfl d_Ma_perform_4 ?_
  refine ugf (v := .ref (yP y (lk (lk a0 0) 10) 0)) G hP (lk_9_10 (lk_4_0 h_a0)) iIn rfl 0 (by decide) rfl q385 rfl rfl d_Ma_perform_7 ?_
  refine lv_iload_n G.1 G.2.1 d_Ma_perform_10 rfl (lv_at hl 3 rfl) ?_
  refine uiald G hP (kdp (lk_9_10 (lk_4_0 h_a0)) rfl) (typ (lk_9_10 (lk_4_0 h_a0)) rfl) h d_Ma_perform_11 (fun x_1 h => ?_)
  refine lv_istore (lv' := [(4, .int x_1), (0, .ref (ad a0)), (1, .ref (ad a1)), (2, .int v2), (3, .int v3)]) G.1 G.2.1 d_Ma_perform_12 hl (by decide) rfl (fun ls hl => ?_)
  refine lv_aload_n G.1 G.2.1 d_Ma_perform_14 rfl (lv_at hl 2 rfl) ?_
  refine ugf (v := .int (sV σ a1 10)) G hP h_a1 iRu rfl 10 (by decide) rfl q1006 rfl rfl d_Ma_perform_15 ?_
  refine lv_iconst (v := 1) G.1 G.2.1 d_Ma_perform_18 (by decide) ?_
  refine lv_isub G.1 G.2.1 d_Ma_perform_19 ?_
  refine W.eq (g2 := F0 m 20 ls [.int ((sV σ a1 10) - 1)]) rfl ?_
  refine lv_istore (lv' := [(5, .int ((sV σ a1 10) - 1)), (4, .int x_1), (0, .ref (ad a0)), (1, .ref (ad a1)), (2, .int v2), (3, .int v3)]) G.1 G.2.1 d_Ma_perform_20 hl (by decide) rfl (fun ls hl => ?_)
  refine lv_iload G.1 G.2.1 d_Ma_perform_22 (lv_at hl 1 rfl) ?_
  refine lv_bipush (v := 50) G.1 G.2.1 d_Ma_perform_24 (by decide) ?_
  have J_44 : ∀ (s_j44 : St) (x2j44 : Int32) (x3j44 : Int32) (x4j44 : Int32) (x5j44 : Int32) (H : Heap) (locs : List Loc), wj_Ma_perform_44 y Post a0 a1 s_j44 x2j44 x3j44 x4j44 x5j44 → va_P D CL (ws g ad y s_j44) H → va_D A (ws g ad y s_j44) → va_S A s.heap H locs → ∀ ls, lv_has ls 7 [(0, .ref (ad a0)), (1, .ref (ad a1)), (2, .int x2j44), (3, .int x3j44), (4, .int x4j44), (5, .int x5j44)] → W p l e ru_Ma_perform s m args below meth c H locs 0 0 Q (F0 m 44 ls []) := by
    intro s_j44 x2j44 x3j44 x4j44 x5j44 H locs h hP hD hS ls hl
    unfold wj_Ma_perform_44 at h
    refine lv_iload G.1 G.2.1 d_Ma_perform_44 (lv_at hl 4 rfl) ?_
    refine lv_bipush (v := 57) G.1 G.2.1 d_Ma_perform_46 (by decide) ?_
    have J_68 : ∀ (s_j68 : St) (x2j68 : Int32) (x3j68 : Int32) (x4j68 : Int32) (x5j68 : Int32) (H : Heap) (locs : List Loc), wj_Ma_perform_68 y Post a0 a1 s_j68 x2j68 x3j68 x4j68 x5j68 → va_P D CL (ws g ad y s_j68) H → va_D A (ws g ad y s_j68) → va_S A s.heap H locs → ∀ ls, lv_has ls 7 [(0, .ref (ad a0)), (1, .ref (ad a1)), (2, .int x2j68), (3, .int x3j68), (4, .int x4j68), (5, .int x5j68)] → W p l e ru_Ma_perform s m args below meth c H locs 0 0 Q (F0 m 68 ls []) := by
      intro s_j68 x2j68 x3j68 x4j68 x5j68 H locs h hP hD hS ls hl
      unfold wj_Ma_perform_68 at h
      refine lv_iload G.1 G.2.1 d_Ma_perform_68 (lv_at hl 4 rfl) ?_
      refine lv_bipush (v := 23) G.1 G.2.1 d_Ma_perform_70 (by decide) ?_
      have J_155 : ∀ (s_j155 : St) (x2j155 : Int32) (x3j155 : Int32) (x4j155 : Int32) (x5j155 : Int32) (H : Heap) (locs : List Loc), wj_Ma_perform_155 y Post a0 a1 s_j155 x2j155 x3j155 x4j155 x5j155 → va_P D CL (ws g ad y s_j155) H → va_D A (ws g ad y s_j155) → va_S A s.heap H locs → ∀ ls, lv_has ls 7 [(0, .ref (ad a0)), (1, .ref (ad a1)), (2, .int x2j155), (3, .int x3j155), (4, .int x4j155), (5, .int x5j155)] → W p l e ru_Ma_perform s m args below meth c H locs 0 0 Q (F0 m 155 ls []) := by
        intro s_j155 x2j155 x3j155 x4j155 x5j155 H locs h hP hD hS ls hl
        unfold wj_Ma_perform_155 at h
        refine lv_iload G.1 G.2.1 d_Ma_perform_155 (lv_at hl 4 rfl) ?_
        refine lv_bipush (v := 8) G.1 G.2.1 d_Ma_perform_157 (by decide) ?_
        have J_259 : ∀ (s_j259 : St) (x5j259 : Int32) (x6j259 : Int32) (H : Heap) (locs : List Loc), wj_Ma_perform_259 y Post a0 a1 s_j259 x5j259 x6j259 → va_P D CL (ws g ad y s_j259) H → va_D A (ws g ad y s_j259) → va_S A s.heap H locs → ∀ ls, lv_has ls 7 [(1, .ref (ad a1)), (5, .int x5j259), (6, .int x6j259)] → W p l e ru_Ma_perform s m args below meth c H locs 0 0 Q (F0 m 259 ls []) := by
          intro s_j259 x5j259 x6j259 H locs h hP hD hS ls hl
          unfold wj_Ma_perform_259 at h
          refine lv_aload_n G.1 G.2.1 d_Ma_perform_259 rfl (lv_at hl 0 rfl) ?_
          refine ugf (v := .ref (yP y a1 13)) G hP h_a1 iRu rfl 13 (by decide) rfl q1015 rfl rfl d_Ma_perform_260 ?_
          refine lv_iload G.1 G.2.1 d_Ma_perform_263 (lv_at hl 1 rfl) ?_
          refine lv_dup2_11 G.1 G.2.1 d_Ma_perform_265 rfl rfl ?_
          refine uiald G hP (kdp h_a1 rfl) (typ h_a1 rfl) h d_Ma_perform_266 (fun x_2 h => ?_)
          refine lv_iload G.1 G.2.1 d_Ma_perform_267 (lv_at hl 2 rfl) ?_
          have J_277 : ∀ (s_j277 : St) (x6j277 : Int32) (z1j277 : Int32) (z2j277 : Int32) (z3j277 : Int32) (H : Heap) (locs : List Loc), wj_Ma_perform_277 y Post a0 a1 s_j277 x6j277 z1j277 z2j277 z3j277 → va_P D CL (ws g ad y s_j277) H → va_D A (ws g ad y s_j277) → va_S A s.heap H locs → ∀ ls, lv_has ls 7 [(6, .int x6j277)] → W p l e ru_Ma_perform s m args below meth c H locs 0 0 Q (F0 m 277 ls [.int z3j277, .int z2j277, .int z1j277, .ref (yP y a1 13)]) := by
            intro s_j277 x6j277 z1j277 z2j277 z3j277 H locs h hP hD hS ls hl
            unfold wj_Ma_perform_277 at h
            refine lv_iadd G.1 G.2.1 d_Ma_perform_277 ?_
            refine uiast G hP hD hS (kdp h_a1 rfl) (typ h_a1 rfl) h d_Ma_perform_278 (fun s_3 H locs h hP hD hS => ?_)
            refine lv_iload G.1 G.2.1 d_Ma_perform_279 (lv_at hl 0 rfl) ?_
            exact hret _ _ _ _ _ _ _ ls h hP hD hS (Nat.le_refl _) (Nat.le_refl _) d_Ma_perform_281
          refine lv_if_ne (tgt := 276) G.1 G.2.1 d_Ma_perform_269 (by decide) (fun c269 => ?_) (fun c269 => ?_)
          · skip
            have h := h.1 c269
            refine lv_iconst (v := 0) G.1 G.2.1 d_Ma_perform_276 (by decide) ?_
            exact J_277 s_j259 x6j259 x5j259 x_2 0 H locs h hP hD hS ls (lv_sub hl [2] rfl)
          · skip
            have h := h.2 c269
            refine lv_iconst (v := 1) G.1 G.2.1 d_Ma_perform_272 (by decide) ?_
            refine lv_goto (tgt := 277) G.1 G.2.1 d_Ma_perform_273 (by decide) ?_
            exact J_277 s_j259 x6j259 x5j259 x_2 1 H locs h hP hD hS ls (lv_sub hl [2] rfl)
        have J_176 : ∀ (s_j176 : St) (x3j176 : Int32) (x5j176 : Int32) (H : Heap) (locs : List Loc), wj_Ma_perform_176 y Post a0 a1 s_j176 x3j176 x5j176 → va_P D CL (ws g ad y s_j176) H → va_D A (ws g ad y s_j176) → va_S A s.heap H locs → ∀ ls, lv_has ls 7 [(0, .ref (ad a0)), (1, .ref (ad a1)), (3, .int x3j176), (5, .int x5j176)] → W p l e ru_Ma_perform s m args below meth c H locs 0 0 Q (F0 m 176 ls []) := by
          intro s_j176 x3j176 x5j176 H locs h hP hD hS ls hl
          unfold wj_Ma_perform_176 at h
          refine lv_aload_n G.1 G.2.1 d_Ma_perform_176 rfl (lv_at hl 0 rfl) ?_
          refine lv_aload_n G.1 G.2.1 d_Ma_perform_177 rfl (lv_at hl 1 rfl) ?_
          refine lv_iload_n G.1 G.2.1 d_Ma_perform_178 rfl (lv_at hl 2 rfl) ?_
          refine ucVi (As := [.ref (ad a1), .int x3j176]) (rest := []) G hP hD hS (cu_Ma_move l D g ad y _ s_j176 a0 a1 x3j176 H.size h_a0 h_a1 h) w9_Ma_move q1951 ⟨Nat.le_of_ble_eq_true rfl, Nat.le_of_ble_eq_true rfl⟩ rfl rfl h_a0 (q := (RMa, TMa, 19)) rfl rfl hl.1 rfl (Nat.le_of_ble_eq_true rfl) rfl ⟨Nat.le_refl _, Nat.le_refl _⟩ d_Ma_perform_179 (fun r_4 s_5 H locs h hP hD hS => ?_)
          refine lv_istore (lv' := [(6, .int r_4), (0, .ref (ad a0)), (1, .ref (ad a1)), (3, .int x3j176), (5, .int x5j176)]) G.1 G.2.1 d_Ma_perform_182 hl (by decide) rfl (fun ls hl => ?_)
          refine lv_goto (tgt := 259) G.1 G.2.1 d_Ma_perform_184 (by decide) ?_
          exact J_259 s_5 x5j176 r_4 H locs h hP hD hS ls (lv_sub hl [2, 4, 0] rfl)
        refine lv_icmp_lt (tgt := 176) G.1 G.2.1 d_Ma_perform_159 (by decide) (fun c159 => ?_) (fun c159 => ?_)
        · skip
          have h := h.1 c159
          exact J_176 s_j155 x3j155 x5j155 H locs h hP hD hS ls (lv_sub hl [0, 1, 3, 5] rfl)
        · skip
          have h := h.2 c159
          refine lv_iload G.1 G.2.1 d_Ma_perform_162 (lv_at hl 4 rfl) ?_
          refine lv_bipush (v := 19) G.1 G.2.1 d_Ma_perform_164 (by decide) ?_
          have J_187 : ∀ (s_j187 : St) (x2j187 : Int32) (x3j187 : Int32) (x4j187 : Int32) (x5j187 : Int32) (H : Heap) (locs : List Loc), wj_Ma_perform_187 y Post a0 a1 s_j187 x2j187 x3j187 x4j187 x5j187 → va_P D CL (ws g ad y s_j187) H → va_D A (ws g ad y s_j187) → va_S A s.heap H locs → ∀ ls, lv_has ls 7 [(0, .ref (ad a0)), (1, .ref (ad a1)), (2, .int x2j187), (3, .int x3j187), (4, .int x4j187), (5, .int x5j187)] → W p l e ru_Ma_perform s m args below meth c H locs 0 0 Q (F0 m 187 ls []) := by
            intro s_j187 x2j187 x3j187 x4j187 x5j187 H locs h hP hD hS ls hl
            unfold wj_Ma_perform_187 at h
            refine lv_iload G.1 G.2.1 d_Ma_perform_187 (lv_at hl 4 rfl) ?_
            refine lv_bipush (v := 18) G.1 G.2.1 d_Ma_perform_189 (by decide) ?_
            refine lv_icmp_gt (tgt := 205) G.1 G.2.1 d_Ma_perform_191 (by decide) (fun c191 => ?_) (fun c191 => ?_)
            · skip
              have h := h.1 c191
              refine lv_iload G.1 G.2.1 d_Ma_perform_205 (lv_at hl 4 rfl) ?_
              refine lv_bipush (v := 46) G.1 G.2.1 d_Ma_perform_207 (by decide) ?_
              have J_231 : ∀ (s_j231 : St) (x2j231 : Int32) (x3j231 : Int32) (x4j231 : Int32) (x5j231 : Int32) (H : Heap) (locs : List Loc), wj_Ma_perform_231 y Post a0 a1 s_j231 x2j231 x3j231 x4j231 x5j231 → va_P D CL (ws g ad y s_j231) H → va_D A (ws g ad y s_j231) → va_S A s.heap H locs → ∀ ls, lv_has ls 7 [(0, .ref (ad a0)), (1, .ref (ad a1)), (2, .int x2j231), (3, .int x3j231), (4, .int x4j231), (5, .int x5j231)] → W p l e ru_Ma_perform s m args below meth c H locs 0 0 Q (F0 m 231 ls []) := by
                intro s_j231 x2j231 x3j231 x4j231 x5j231 H locs h hP hD hS ls hl
                unfold wj_Ma_perform_231 at h
                refine lv_iload G.1 G.2.1 d_Ma_perform_231 (lv_at hl 4 rfl) ?_
                refine lv_bipush (v := 45) G.1 G.2.1 d_Ma_perform_233 (by decide) ?_
                refine lv_icmp_gt (tgt := 250) G.1 G.2.1 d_Ma_perform_235 (by decide) (fun c235 => ?_) (fun c235 => ?_)
                · skip
                  have h := h.1 c235
                  refine lv_aload_n G.1 G.2.1 d_Ma_perform_250 rfl (lv_at hl 0 rfl) ?_
                  refine lv_aload_n G.1 G.2.1 d_Ma_perform_251 rfl (lv_at hl 1 rfl) ?_
                  refine lv_iload_n G.1 G.2.1 d_Ma_perform_252 rfl (lv_at hl 2 rfl) ?_
                  refine lv_iload_n G.1 G.2.1 d_Ma_perform_253 rfl (lv_at hl 3 rfl) ?_
                  refine ucVi (As := [.ref (ad a1), .int x2j231, .int x3j231]) (rest := []) G hP hD hS (cu_Ma_useObject l D g ad y _ s_j231 a0 a1 x2j231 x3j231 H.size h_a0 h_a1 h) w9_Ma_useObject q2020 ⟨Nat.le_of_ble_eq_true rfl, Nat.le_of_ble_eq_true rfl⟩ rfl rfl h_a0 (q := (RMa, TMa, 19)) rfl rfl hl.1 rfl (Nat.le_of_ble_eq_true rfl) rfl ⟨Nat.le_refl _, Nat.le_refl _⟩ d_Ma_perform_254 (fun r_6 s_7 H locs h hP hD hS => ?_)
                  refine lv_istore (lv' := [(6, .int r_6), (0, .ref (ad a0)), (1, .ref (ad a1)), (2, .int x2j231), (3, .int x3j231), (4, .int x4j231), (5, .int x5j231)]) G.1 G.2.1 d_Ma_perform_257 hl (by decide) rfl (fun ls hl => ?_)
                  exact J_259 s_7 x5j231 r_6 H locs h hP hD hS ls (lv_sub hl [2, 6, 0] rfl)
                · skip
                  have h := h.2 c235
                  refine lv_aload_n G.1 G.2.1 d_Ma_perform_238 rfl (lv_at hl 0 rfl) ?_
                  refine lv_aload_n G.1 G.2.1 d_Ma_perform_239 rfl (lv_at hl 1 rfl) ?_
                  refine lv_iload G.1 G.2.1 d_Ma_perform_240 (lv_at hl 4 rfl) ?_
                  refine ucVi (As := [.ref (ad a1), .int x4j231]) (rest := []) G hP hD hS (cu_Ma_useRow l D g ad y _ s_j231 a0 a1 x4j231 H.size h_a0 h_a1 h) w9_Ma_useRow q2006 ⟨Nat.le_of_ble_eq_true rfl, Nat.le_of_ble_eq_true rfl⟩ rfl rfl h_a0 (q := (RMa, TMa, 19)) rfl rfl hl.1 rfl (Nat.le_of_ble_eq_true rfl) rfl ⟨Nat.le_refl _, Nat.le_refl _⟩ d_Ma_perform_242 (fun r_8 s_9 H locs h hP hD hS => ?_)
                  refine lv_istore (lv' := [(6, .int r_8), (0, .ref (ad a0)), (1, .ref (ad a1)), (2, .int x2j231), (3, .int x3j231), (4, .int x4j231), (5, .int x5j231)]) G.1 G.2.1 d_Ma_perform_245 hl (by decide) rfl (fun ls hl => ?_)
                  refine lv_goto (tgt := 259) G.1 G.2.1 d_Ma_perform_247 (by decide) ?_
                  exact J_259 s_9 x5j231 r_8 H locs h hP hD hS ls (lv_sub hl [2, 6, 0] rfl)
              refine lv_icmp_lt (tgt := 231) G.1 G.2.1 d_Ma_perform_209 (by decide) (fun c209 => ?_) (fun c209 => ?_)
              · skip
                have h := h.1 c209
                exact J_231 s_j187 x2j187 x3j187 x4j187 x5j187 H locs h hP hD hS ls (lv_sub hl [0, 1, 2, 3, 4, 5] rfl)
              · skip
                have h := h.2 c209
                refine lv_iload G.1 G.2.1 d_Ma_perform_212 (lv_at hl 4 rfl) ?_
                refine lv_bipush (v := 49) G.1 G.2.1 d_Ma_perform_214 (by decide) ?_
                refine lv_icmp_gt (tgt := 231) G.1 G.2.1 d_Ma_perform_216 (by decide) (fun c216 => ?_) (fun c216 => ?_)
                · skip
                  have h := h.1 c216
                  exact J_231 s_j187 x2j187 x3j187 x4j187 x5j187 H locs h hP hD hS ls (lv_sub hl [0, 1, 2, 3, 4, 5] rfl)
                · skip
                  have h := h.2 c216
                  refine lv_aload_n G.1 G.2.1 d_Ma_perform_219 rfl (lv_at hl 0 rfl) ?_
                  refine lv_aload_n G.1 G.2.1 d_Ma_perform_220 rfl (lv_at hl 1 rfl) ?_
                  refine W.eq (g2 := F0 m 221 ls [.ref (ad a1), .ref (ad a0)]) rfl ?_
                  refine lv_iload G.1 G.2.1 d_Ma_perform_221 (lv_at hl 4 rfl) ?_
                  refine ucVi (As := [.ref (ad a1), .int x4j187]) (rest := []) G hP hD hS (cu_Ma_useField l D g ad y _ s_j187 a0 a1 x4j187 H.size h_a0 h_a1 h) w9_Ma_useField q1984 ⟨Nat.le_of_ble_eq_true rfl, Nat.le_of_ble_eq_true rfl⟩ rfl rfl h_a0 (q := (RMa, TMa, 19)) rfl rfl hl.1 rfl (Nat.le_of_ble_eq_true rfl) rfl ⟨Nat.le_refl _, Nat.le_refl _⟩ d_Ma_perform_223 (fun r_10 s_11 H locs h hP hD hS => ?_)
                  refine lv_istore (lv' := [(6, .int r_10), (0, .ref (ad a0)), (1, .ref (ad a1)), (2, .int x2j187), (3, .int x3j187), (4, .int x4j187), (5, .int x5j187)]) G.1 G.2.1 d_Ma_perform_226 hl (by decide) rfl (fun ls hl => ?_)
                  refine lv_goto (tgt := 259) G.1 G.2.1 d_Ma_perform_228 (by decide) ?_
                  exact J_259 s_11 x5j187 r_10 H locs h hP hD hS ls (lv_sub hl [2, 6, 0] rfl)
            · skip
              have h := h.2 c191
              refine lv_aload_n G.1 G.2.1 d_Ma_perform_194 rfl (lv_at hl 1 rfl) ?_
              refine lv_iload G.1 G.2.1 d_Ma_perform_195 (lv_at hl 4 rfl) ?_
              refine ucSi (As := [.ref (ad a1), .int x4j187]) (rest := []) G hP hD hS (cu_Ma_reckon l D g ad y _ s_j187 a1 x4j187 H.size h_a1 h) w9_Ma_reckon q1978 ⟨Nat.le_of_ble_eq_true rfl, Nat.le_of_ble_eq_true rfl⟩ rfl rfl hl.1 rfl (Nat.le_of_ble_eq_true rfl) rfl ⟨Nat.le_refl _, Nat.le_refl _⟩ d_Ma_perform_197 (fun r_12 s_13 H locs h hP hD hS => ?_)
              refine lv_istore (lv' := [(6, .int r_12), (0, .ref (ad a0)), (1, .ref (ad a1)), (2, .int x2j187), (3, .int x3j187), (4, .int x4j187), (5, .int x5j187)]) G.1 G.2.1 d_Ma_perform_200 hl (by decide) rfl (fun ls hl => ?_)
              refine lv_goto (tgt := 259) G.1 G.2.1 d_Ma_perform_202 (by decide) ?_
              exact J_259 s_13 x5j187 r_12 H locs h hP hD hS ls (lv_sub hl [2, 6, 0] rfl)
          refine lv_icmp_lt (tgt := 187) G.1 G.2.1 d_Ma_perform_166 (by decide) (fun c166 => ?_) (fun c166 => ?_)
          · skip
            have h := h.1 c166
            exact J_187 s_j155 x2j155 x3j155 x4j155 x5j155 H locs h hP hD hS ls (lv_sub hl [0, 1, 2, 3, 4, 5] rfl)
          · skip
            have h := h.2 c166
            refine lv_iload G.1 G.2.1 d_Ma_perform_169 (lv_at hl 4 rfl) ?_
            refine lv_bipush (v := 22) G.1 G.2.1 d_Ma_perform_171 (by decide) ?_
            refine lv_icmp_gt (tgt := 187) G.1 G.2.1 d_Ma_perform_173 (by decide) (fun c173 => ?_) (fun c173 => ?_)
            · skip
              have h := h.1 c173
              exact J_187 s_j155 x2j155 x3j155 x4j155 x5j155 H locs h hP hD hS ls (lv_sub hl [0, 1, 2, 3, 4, 5] rfl)
            · skip
              have h := h.2 c173
              exact J_176 s_j155 x3j155 x5j155 H locs h hP hD hS ls (lv_sub hl [0, 1, 3, 5] rfl)
      refine lv_icmp_lt (tgt := 155) G.1 G.2.1 d_Ma_perform_72 (by decide) (fun c72 => ?_) (fun c72 => ?_)
      · skip
        have h := h.1 c72
        exact J_155 s_j68 x2j68 x3j68 x4j68 x5j68 H locs h hP hD hS ls (lv_sub hl [0, 1, 2, 3, 4, 5] rfl)
      · skip
        have h := h.2 c72
        refine lv_iload G.1 G.2.1 d_Ma_perform_75 (lv_at hl 4 rfl) ?_
        refine lv_bipush (v := 40) G.1 G.2.1 d_Ma_perform_77 (by decide) ?_
        refine lv_icmp_gt (tgt := 155) G.1 G.2.1 d_Ma_perform_79 (by decide) (fun c79 => ?_) (fun c79 => ?_)
        · skip
          have h := h.1 c79
          exact J_155 s_j68 x2j68 x3j68 x4j68 x5j68 H locs h hP hD hS ls (lv_sub hl [0, 1, 2, 3, 4, 5] rfl)
        · skip
          have h := h.2 c79
          refine lv_iload G.1 G.2.1 d_Ma_perform_82 (lv_at hl 4 rfl) ?_
          refine lv_bipush (v := 40) G.1 G.2.1 d_Ma_perform_84 (by decide) ?_
          have J_125 : ∀ (s_j125 : St) (x5j125 : Int32) (z0j125 : Int32) (H : Heap) (locs : List Loc), wj_Ma_perform_125 y Post a0 a1 s_j125 x5j125 z0j125 → va_P D CL (ws g ad y s_j125) H → va_D A (ws g ad y s_j125) → va_S A s.heap H locs → ∀ ls, lv_has ls 7 [(1, .ref (ad a1)), (5, .int x5j125)] → W p l e ru_Ma_perform s m args below meth c H locs 0 0 Q (F0 m 125 ls [.int z0j125]) := by
            intro s_j125 x5j125 z0j125 H locs h hP hD hS ls hl
            unfold wj_Ma_perform_125 at h
            refine lv_istore (lv' := [(6, .int z0j125), (1, .ref (ad a1)), (5, .int x5j125)]) G.1 G.2.1 d_Ma_perform_125 hl (by decide) rfl (fun ls hl => ?_)
            refine lv_aload_n G.1 G.2.1 d_Ma_perform_127 rfl (lv_at hl 1 rfl) ?_
            refine ugf (v := .ref (yP y a1 13)) G hP h_a1 iRu rfl 13 (by decide) rfl q1015 rfl rfl d_Ma_perform_128 ?_
            refine lv_iload G.1 G.2.1 d_Ma_perform_131 (lv_at hl 2 rfl) ?_
            refine lv_iload G.1 G.2.1 d_Ma_perform_133 (lv_at hl 0 rfl) ?_
            have J_152 : ∀ (s_j152 : St) (z1j152 : Int32) (z2j152 : Int32) (H : Heap) (locs : List Loc), wj_Ma_perform_152 y Post a0 a1 s_j152 z1j152 z2j152 → va_P D CL (ws g ad y s_j152) H → va_D A (ws g ad y s_j152) → va_S A s.heap H locs → ∀ ls, lv_has ls 7 [] → W p l e ru_Ma_perform s m args below meth c H locs 0 0 Q (F0 m 152 ls [.int z2j152, .int z1j152, .ref (yP y a1 13)]) := by
              intro s_j152 z1j152 z2j152 H locs h hP hD hS ls hl
              unfold wj_Ma_perform_152 at h
              refine uiast G hP hD hS (kdp h_a1 rfl) (typ h_a1 rfl) h d_Ma_perform_152 (fun s_14 H locs h hP hD hS => ?_)
              refine lv_iconst (v := 0) G.1 G.2.1 d_Ma_perform_153 (by decide) ?_
              exact hret _ _ _ _ _ _ _ ls h hP hD hS (Nat.le_refl _) (Nat.le_refl _) d_Ma_perform_154
            refine lv_if_ge (tgt := 150) G.1 G.2.1 d_Ma_perform_135 (by decide) (fun c135 => ?_) (fun c135 => ?_)
            · skip
              have h := h.1 c135
              refine lv_iload G.1 G.2.1 d_Ma_perform_150 (lv_at hl 0 rfl) ?_
              exact J_152 s_j125 x5j125 z0j125 H locs h hP hD hS ls (lv_sub hl [] rfl)
            · skip
              have h := h.2 c135
              refine lv_aload_n G.1 G.2.1 d_Ma_perform_138 rfl (lv_at hl 1 rfl) ?_
              refine ugf (v := .ref (yP y a1 13)) G hP h_a1 iRu rfl 13 (by decide) rfl q1015 rfl rfl d_Ma_perform_139 ?_
              refine lv_iload G.1 G.2.1 d_Ma_perform_142 (lv_at hl 2 rfl) ?_
              refine uiald G hP (kdp h_a1 rfl) (typ h_a1 rfl) h d_Ma_perform_144 (fun x_15 h => ?_)
              refine lv_iconst (v := 1) G.1 G.2.1 d_Ma_perform_145 (by decide) ?_
              refine W.eq (g2 := F0 m 146 ls [.int 1, .int x_15, .int x5j125, .ref (yP y a1 13)]) rfl ?_
              refine lv_iadd G.1 G.2.1 d_Ma_perform_146 ?_
              refine lv_goto (tgt := 152) G.1 G.2.1 d_Ma_perform_147 (by decide) ?_
              exact J_152 s_j125 x5j125 (x_15 + 1) H locs h hP hD hS ls (lv_sub hl [] rfl)
          refine lv_icmp_ne (tgt := 98) G.1 G.2.1 d_Ma_perform_86 (by decide) (fun c86 => ?_) (fun c86 => ?_)
          · skip
            have h := h.1 c86
            refine lv_aload_n G.1 G.2.1 d_Ma_perform_98 rfl (lv_at hl 1 rfl) ?_
            refine lv_iload G.1 G.2.1 d_Ma_perform_99 (lv_at hl 4 rfl) ?_
            refine W.eq (g2 := F0 m 101 ls [.int x4j68, .ref (ad a1)]) rfl ?_
            refine ucSi (As := [.ref (ad a1), .int x4j68]) (rest := []) G hP hD hS (cu_Ma_jumps l D g ad y _ s_j68 a1 x4j68 H.size h_a1 h) w9_Ma_jumps q1945 ⟨Nat.le_of_ble_eq_true rfl, Nat.le_of_ble_eq_true rfl⟩ rfl rfl hl.1 rfl (Nat.le_of_ble_eq_true rfl) rfl ⟨Nat.le_refl _, Nat.le_refl _⟩ d_Ma_perform_101 (fun r_16 s_17 H locs h hP hD hS => ?_)
            refine lv_if_eq (tgt := 124) G.1 G.2.1 d_Ma_perform_104 (by decide) (fun c104 => ?_) (fun c104 => ?_)
            · skip
              have h := h.1 c104
              refine lv_iconst (v := (-1)) G.1 G.2.1 d_Ma_perform_124 (by decide) ?_
              exact J_125 s_17 x5j68 (-1) H locs h hP hD hS ls (lv_sub hl [1, 5] rfl)
            · skip
              have h := h.2 c104
              refine lv_aload_n G.1 G.2.1 d_Ma_perform_107 rfl (lv_at hl 0 rfl) ?_
              refine ugf (v := .ref (ad (lk a0 0))) G hP h_a0 iMa rfl 0 (by decide) rfl q1065 rfl rfl d_Ma_perform_108 ?_
              refine ugf (v := .ref (ad (lk (lk a0 0) 10))) G hP (lk_4_0 h_a0) iWd rfl 10 (by decide) rfl q845 rfl rfl d_Ma_perform_111 ?_
              refine ugf (v := .ref (yP y (lk (lk a0 0) 10) 0)) G hP (lk_9_10 (lk_4_0 h_a0)) iIn rfl 0 (by decide) rfl q385 rfl rfl d_Ma_perform_114 ?_
              refine lv_iload_n G.1 G.2.1 d_Ma_perform_117 rfl (lv_at hl 3 rfl) ?_
              refine lv_iconst (v := 1) G.1 G.2.1 d_Ma_perform_118 (by decide) ?_
              refine lv_iadd G.1 G.2.1 d_Ma_perform_119 ?_
              refine uiald G hP (kdp (lk_9_10 (lk_4_0 h_a0)) rfl) (typ (lk_9_10 (lk_4_0 h_a0)) rfl) h d_Ma_perform_120 (fun x_18 h => ?_)
              refine lv_goto (tgt := 125) G.1 G.2.1 d_Ma_perform_121 (by decide) ?_
              exact J_125 s_17 x5j68 x_18 H locs h hP hD hS ls (lv_sub hl [1, 5] rfl)
          · skip
            have h := h.2 c86
            refine lv_aload_n G.1 G.2.1 d_Ma_perform_89 rfl (lv_at hl 0 rfl) ?_
            refine lv_aload_n G.1 G.2.1 d_Ma_perform_90 rfl (lv_at hl 1 rfl) ?_
            refine W.eq (g2 := F0 m 91 ls [.ref (ad a1), .ref (ad a0)]) rfl ?_
            refine lv_iload_n G.1 G.2.1 d_Ma_perform_91 rfl (lv_at hl 3 rfl) ?_
            refine ucVi (As := [.ref (ad a1), .int x3j68]) (rest := []) G hP hD hS (cu_Ma_picked l D g ad y _ s_j68 a0 a1 x3j68 H.size h_a0 h_a1 h) w9_Ma_picked q1936 ⟨Nat.le_of_ble_eq_true rfl, Nat.le_of_ble_eq_true rfl⟩ rfl rfl h_a0 (q := (RMa, TMa, 19)) rfl rfl hl.1 rfl (Nat.le_of_ble_eq_true rfl) rfl ⟨Nat.le_refl _, Nat.le_refl _⟩ d_Ma_perform_92 (fun r_19 s_20 H locs h hP hD hS => ?_)
            refine lv_goto (tgt := 125) G.1 G.2.1 d_Ma_perform_95 (by decide) ?_
            exact J_125 s_20 x5j68 r_19 H locs h hP hD hS ls (lv_sub hl [1, 5] rfl)
    refine lv_icmp_lt (tgt := 68) G.1 G.2.1 d_Ma_perform_48 (by decide) (fun c48 => ?_) (fun c48 => ?_)
    · skip
      have h := h.1 c48
      exact J_68 s_j44 x2j44 x3j44 x4j44 x5j44 H locs h hP hD hS ls (lv_sub hl [0, 1, 2, 3, 4, 5] rfl)
    · skip
      have h := h.2 c48
      refine lv_iload G.1 G.2.1 d_Ma_perform_51 (lv_at hl 4 rfl) ?_
      refine lv_bipush (v := 59) G.1 G.2.1 d_Ma_perform_53 (by decide) ?_
      refine lv_icmp_gt (tgt := 68) G.1 G.2.1 d_Ma_perform_55 (by decide) (fun c55 => ?_) (fun c55 => ?_)
      · skip
        have h := h.1 c55
        exact J_68 s_j44 x2j44 x3j44 x4j44 x5j44 H locs h hP hD hS ls (lv_sub hl [0, 1, 2, 3, 4, 5] rfl)
      · skip
        have h := h.2 c55
        refine lv_aload_n G.1 G.2.1 d_Ma_perform_58 rfl (lv_at hl 0 rfl) ?_
        refine lv_aload_n G.1 G.2.1 d_Ma_perform_59 rfl (lv_at hl 1 rfl) ?_
        refine lv_iload_n G.1 G.2.1 d_Ma_perform_60 rfl (lv_at hl 2 rfl) ?_
        refine lv_iload G.1 G.2.1 d_Ma_perform_61 (lv_at hl 4 rfl) ?_
        refine ucVv (As := [.ref (ad a1), .int x2j44, .int x4j44]) (rest := []) G hP hD hS (cu_Ma_endFrame l D g ad y _ s_j44 a0 a1 x2j44 x4j44 H.size h_a0 h_a1 h) w9_Ma_endFrame q1915 ⟨Nat.le_of_ble_eq_true rfl, Nat.le_of_ble_eq_true rfl⟩ rfl rfl h_a0 (q := (RMa, TMa, 19)) rfl rfl hl.1 rfl (Nat.le_of_ble_eq_true rfl) rfl ⟨Nat.le_refl _, Nat.le_refl _⟩ d_Ma_perform_63 (fun s_22 H locs h hP hD hS => ?_)
        refine W.eq (g2 := F0 m 66 ls []) rfl ?_
        refine lv_iconst (v := 0) G.1 G.2.1 d_Ma_perform_66 (by decide) ?_
        exact hret _ _ _ _ _ _ _ ls h hP hD hS (Nat.le_refl _) (Nat.le_refl _) d_Ma_perform_67
  refine lv_icmp_lt (tgt := 44) G.1 G.2.1 d_Ma_perform_26 (by decide) (fun c26 => ?_) (fun c26 => ?_)
  · skip
    have h := h.1 c26
    exact J_44 σ v2 v3 x_1 ((sV σ a1 10) - 1) H locs h hP hD hS ls (lv_sub hl [2, 3, 4, 5, 1, 0] rfl)
  · skip
    have h := h.2 c26
    refine lv_iload G.1 G.2.1 d_Ma_perform_29 (lv_at hl 1 rfl) ?_
    refine lv_bipush (v := 53) G.1 G.2.1 d_Ma_perform_31 (by decide) ?_
    refine lv_icmp_gt (tgt := 44) G.1 G.2.1 d_Ma_perform_33 (by decide) (fun c33 => ?_) (fun c33 => ?_)
    · skip
      have h := h.1 c33
      exact J_44 σ v2 v3 x_1 ((sV σ a1 10) - 1) H locs h hP hD hS ls (lv_sub hl [2, 3, 4, 5, 1, 0] rfl)
    · skip
      have h := h.2 c33
      refine lv_aload_n G.1 G.2.1 d_Ma_perform_36 rfl (lv_at hl 2 rfl) ?_
      refine lv_aload_n G.1 G.2.1 d_Ma_perform_37 rfl (lv_at hl 3 rfl) ?_
      refine lv_iload_n G.1 G.2.1 d_Ma_perform_38 rfl (lv_at hl 4 rfl) ?_
      refine lv_iload_n G.1 G.2.1 d_Ma_perform_39 rfl (lv_at hl 5 rfl) ?_
      refine ucVi (As := [.ref (ad a1), .int v2, .int v3]) (rest := []) G hP hD hS (cu_Ma_enterMethod l D g ad y _ σ a0 a1 v2 v3 H.size h_a0 h_a1 h) w9_Ma_enterMethod q1876 ⟨Nat.le_of_ble_eq_true rfl, Nat.le_of_ble_eq_true rfl⟩ rfl rfl h_a0 (q := (RMa, TMa, 19)) rfl rfl hl.1 rfl (Nat.le_of_ble_eq_true rfl) rfl ⟨Nat.le_refl _, Nat.le_refl _⟩ d_Ma_perform_40 (fun r_23 s_24 H locs h hP hD hS => ?_)
      refine W.eq (g2 := F0 m 43 ls [.int r_23]) rfl ?_
      exact hret _ _ _ _ _ _ _ ls h hP hD hS (Nat.le_refl _) (Nat.le_refl _) d_Ma_perform_43
def y_Hp_makeFault : MethodName := ⟨"ClassWorks$Heap", "makeFault", "(I)I"⟩
abbrev b_Hp_makeFault : ByteArray := prog_4_method_5_code
theorem q2048 : Cond.methodLink "ClassWorks$Heap" 80 y_In_add ∈ lw_ok := lw_okmem (List.mem_of_getElem? (i := 2048) (by decide +kernel)) rfl
theorem d_Hp_makeFault_0 : decode b_Hp_makeFault 0 = .ok (.aload_n 0, 1) := by decide +kernel
theorem d_Hp_makeFault_1 : decode b_Hp_makeFault 1 = .ok (.getfield 52, 3) := by decide +kernel
theorem d_Hp_makeFault_4 : decode b_Hp_makeFault 4 = .ok (.iconst 0, 1) := by decide +kernel
theorem d_Hp_makeFault_5 : decode b_Hp_makeFault 5 = .ok (.invokevirtual 80, 3) := by decide +kernel
theorem d_Hp_makeFault_8 : decode b_Hp_makeFault 8 = .ok (.pop, 1) := by decide +kernel
theorem d_Hp_makeFault_9 : decode b_Hp_makeFault 9 = .ok (.sipush 1001, 3) := by decide +kernel
theorem d_Hp_makeFault_12 : decode b_Hp_makeFault 12 = .ok (.aload_n 0, 1) := by decide +kernel
theorem d_Hp_makeFault_13 : decode b_Hp_makeFault 13 = .ok (.getfield 48, 3) := by decide +kernel
theorem d_Hp_makeFault_16 : decode b_Hp_makeFault 16 = .ok (.iload_n 1, 1) := by decide +kernel
theorem d_Hp_makeFault_17 : decode b_Hp_makeFault 17 = .ok (.invokevirtual 80, 3) := by decide +kernel
theorem d_Hp_makeFault_20 : decode b_Hp_makeFault 20 = .ok (.iadd, 1) := by decide +kernel
theorem d_Hp_makeFault_21 : decode b_Hp_makeFault 21 = .ok (.ireturn, 1) := by decide +kernel
abbrev ra_Hp_makeFault (mc ms : Nat) : Room := { frames := 5, cells := mc, slots := ms, locals := 421 }
def wa_Hp_makeFault (mc ms : Nat) (y : Ly) (Post : Ly → St → Int32 → Nat → Nat → Prop) (σ : St) (a0 : Nat) (v1 : Int32) : Prop := ∃ mc_6 ms_7 : Nat, (0 + mc_6 ≤ mc ∧ 0 + ms_7 ≤ ms) ∧ wa_In_add mc_6 ms_7 y (fun (y_3 : Ly) (s_2 : St) (r_1 : Int32) (d_4 e_5 : Nat) => (0 + d_4 ≤ mc ∧ 0 + e_5 ≤ ms) ∧ ∃ mc_14 ms_15 : Nat, (0 + d_4 + mc_14 ≤ mc ∧ 0 + e_5 + ms_15 ≤ ms) ∧ wa_In_add mc_14 ms_15 y_3 (fun (y_11 : Ly) (s_10 : St) (r_9 : Int32) (d_12 e_13 : Nat) => (0 + d_4 + d_12 ≤ mc ∧ 0 + e_5 + e_13 ≤ ms) ∧ Post y_11 s_10 (1001 + r_9) (0 + d_4 + d_12) (0 + e_5 + e_13)) s_2 (lk a0 10) v1) σ (lk a0 11) 0
set_option maxHeartbeats 4000000 in
set_option maxRecDepth 100000 in
theorem ca_Hp_makeFault (l : Launch) (D : va_G) (g : Nat → ClassId) (ad : Nat → Nat) (mc ms : Nat) (y : Ly) (Post : Ly → St → Int32 → Nat → Nat → Prop) (σ : St) (a0 : Nat) (v1 : Int32) (sz uz : Nat) (h_a0 : cl a0 = 2) (h : wa_Hp_makeFault mc ms y Post σ a0 v1) : Met l y_Hp_makeFault (mw y_Hp_makeFault b_Hp_makeFault 2 (some .int)) (ra_Hp_makeFault mc ms) (PCu g D [] [.ref (ad a0), .int v1] sz uz (ws g ad y σ)) (va_Qi (fun (r : Int32) (u : Ly × St × Nat × Nat) => Post u.1 u.2.1 r u.2.2.1 u.2.2.2) (QU D (va_A (ws g ad y σ) sz) (fun u => ws g ad u.1 u.2.1) sz uz (fun u => u.2.2.1) (fun u => u.2.2.2)) (va_A (ws g ad y σ) sz)) mc ms (va_A (ws g ad y σ) sz) := by
  refine ofIu (by decide +kernel) (Nat.le_of_ble_eq_true rfl) ?_
  intro p e s m args below meth c A Q ls H locs G hsz hP hD hS hl hret
  subst hsz
  have hl : lv_has ls 2 [(0, .ref (ad a0)), (1, .int v1)] := hl
  have hd : 0 ≤ mc ∧ 0 ≤ ms := ⟨Nat.zero_le _, Nat.zero_le _⟩
  unfold wa_Hp_makeFault at h
  refine lv_aload_n G.1 G.2.1 d_Hp_makeFault_0 rfl (lv_at hl 0 rfl) ?_
  refine ugf (v := .ref (ad (lk a0 11))) G hP h_a0 iHp rfl 11 (by decide) rfl q932 rfl rfl d_Hp_makeFault_1 ?_
  refine lv_iconst (v := 0) G.1 G.2.1 d_Hp_makeFault_4 (by decide) ?_
  obtain ⟨mc_6, ms_7, hr_8, h⟩ := h
  refine uaVi (As := [.int 0]) (rest := []) G hP hD hS (ca_In_add l D g [] ad mc_6 ms_7 y _ σ (lk a0 11) 0 H.size (us H) (lk_2_11 h_a0) h) w9_In_add q2048 ⟨Nat.le_of_ble_eq_true rfl, Nat.le_of_ble_eq_true rfl⟩ rfl rfl (lk_2_11 h_a0) (q := (RIn, TIn, 2)) rfl rfl hl.1 rfl (Nat.le_of_ble_eq_true rfl) rfl hr_8 d_Hp_makeFault_5 (fun r_1 y_3 s_2 d_4 e_5 H locs h hP hD hS => ?_)
  obtain ⟨hd, h⟩ := h
  refine lv_pop G.1 G.2.1 d_Hp_makeFault_8 rfl ?_
  refine lv_sipush (v := 1001) G.1 G.2.1 d_Hp_makeFault_9 (by decide) ?_
  refine lv_aload_n G.1 G.2.1 d_Hp_makeFault_12 rfl (lv_at hl 0 rfl) ?_
  refine ugf (v := .ref (ad (lk a0 10))) G hP h_a0 iHp rfl 10 (by decide) rfl q931 rfl rfl d_Hp_makeFault_13 ?_
  refine lv_iload_n G.1 G.2.1 d_Hp_makeFault_16 rfl (lv_at hl 1 rfl) ?_
  obtain ⟨mc_14, ms_15, hr_16, h⟩ := h
  refine uaVi (As := [.int v1]) (rest := [.int 1001]) G hP hD hS (ca_In_add l D g [] ad mc_14 ms_15 y_3 _ s_2 (lk a0 10) v1 H.size (us H) (lk_2_10 h_a0) h) w9_In_add q2048 ⟨Nat.le_of_ble_eq_true rfl, Nat.le_of_ble_eq_true rfl⟩ rfl rfl (lk_2_10 h_a0) (q := (RIn, TIn, 2)) rfl rfl hl.1 rfl (Nat.le_of_ble_eq_true rfl) rfl hr_16 d_Hp_makeFault_17 (fun r_9 y_11 s_10 d_12 e_13 H locs h hP hD hS => ?_)
  have hl := lv_sub (l' := []) hl [] rfl
  obtain ⟨hd, h⟩ := h
  refine lv_iadd G.1 G.2.1 d_Hp_makeFault_20 ?_
  refine W.eq (g2 := F0 m 21 ls [.int (1001 + r_9)]) rfl ?_
  exact hret _ (y_11, s_10, 0 + d_4 + d_12, 0 + e_5 + e_13) _ _ _ _ _ ls h hP hD hS (Nat.le_refl _) (Nat.le_refl _) hd.1 hd.2 d_Hp_makeFault_21
theorem q2061 : Cond.methodLink "ClassWorks$Machine" 270 y_Ma_lose ∈ lw_ok := lw_okmem (List.mem_of_getElem? (i := 2061) (by decide +kernel)) rfl
theorem q2064 : Cond.code y_Ma_lose b_Ma_lose 3 (none) ∈ lw_ok := lw_okmem (List.mem_of_getElem? (i := 2064) (by decide +kernel)) rfl
theorem q2063 : Cond.instanceMethod y_Ma_lose ∈ lw_ok := lw_okmem (List.mem_of_getElem? (i := 2063) (by decide +kernel)) rfl
theorem q108 : Cond.selects y_Ma_lose.cls y_Ma_lose y_Ma_lose ∈ lw_ok := lw_okmem (List.mem_of_getElem? (i := 108) (by decide +kernel)) rfl
theorem w9_Ma_lose : CWv y_Ma_lose b_Ma_lose 3 (none) 2 ∧ Cond.instanceMethod y_Ma_lose ∈ lw_ok ∧ Cond.selects y_Ma_lose.cls y_Ma_lose y_Ma_lose ∈ lw_ok := ⟨⟨q2064, q344, by decide +kernel, by decide +kernel, by decide +kernel⟩, q2063, q108⟩
theorem q2053 : Cond.methodLink "ClassWorks$Machine" 330 y_Ma_handlerFor ∈ lw_ok := lw_okmem (List.mem_of_getElem? (i := 2053) (by decide +kernel)) rfl
theorem q2056 : Cond.code y_Ma_handlerFor b_Ma_handlerFor 11 (some .int) ∈ lw_ok := lw_okmem (List.mem_of_getElem? (i := 2056) (by decide +kernel)) rfl
theorem q2055 : Cond.instanceMethod y_Ma_handlerFor ∈ lw_ok := lw_okmem (List.mem_of_getElem? (i := 2055) (by decide +kernel)) rfl
theorem q106 : Cond.selects y_Ma_handlerFor.cls y_Ma_handlerFor y_Ma_handlerFor ∈ lw_ok := lw_okmem (List.mem_of_getElem? (i := 106) (by decide +kernel)) rfl
theorem w9_Ma_handlerFor : CWv y_Ma_handlerFor b_Ma_handlerFor 11 (some .int) 2 ∧ Cond.instanceMethod y_Ma_handlerFor ∈ lw_ok ∧ Cond.selects y_Ma_handlerFor.cls y_Ma_handlerFor y_Ma_handlerFor ∈ lw_ok := ⟨⟨q2056, q344, by decide +kernel, by decide +kernel, by decide +kernel⟩, q2055, q106⟩
theorem q2057 : Cond.methodLink "ClassWorks$Machine" 257 y_Ma_breakOpenStarts ∈ lw_ok := lw_okmem (List.mem_of_getElem? (i := 2057) (by decide +kernel)) rfl
theorem q2060 : Cond.code y_Ma_breakOpenStarts b_Ma_breakOpenStarts 4 (none) ∈ lw_ok := lw_okmem (List.mem_of_getElem? (i := 2060) (by decide +kernel)) rfl
theorem q2059 : Cond.instanceMethod y_Ma_breakOpenStarts ∈ lw_ok := lw_okmem (List.mem_of_getElem? (i := 2059) (by decide +kernel)) rfl
theorem q107 : Cond.selects y_Ma_breakOpenStarts.cls y_Ma_breakOpenStarts y_Ma_breakOpenStarts ∈ lw_ok := lw_okmem (List.mem_of_getElem? (i := 107) (by decide +kernel)) rfl
theorem w9_Ma_breakOpenStarts : CWv y_Ma_breakOpenStarts b_Ma_breakOpenStarts 4 (none) 2 ∧ Cond.instanceMethod y_Ma_breakOpenStarts ∈ lw_ok ∧ Cond.selects y_Ma_breakOpenStarts.cls y_Ma_breakOpenStarts y_Ma_breakOpenStarts ∈ lw_ok := ⟨⟨q2060, q344, by decide +kernel, by decide +kernel, by decide +kernel⟩, q2059, q107⟩
theorem q2044 : Cond.methodLink "ClassWorks$Machine" 260 y_Hp_makeFault ∈ lw_ok := lw_okmem (List.mem_of_getElem? (i := 2044) (by decide +kernel)) rfl
theorem q2047 : Cond.code y_Hp_makeFault b_Hp_makeFault 2 (some .int) ∈ lw_ok := lw_okmem (List.mem_of_getElem? (i := 2047) (by decide +kernel)) rfl
theorem q2045 : Cond.instanceMethod y_Hp_makeFault ∈ lw_ok := lw_okmem (List.mem_of_getElem? (i := 2045) (by decide +kernel)) rfl
theorem q2046 : Cond.selects y_Hp_makeFault.cls y_Hp_makeFault y_Hp_makeFault ∈ lw_ok := lw_okmem (List.mem_of_getElem? (i := 2046) (by decide +kernel)) rfl
theorem w9_Hp_makeFault : CWv y_Hp_makeFault b_Hp_makeFault 2 (some .int) 1 ∧ Cond.instanceMethod y_Hp_makeFault ∈ lw_ok ∧ Cond.selects y_Hp_makeFault.cls y_Hp_makeFault y_Hp_makeFault ∈ lw_ok := ⟨⟨q2047, q346, by decide +kernel, by decide +kernel, by decide +kernel⟩, q2045, q2046⟩
def y_Ma_throwAt : MethodName := ⟨"ClassWorks$Machine", "throwAt", "(LClassWorks$Runner;II)V"⟩
abbrev b_Ma_throwAt : ByteArray := prog_6_method_25_code
theorem q1018 : Cond.fieldLink "ClassWorks$Machine" 333 "ClassWorks$Runner" "depth" "[I" ∈ lw_ok := lw_okmem (List.mem_of_getElem? (i := 1018) (by decide +kernel)) rfl
theorem d_Ma_throwAt_0 : decode b_Ma_throwAt 0 = .ok (.iload_n 3, 1) := by decide +kernel
theorem d_Ma_throwAt_1 : decode b_Ma_throwAt 1 = .ok (.istore 4, 2) := by decide +kernel
theorem d_Ma_throwAt_3 : decode b_Ma_throwAt 3 = .ok (.iconst 0, 1) := by decide +kernel
theorem d_Ma_throwAt_4 : decode b_Ma_throwAt 4 = .ok (.istore 5, 2) := by decide +kernel
theorem d_Ma_throwAt_6 : decode b_Ma_throwAt 6 = .ok (.iload 5, 2) := by decide +kernel
theorem d_Ma_throwAt_8 : decode b_Ma_throwAt 8 = .ok (.bipush 40, 2) := by decide +kernel
theorem d_Ma_throwAt_10 : decode b_Ma_throwAt 10 = .ok (.if_icmp .ge 162, 3) := by decide +kernel
theorem d_Ma_throwAt_13 : decode b_Ma_throwAt 13 = .ok (.aload_n 1, 1) := by decide +kernel
theorem d_Ma_throwAt_14 : decode b_Ma_throwAt 14 = .ok (.getfield 158, 3) := by decide +kernel
theorem d_Ma_throwAt_17 : decode b_Ma_throwAt 17 = .ok (.ifCond .le 155, 3) := by decide +kernel
theorem d_Ma_throwAt_20 : decode b_Ma_throwAt 20 = .ok (.aload_n 0, 1) := by decide +kernel
theorem d_Ma_throwAt_21 : decode b_Ma_throwAt 21 = .ok (.aload_n 1, 1) := by decide +kernel
theorem d_Ma_throwAt_22 : decode b_Ma_throwAt 22 = .ok (.aload_n 0, 1) := by decide +kernel
theorem d_Ma_throwAt_23 : decode b_Ma_throwAt 23 = .ok (.getfield 12, 3) := by decide +kernel
theorem d_Ma_throwAt_26 : decode b_Ma_throwAt 26 = .ok (.iload 4, 2) := by decide +kernel
theorem d_Ma_throwAt_28 : decode b_Ma_throwAt 28 = .ok (.invokevirtual 319, 3) := by decide +kernel
theorem d_Ma_throwAt_31 : decode b_Ma_throwAt 31 = .ok (.invokevirtual 330, 3) := by decide +kernel
theorem d_Ma_throwAt_34 : decode b_Ma_throwAt 34 = .ok (.istore 6, 2) := by decide +kernel
theorem d_Ma_throwAt_36 : decode b_Ma_throwAt 36 = .ok (.iload 6, 2) := by decide +kernel
theorem d_Ma_throwAt_38 : decode b_Ma_throwAt 38 = .ok (.ifCond .lt 55, 3) := by decide +kernel
theorem d_Ma_throwAt_41 : decode b_Ma_throwAt 41 = .ok (.aload_n 1, 1) := by decide +kernel
theorem d_Ma_throwAt_42 : decode b_Ma_throwAt 42 = .ok (.getfield 333, 3) := by decide +kernel
theorem d_Ma_throwAt_45 : decode b_Ma_throwAt 45 = .ok (.aload_n 1, 1) := by decide +kernel
theorem d_Ma_throwAt_46 : decode b_Ma_throwAt 46 = .ok (.getfield 158, 3) := by decide +kernel
theorem d_Ma_throwAt_49 : decode b_Ma_throwAt 49 = .ok (.iconst 1, 1) := by decide +kernel
theorem d_Ma_throwAt_50 : decode b_Ma_throwAt 50 = .ok (.isub, 1) := by decide +kernel
theorem d_Ma_throwAt_51 : decode b_Ma_throwAt 51 = .ok (.iconst 0, 1) := by decide +kernel
theorem d_Ma_throwAt_52 : decode b_Ma_throwAt 52 = .ok (.iastore, 1) := by decide +kernel
theorem d_Ma_throwAt_53 : decode b_Ma_throwAt 53 = .ok (.aload_n 1, 1) := by decide +kernel
theorem d_Ma_throwAt_54 : decode b_Ma_throwAt 54 = .ok (.iload 4, 2) := by decide +kernel
theorem d_Ma_throwAt_56 : decode b_Ma_throwAt 56 = .ok (.invokevirtual 336, 3) := by decide +kernel
theorem d_Ma_throwAt_59 : decode b_Ma_throwAt 59 = .ok (.aload_n 1, 1) := by decide +kernel
theorem d_Ma_throwAt_60 : decode b_Ma_throwAt 60 = .ok (.getfield 217, 3) := by decide +kernel
theorem d_Ma_throwAt_63 : decode b_Ma_throwAt 63 = .ok (.aload_n 1, 1) := by decide +kernel
theorem d_Ma_throwAt_64 : decode b_Ma_throwAt 64 = .ok (.getfield 158, 3) := by decide +kernel
theorem d_Ma_throwAt_67 : decode b_Ma_throwAt 67 = .ok (.iconst 1, 1) := by decide +kernel
theorem d_Ma_throwAt_68 : decode b_Ma_throwAt 68 = .ok (.isub, 1) := by decide +kernel
theorem d_Ma_throwAt_69 : decode b_Ma_throwAt 69 = .ok (.aload_n 0, 1) := by decide +kernel
theorem d_Ma_throwAt_70 : decode b_Ma_throwAt 70 = .ok (.getfield 69, 3) := by decide +kernel
theorem d_Ma_throwAt_73 : decode b_Ma_throwAt 73 = .ok (.getfield 339, 3) := by decide +kernel
theorem d_Ma_throwAt_76 : decode b_Ma_throwAt 76 = .ok (.getfield 228, 3) := by decide +kernel
theorem d_Ma_throwAt_79 : decode b_Ma_throwAt 79 = .ok (.iload 6, 2) := by decide +kernel
theorem d_Ma_throwAt_81 : decode b_Ma_throwAt 81 = .ok (.iconst 2, 1) := by decide +kernel
theorem d_Ma_throwAt_82 : decode b_Ma_throwAt 82 = .ok (.iadd, 1) := by decide +kernel
theorem d_Ma_throwAt_83 : decode b_Ma_throwAt 83 = .ok (.iaload, 1) := by decide +kernel
theorem d_Ma_throwAt_84 : decode b_Ma_throwAt 84 = .ok (.iastore, 1) := by decide +kernel
theorem d_Ma_throwAt_85 : decode b_Ma_throwAt 85 = .ok (.aload_n 0, 1) := by decide +kernel
theorem d_Ma_throwAt_86 : decode b_Ma_throwAt 86 = .ok (.bipush 7, 2) := by decide +kernel
theorem d_Ma_throwAt_88 : decode b_Ma_throwAt 88 = .ok (.iload_n 2, 1) := by decide +kernel
theorem d_Ma_throwAt_89 : decode b_Ma_throwAt 89 = .ok (.invokevirtual 301, 3) := by decide +kernel
theorem d_Ma_throwAt_92 : decode b_Ma_throwAt 92 = .ok (.return_, 1) := by decide +kernel
theorem d_Ma_throwAt_93 : decode b_Ma_throwAt 93 = .ok (.aload_n 0, 1) := by decide +kernel
theorem d_Ma_throwAt_94 : decode b_Ma_throwAt 94 = .ok (.iconst 3, 1) := by decide +kernel
theorem d_Ma_throwAt_95 : decode b_Ma_throwAt 95 = .ok (.iload_n 2, 1) := by decide +kernel
theorem d_Ma_throwAt_96 : decode b_Ma_throwAt 96 = .ok (.invokevirtual 301, 3) := by decide +kernel
theorem d_Ma_throwAt_99 : decode b_Ma_throwAt 99 = .ok (.aload_n 0, 1) := by decide +kernel
theorem d_Ma_throwAt_100 : decode b_Ma_throwAt 100 = .ok (.aload_n 1, 1) := by decide +kernel
theorem d_Ma_throwAt_101 : decode b_Ma_throwAt 101 = .ok (.invokevirtual 342, 3) := by decide +kernel
theorem d_Ma_throwAt_104 : decode b_Ma_throwAt 104 = .ok (.istore 7, 2) := by decide +kernel
theorem d_Ma_throwAt_106 : decode b_Ma_throwAt 106 = .ok (.aload_n 1, 1) := by decide +kernel
theorem d_Ma_throwAt_107 : decode b_Ma_throwAt 107 = .ok (.dup, 1) := by decide +kernel
theorem d_Ma_throwAt_108 : decode b_Ma_throwAt 108 = .ok (.getfield 158, 3) := by decide +kernel
theorem d_Ma_throwAt_111 : decode b_Ma_throwAt 111 = .ok (.iconst 1, 1) := by decide +kernel
theorem d_Ma_throwAt_112 : decode b_Ma_throwAt 112 = .ok (.isub, 1) := by decide +kernel
theorem d_Ma_throwAt_113 : decode b_Ma_throwAt 113 = .ok (.putfield 158, 3) := by decide +kernel
theorem d_Ma_throwAt_116 : decode b_Ma_throwAt 116 = .ok (.iload 7, 2) := by decide +kernel
theorem d_Ma_throwAt_118 : decode b_Ma_throwAt 118 = .ok (.ifCond .eq 48, 3) := by decide +kernel
theorem d_Ma_throwAt_121 : decode b_Ma_throwAt 121 = .ok (.aload_n 0, 1) := by decide +kernel
theorem d_Ma_throwAt_122 : decode b_Ma_throwAt 122 = .ok (.aload_n 1, 1) := by decide +kernel
theorem d_Ma_throwAt_123 : decode b_Ma_throwAt 123 = .ok (.iload_n 2, 1) := by decide +kernel
theorem d_Ma_throwAt_124 : decode b_Ma_throwAt 124 = .ok (.iconst 3, 1) := by decide +kernel
theorem d_Ma_throwAt_125 : decode b_Ma_throwAt 125 = .ok (.invokevirtual 295, 3) := by decide +kernel
theorem d_Ma_throwAt_128 : decode b_Ma_throwAt 128 = .ok (.aload_n 0, 1) := by decide +kernel
theorem d_Ma_throwAt_129 : decode b_Ma_throwAt 129 = .ok (.getfield 69, 3) := by decide +kernel
theorem d_Ma_throwAt_132 : decode b_Ma_throwAt 132 = .ok (.aload_n 0, 1) := by decide +kernel
theorem d_Ma_throwAt_133 : decode b_Ma_throwAt 133 = .ok (.getfield 12, 3) := by decide +kernel
theorem d_Ma_throwAt_136 : decode b_Ma_throwAt 136 = .ok (.iload 4, 2) := by decide +kernel
theorem d_Ma_throwAt_138 : decode b_Ma_throwAt 138 = .ok (.invokevirtual 319, 3) := by decide +kernel
theorem d_Ma_throwAt_141 : decode b_Ma_throwAt 141 = .ok (.bipush 10, 2) := by decide +kernel
theorem d_Ma_throwAt_143 : decode b_Ma_throwAt 143 = .ok (.invokevirtual 346, 3) := by decide +kernel
theorem d_Ma_throwAt_146 : decode b_Ma_throwAt 146 = .ok (.ifCond .ne 14, 3) := by decide +kernel
theorem d_Ma_throwAt_149 : decode b_Ma_throwAt 149 = .ok (.aload_n 0, 1) := by decide +kernel
theorem d_Ma_throwAt_150 : decode b_Ma_throwAt 150 = .ok (.getfield 12, 3) := by decide +kernel
theorem d_Ma_throwAt_153 : decode b_Ma_throwAt 153 = .ok (.bipush 20, 2) := by decide +kernel
theorem d_Ma_throwAt_155 : decode b_Ma_throwAt 155 = .ok (.invokevirtual 260, 3) := by decide +kernel
theorem d_Ma_throwAt_158 : decode b_Ma_throwAt 158 = .ok (.istore 4, 2) := by decide +kernel
theorem d_Ma_throwAt_160 : decode b_Ma_throwAt 160 = .ok (.aload_n 0, 1) := by decide +kernel
theorem d_Ma_throwAt_161 : decode b_Ma_throwAt 161 = .ok (.aload_n 1, 1) := by decide +kernel
theorem d_Ma_throwAt_162 : decode b_Ma_throwAt 162 = .ok (.iload_n 2, 1) := by decide +kernel
theorem d_Ma_throwAt_163 : decode b_Ma_throwAt 163 = .ok (.invokevirtual 257, 3) := by decide +kernel
theorem d_Ma_throwAt_166 : decode b_Ma_throwAt 166 = .ok (.iinc 5 1, 3) := by decide +kernel
theorem d_Ma_throwAt_169 : decode b_Ma_throwAt 169 = .ok (.goto (-163), 3) := by decide +kernel
theorem d_Ma_throwAt_172 : decode b_Ma_throwAt 172 = .ok (.aload_n 0, 1) := by decide +kernel
theorem d_Ma_throwAt_173 : decode b_Ma_throwAt 173 = .ok (.aload_n 1, 1) := by decide +kernel
theorem d_Ma_throwAt_174 : decode b_Ma_throwAt 174 = .ok (.iload 4, 2) := by decide +kernel
theorem d_Ma_throwAt_176 : decode b_Ma_throwAt 176 = .ok (.invokevirtual 270, 3) := by decide +kernel
theorem d_Ma_throwAt_179 : decode b_Ma_throwAt 179 = .ok (.return_, 1) := by decide +kernel
abbrev ra_Ma_throwAt (mc ms : Nat) : Room := { frames := 6, cells := mc, slots := ms, locals := 442 }
def wja_Ma_throwAt_172 (mc ms : Nat) (Post : Ly → St → Nat → Nat → Prop) (a0 : Nat) (a1 : Nat) (y_j172 : Ly) (s_j172 : St) (d_j172 e_j172 : Nat) (x4j172 : Int32) : Prop := (d_j172 ≤ mc ∧ e_j172 ≤ ms) ∧ wu_Ma_lose y_j172 (fun (s_2 : St) => Post y_j172 s_2 d_j172 e_j172) s_j172 a0 a1 x4j172
def wja_Ma_throwAt_166 (mc ms : Nat) (Post : Ly → St → Nat → Nat → Prop) (K_6 : Ly → St → Nat → Nat → Int32 → Int32 → Int32 → Prop) (a0 : Nat) (a1 : Nat) (y_j166 : Ly) (s_j166 : St) (d_j166 e_j166 : Nat) (x2j166 : Int32) (x4j166 : Int32) (x5j166 : Int32) : Prop := (d_j166 ≤ mc ∧ e_j166 ≤ ms) ∧ K_6 y_j166 s_j166 d_j166 e_j166 x2j166 x4j166 (x5j166 + 1)
def wja_Ma_throwAt_160 (mc ms : Nat) (Post : Ly → St → Nat → Nat → Prop) (K_6 : Ly → St → Nat → Nat → Int32 → Int32 → Int32 → Prop) (a0 : Nat) (a1 : Nat) (y_j160 : Ly) (s_j160 : St) (d_j160 e_j160 : Nat) (x2j160 : Int32) (x4j160 : Int32) (x5j160 : Int32) : Prop := (d_j160 ≤ mc ∧ e_j160 ≤ ms) ∧ wu_Ma_breakOpenStarts y_j160 (fun (s_19 : St) => wja_Ma_throwAt_166 mc ms Post K_6 a0 a1 y_j160 s_19 d_j160 e_j160 x2j160 x4j160 x5j160) s_j160 a0 a1 x2j160
def wba_Ma_throwAt_6 (mc ms : Nat) (Post : Ly → St → Nat → Nat → Prop) (K_6 : Ly → St → Nat → Nat → Int32 → Int32 → Int32 → Prop) (a0 : Nat) (a1 : Nat) (y_h6 : Ly) (s_h6 : St) (d_h6 e_h6 : Nat) (x2h6 : Int32) (x4h6 : Int32) (x5h6 : Int32) : Prop := (d_h6 ≤ mc ∧ e_h6 ≤ ms) ∧ ((40 ≤ x5h6 → wja_Ma_throwAt_172 mc ms Post a0 a1 y_h6 s_h6 d_h6 e_h6 x4h6) ∧ (¬ (40 ≤ x5h6) → (((sV s_h6 a1 10) ≤ 0 → wja_Ma_throwAt_172 mc ms Post a0 a1 y_h6 s_h6 d_h6 e_h6 x4h6) ∧ (¬ ((sV s_h6 a1 10) ≤ 0) → wu_Hp_classOf y_h6 (fun (s_4 : St) (r_3 : Int32) => wu_Ma_handlerFor y_h6 (fun (s_6 : St) (r_5 : Int32) => ((r_5 < 0 → wu_Ma_markFrame y_h6 (fun (s_8 : St) => wu_Ma_inStart y_h6 (fun (s_10 : St) (r_9 : Int32) => xP (uV s_10 a1 10 ((sV s_10 a1 10) - 1)) (fun s_11 : St => ((r_9 = 0 → wja_Ma_throwAt_166 mc ms Post K_6 a0 a1 y_h6 s_11 d_h6 e_h6 x2h6 x4h6 x5h6) ∧ (¬ (r_9 = 0) → wu_Ma_endStart y_h6 (fun (s_13 : St) => wu_Hp_classOf y_h6 (fun (s_15 : St) (r_14 : Int32) => wu_Wd_below y_h6 (fun (s_17 : St) (r_16 : Int32) => ((¬ r_16 = 0 → wja_Ma_throwAt_160 mc ms Post K_6 a0 a1 y_h6 s_17 d_h6 e_h6 x2h6 x4h6 x5h6) ∧ (r_16 = 0 → ∃ mc_25 ms_26 : Nat, (d_h6 + mc_25 ≤ mc ∧ e_h6 + ms_26 ≤ ms) ∧ wa_Hp_makeFault mc_25 ms_26 y_h6 (fun (y_22 : Ly) (s_21 : St) (r_20 : Int32) (d_23 e_24 : Nat) => (d_h6 + d_23 ≤ mc ∧ e_h6 + e_24 ≤ ms) ∧ wja_Ma_throwAt_160 mc ms Post K_6 a0 a1 y_22 s_21 (d_h6 + d_23) (e_h6 + e_24) x2h6 r_20 x5h6) s_17 (lk a0 1) 20))) s_15 (lk a0 0) r_14 10) s_13 (lk a0 1) x4h6) s_11 a0 a1 x2h6 3)))) s_8 a0 a1) s_6 a0 3 x2h6) ∧ (¬ (r_5 < 0) → xS y_h6 s_6 a1 14 ((sV s_6 a1 10) - 1) 0 (fun s_28 : St => wu_Ru_pushReference y_h6 (fun (s_30 : St) => xA y_h6 s_30 (lk (lk a0 0) 11) 0 (r_5 + 2) (fun x_31 : Int32 => xS y_h6 s_30 a1 13 ((sV s_30 a1 10) - 1) x_31 (fun s_32 : St => wu_Ma_markFrame y_h6 (fun (s_34 : St) => Post y_h6 s_34 d_h6 e_h6) s_32 a0 7 x2h6))) s_28 a1 x4h6)))) s_4 a0 a1 r_3) s_h6 (lk a0 1) x4h6))))
def wla_Ma_throwAt_6 (mc ms : Nat) (Post : Ly → St → Nat → Nat → Prop) (a0 : Nat) (a1 : Nat) (y_h6 : Ly) (s_h6 : St) (d_h6 e_h6 : Nat) (x2h6 : Int32) (x4h6 : Int32) (x5h6 : Int32) : Prop := ∃ (I : Ly → St → Nat → Nat → Int32 → Int32 → Int32 → Prop) (μ : Ly → St → Nat → Nat → Int32 → Int32 → Int32 → Nat), I y_h6 s_h6 d_h6 e_h6 x2h6 x4h6 x5h6 ∧ ∀ (u1 : Ly) (u2 : St) (u3 u4 : Nat) (t0 : Int32) (t1 : Int32) (t2 : Int32), I u1 u2 u3 u4 t0 t1 t2 → wba_Ma_throwAt_6 mc ms Post (fun z1 z2 z3 z4 t0q t1q t2q => I z1 z2 z3 z4 t0q t1q t2q ∧ μ z1 z2 z3 z4 t0q t1q t2q < μ u1 u2 u3 u4 t0 t1 t2) a0 a1 u1 u2 u3 u4 t0 t1 t2
def wa_Ma_throwAt (mc ms : Nat) (y : Ly) (Post : Ly → St → Nat → Nat → Prop) (σ : St) (a0 : Nat) (a1 : Nat) (v2 : Int32) (v3 : Int32) : Prop := wla_Ma_throwAt_6 mc ms Post a0 a1 y σ 0 0 v2 v3 0
set_option maxHeartbeats 4000000 in
set_option maxRecDepth 100000 in
theorem ca_Ma_throwAt (l : Launch) (D : va_G) (g : Nat → ClassId) (ad : Nat → Nat) (mc ms : Nat) (y : Ly) (Post : Ly → St → Nat → Nat → Prop) (σ : St) (a0 : Nat) (a1 : Nat) (v2 : Int32) (v3 : Int32) (sz uz : Nat) (h_a0 : cl a0 = 4) (h_a1 : cl a1 = 7) (h : wa_Ma_throwAt mc ms y Post σ a0 a1 v2 v3) : Met l y_Ma_throwAt (mw y_Ma_throwAt b_Ma_throwAt 8 (none)) (ra_Ma_throwAt mc ms) (PCu g D [] [.ref (ad a0), .ref (ad a1), .int v2, .int v3] sz uz (ws g ad y σ)) (va_Qv (fun (u : Ly × St × Nat × Nat) => Post u.1 u.2.1 u.2.2.1 u.2.2.2) (QU D (va_A (ws g ad y σ) sz) (fun u => ws g ad u.1 u.2.1) sz uz (fun u => u.2.2.1) (fun u => u.2.2.2)) (va_A (ws g ad y σ) sz)) mc ms (va_A (ws g ad y σ) sz) := by
  refine ofVu (by decide +kernel) (Nat.le_of_ble_eq_true rfl) ?_
  intro p e s m args below meth c A Q ls H locs G hsz hP hD hS hl hret
  subst hsz
  have hl : lv_has ls 8 [(0, .ref (ad a0)), (1, .ref (ad a1)), (2, .int v2), (3, .int v3)] := hl
  have hd : 0 ≤ mc ∧ 0 ≤ ms := ⟨Nat.zero_le _, Nat.zero_le _⟩
  unfold wa_Ma_throwAt at h
  refine lv_iload_n G.1 G.2.1 d_Ma_throwAt_0 rfl (lv_at hl 3 rfl) ?_
  refine lv_istore (lv' := [(4, .int v3), (0, .ref (ad a0)), (1, .ref (ad a1)), (2, .int v2), (3, .int v3)]) G.1 G.2.1 d_Ma_throwAt_1 hl (by decide) rfl (fun ls hl => ?_)
  refine lv_iconst (v := 0) G.1 G.2.1 d_Ma_throwAt_3 (by decide) ?_
  refine lv_istore (lv' := [(5, .int 0), (4, .int v3), (0, .ref (ad a0)), (1, .ref (ad a1)), (2, .int v2), (3, .int v3)]) G.1 G.2.1 d_Ma_throwAt_4 hl (by decide) rfl (fun ls hl => ?_)
  unfold wla_Ma_throwAt_6 at h
  obtain ⟨I_6, μ_6, hI_6, hB_6⟩ := h
  have L_6 : ∀ (n_6 : Nat) (y_h6 : Ly) (s_h6 : St) (d_h6 e_h6 : Nat) (x2h6 : Int32) (x4h6 : Int32) (x5h6 : Int32), μ_6 y_h6 s_h6 d_h6 e_h6 x2h6 x4h6 x5h6 < n_6 → I_6 y_h6 s_h6 d_h6 e_h6 x2h6 x4h6 x5h6 → ∀ (H : Heap) (locs : List Loc), va_P D CL (ws g ad y_h6 s_h6) H → va_D A (ws g ad y_h6 s_h6) → va_S A s.heap H locs → ∀ ls, lv_has ls 8 [(0, .ref (ad a0)), (1, .ref (ad a1)), (2, .int x2h6), (4, .int x4h6), (5, .int x5h6)] → W p l e (ra_Ma_throwAt mc ms) s m args below meth c H locs d_h6 e_h6 Q (F0 m 6 ls []) := by
    intro n_6
    induction n_6 with
    | zero => intro y_h6 s_h6 d_h6 e_h6 x2h6 x4h6 x5h6 hμ; exact absurd hμ (Nat.not_lt_zero _)
    | succ n_6 ih_6 =>
      intro y_h6 s_h6 d_h6 e_h6 x2h6 x4h6 x5h6 hμ_6 hJ H locs hP hD hS ls hl
      obtain ⟨K_6, hK_6, h⟩ : ∃ K : Ly → St → Nat → Nat → Int32 → Int32 → Int32 → Prop, (∀ z1 z2 z3 z4 (t0 : Int32) (t1 : Int32) (t2 : Int32), K z1 z2 z3 z4 t0 t1 t2 → I_6 z1 z2 z3 z4 t0 t1 t2 ∧ μ_6 z1 z2 z3 z4 t0 t1 t2 < μ_6 y_h6 s_h6 d_h6 e_h6 x2h6 x4h6 x5h6) ∧ wba_Ma_throwAt_6 mc ms Post K a0 a1 y_h6 s_h6 d_h6 e_h6 x2h6 x4h6 x5h6 := ⟨_, fun _ _ _ _ _ _ _ h => h, hB_6 y_h6 s_h6 d_h6 e_h6 x2h6 x4h6 x5h6 hJ⟩
      unfold wba_Ma_throwAt_6 at h
      obtain ⟨hd, h⟩ := h
      refine lv_iload G.1 G.2.1 d_Ma_throwAt_6 (lv_at hl 4 rfl) ?_
      refine lv_bipush (v := 40) G.1 G.2.1 d_Ma_throwAt_8 (by decide) ?_
      have J_172 : ∀ (y_j172 : Ly) (s_j172 : St) (d_j172 e_j172 : Nat) (x4j172 : Int32) (H : Heap) (locs : List Loc), wja_Ma_throwAt_172 mc ms Post a0 a1 y_j172 s_j172 d_j172 e_j172 x4j172 → va_P D CL (ws g ad y_j172 s_j172) H → va_D A (ws g ad y_j172 s_j172) → va_S A s.heap H locs → ∀ ls, lv_has ls 8 [(0, .ref (ad a0)), (1, .ref (ad a1)), (4, .int x4j172)] → W p l e (ra_Ma_throwAt mc ms) s m args below meth c H locs d_j172 e_j172 Q (F0 m 172 ls []) := by
        intro y_j172 s_j172 d_j172 e_j172 x4j172 H locs h hP hD hS ls hl
        unfold wja_Ma_throwAt_172 at h
        obtain ⟨hd, h⟩ := h
        refine lv_aload_n G.1 G.2.1 d_Ma_throwAt_172 rfl (lv_at hl 0 rfl) ?_
        refine lv_aload_n G.1 G.2.1 d_Ma_throwAt_173 rfl (lv_at hl 1 rfl) ?_
        refine lv_iload G.1 G.2.1 d_Ma_throwAt_174 (lv_at hl 2 rfl) ?_
        refine ucVv (As := [.ref (ad a1), .int x4j172]) (rest := []) G hP hD hS (cu_Ma_lose l D g ad y_j172 _ s_j172 a0 a1 x4j172 H.size h_a0 h_a1 h) w9_Ma_lose q2061 ⟨Nat.le_of_ble_eq_true rfl, Nat.le_of_ble_eq_true rfl⟩ rfl rfl h_a0 (q := (RMa, TMa, 19)) rfl rfl hl.1 rfl (Nat.le_of_ble_eq_true rfl) rfl hd d_Ma_throwAt_176 (fun s_2 H locs h hP hD hS => ?_)
        exact hret (y_j172, s_2, d_j172, e_j172) _ _ _ _ _ ls h hP hD hS (Nat.le_refl _) (Nat.le_refl _) hd.1 hd.2 d_Ma_throwAt_179
      refine lv_icmp_ge (tgt := 172) G.1 G.2.1 d_Ma_throwAt_10 (by decide) (fun c10 => ?_) (fun c10 => ?_)
      · skip
        have h := h.1 c10
        exact J_172 y_h6 s_h6 d_h6 e_h6 x4h6 H locs h hP hD hS ls (lv_sub hl [0, 1, 3] rfl)
      · skip
        have h := h.2 c10
        refine lv_aload_n G.1 G.2.1 d_Ma_throwAt_13 rfl (lv_at hl 1 rfl) ?_
        refine ugf (v := .int (sV s_h6 a1 10)) G hP h_a1 iRu rfl 10 (by decide) rfl q1006 rfl rfl d_Ma_throwAt_14 ?_
        refine lv_if_le (tgt := 172) G.1 G.2.1 d_Ma_throwAt_17 (by decide) (fun c17 => ?_) (fun c17 => ?_)
        · skip
          have h := h.1 c17
          exact J_172 y_h6 s_h6 d_h6 e_h6 x4h6 H locs h hP hD hS ls (lv_sub hl [0, 1, 3] rfl)
        · skip
          have h := h.2 c17
          refine lv_aload_n G.1 G.2.1 d_Ma_throwAt_20 rfl (lv_at hl 0 rfl) ?_
          refine lv_aload_n G.1 G.2.1 d_Ma_throwAt_21 rfl (lv_at hl 1 rfl) ?_
          refine lv_aload_n G.1 G.2.1 d_Ma_throwAt_22 rfl (lv_at hl 0 rfl) ?_
          refine ugf (v := .ref (ad (lk a0 1))) G hP h_a0 iMa rfl 1 (by decide) rfl q1067 rfl rfl d_Ma_throwAt_23 ?_
          refine lv_iload G.1 G.2.1 d_Ma_throwAt_26 (lv_at hl 3 rfl) ?_
          refine W.eq (g2 := F0 m 28 ls [.int x4h6, .ref (ad (lk a0 1)), .ref (ad a1), .ref (ad a0)]) rfl ?_
          refine ucVi (As := [.int x4h6]) (rest := [.ref (ad a1), .ref (ad a0)]) G hP hD hS (cu_Hp_classOf l D g ad y_h6 _ s_h6 (lk a0 1) x4h6 H.size (lk_4_1 h_a0) h) w9_Hp_classOf q1885 ⟨Nat.le_of_ble_eq_true rfl, Nat.le_of_ble_eq_true rfl⟩ rfl rfl (lk_4_1 h_a0) (q := (RHp, THp, 15)) rfl rfl hl.1 rfl (Nat.le_of_ble_eq_true rfl) rfl hd d_Ma_throwAt_28 (fun r_3 s_4 H locs h hP hD hS => ?_)
          refine ucVi (As := [.ref (ad a1), .int r_3]) (rest := []) G hP hD hS (cu_Ma_handlerFor l D g ad y_h6 _ s_4 a0 a1 r_3 H.size h_a0 h_a1 h) w9_Ma_handlerFor q2053 ⟨Nat.le_of_ble_eq_true rfl, Nat.le_of_ble_eq_true rfl⟩ rfl rfl h_a0 (q := (RMa, TMa, 19)) rfl rfl hl.1 rfl (Nat.le_of_ble_eq_true rfl) rfl hd d_Ma_throwAt_31 (fun r_5 s_6 H locs h hP hD hS => ?_)
          refine lv_istore (lv' := [(6, .int r_5), (0, .ref (ad a0)), (1, .ref (ad a1)), (2, .int x2h6), (4, .int x4h6), (5, .int x5h6)]) G.1 G.2.1 d_Ma_throwAt_34 hl (by decide) rfl (fun ls hl => ?_)
          refine lv_iload G.1 G.2.1 d_Ma_throwAt_36 (lv_at hl 0 rfl) ?_
          refine lv_if_lt (tgt := 93) G.1 G.2.1 d_Ma_throwAt_38 (by decide) (fun c38 => ?_) (fun c38 => ?_)
          · skip
            have h := h.1 c38
            refine lv_aload_n G.1 G.2.1 d_Ma_throwAt_93 rfl (lv_at hl 1 rfl) ?_
            refine lv_iconst (v := 3) G.1 G.2.1 d_Ma_throwAt_94 (by decide) ?_
            refine lv_iload_n G.1 G.2.1 d_Ma_throwAt_95 rfl (lv_at hl 3 rfl) ?_
            refine ucVv (As := [.int 3, .int x2h6]) (rest := []) G hP hD hS (cu_Ma_markFrame l D g ad y_h6 _ s_6 a0 3 x2h6 H.size h_a0 h) w9_Ma_markFrame q1907 ⟨Nat.le_of_ble_eq_true rfl, Nat.le_of_ble_eq_true rfl⟩ rfl rfl h_a0 (q := (RMa, TMa, 19)) rfl rfl hl.1 rfl (Nat.le_of_ble_eq_true rfl) rfl hd d_Ma_throwAt_96 (fun s_8 H locs h hP hD hS => ?_)
            refine lv_aload_n G.1 G.2.1 d_Ma_throwAt_99 rfl (lv_at hl 1 rfl) ?_
            refine lv_aload_n G.1 G.2.1 d_Ma_throwAt_100 rfl (lv_at hl 2 rfl) ?_
            refine ucVi (As := [.ref (ad a1)]) (rest := []) G hP hD hS (cu_Ma_inStart l D g ad y_h6 _ s_8 a0 a1 H.size h_a0 h_a1 h) w9_Ma_inStart q1919 ⟨Nat.le_of_ble_eq_true rfl, Nat.le_of_ble_eq_true rfl⟩ rfl rfl h_a0 (q := (RMa, TMa, 19)) rfl rfl hl.1 rfl (Nat.le_of_ble_eq_true rfl) rfl hd d_Ma_throwAt_101 (fun r_9 s_10 H locs h hP hD hS => ?_)
            refine W.eq (g2 := F0 m 104 ls [.int r_9]) rfl ?_
            refine lv_istore (lv' := [(7, .int r_9), (6, .int r_5), (0, .ref (ad a0)), (1, .ref (ad a1)), (2, .int x2h6), (4, .int x4h6), (5, .int x5h6)]) G.1 G.2.1 d_Ma_throwAt_104 hl (by decide) rfl (fun ls hl => ?_)
            refine lv_aload_n G.1 G.2.1 d_Ma_throwAt_106 rfl (lv_at hl 3 rfl) ?_
            refine lv_dup G.1 G.2.1 d_Ma_throwAt_107 rfl ?_
            refine ugf (v := .int (sV s_10 a1 10)) G hP h_a1 iRu rfl 10 (by decide) rfl q1006 rfl rfl d_Ma_throwAt_108 ?_
            refine lv_iconst (v := 1) G.1 G.2.1 d_Ma_throwAt_111 (by decide) ?_
            refine lv_isub G.1 G.2.1 d_Ma_throwAt_112 ?_
            refine upf G hP hD hS h 10 putV h_a1 iRu tRu tRu_ok nRu rfl (by decide) rfl q1006 rfl rfl fV rfl rfl d_Ma_throwAt_113 (fun s_11 H locs h hP hD hS => ?_)
            refine lv_iload G.1 G.2.1 d_Ma_throwAt_116 (lv_at hl 0 rfl) ?_
            have J_166 : ∀ (y_j166 : Ly) (s_j166 : St) (d_j166 e_j166 : Nat) (x2j166 : Int32) (x4j166 : Int32) (x5j166 : Int32) (H : Heap) (locs : List Loc), wja_Ma_throwAt_166 mc ms Post K_6 a0 a1 y_j166 s_j166 d_j166 e_j166 x2j166 x4j166 x5j166 → va_P D CL (ws g ad y_j166 s_j166) H → va_D A (ws g ad y_j166 s_j166) → va_S A s.heap H locs → ∀ ls, lv_has ls 8 [(0, .ref (ad a0)), (1, .ref (ad a1)), (2, .int x2j166), (4, .int x4j166), (5, .int x5j166)] → W p l e (ra_Ma_throwAt mc ms) s m args below meth c H locs d_j166 e_j166 Q (F0 m 166 ls []) := by
              intro y_j166 s_j166 d_j166 e_j166 x2j166 x4j166 x5j166 H locs h hP hD hS ls hl
              unfold wja_Ma_throwAt_166 at h
              obtain ⟨hd, h⟩ := h
              refine lv_iinc (v := x5j166 + 1) (lv' := [(5, .int (x5j166 + 1)), (0, .ref (ad a0)), (1, .ref (ad a1)), (2, .int x2j166), (4, .int x4j166)]) G.1 G.2.1 d_Ma_throwAt_166 hl (k := 4) rfl rfl (by decide) rfl (fun ls hl => ?_)
              refine lv_goto (tgt := 6) G.1 G.2.1 d_Ma_throwAt_169 (by decide) ?_
              have h := hK_6 y_j166 s_j166 d_j166 e_j166 x2j166 x4j166 (x5j166 + 1) h
              exact ih_6 y_j166 s_j166 d_j166 e_j166 x2j166 x4j166 (x5j166 + 1) (Nat.lt_of_lt_of_le h.2 (Nat.le_of_lt_succ hμ_6)) h.1 H locs hP hD hS ls (lv_sub hl [1, 2, 3, 4, 0] rfl)
            refine lv_if_eq (tgt := 166) G.1 G.2.1 d_Ma_throwAt_118 (by decide) (fun c118 => ?_) (fun c118 => ?_)
            · skip
              have h := h.1 c118
              exact J_166 y_h6 s_11 d_h6 e_h6 x2h6 x4h6 x5h6 H locs h hP hD hS ls (lv_sub hl [2, 3, 4, 5, 6] rfl)
            · skip
              have h := h.2 c118
              refine lv_aload_n G.1 G.2.1 d_Ma_throwAt_121 rfl (lv_at hl 2 rfl) ?_
              refine lv_aload_n G.1 G.2.1 d_Ma_throwAt_122 rfl (lv_at hl 3 rfl) ?_
              refine lv_iload_n G.1 G.2.1 d_Ma_throwAt_123 rfl (lv_at hl 4 rfl) ?_
              refine W.eq (g2 := F0 m 124 ls [.int x2h6, .ref (ad a1), .ref (ad a0)]) rfl ?_
              refine lv_iconst (v := 3) G.1 G.2.1 d_Ma_throwAt_124 (by decide) ?_
              refine ucVv (As := [.ref (ad a1), .int x2h6, .int 3]) (rest := []) G hP hD hS (cu_Ma_endStart l D g ad y_h6 _ s_11 a0 a1 x2h6 3 H.size h_a0 h_a1 h) w9_Ma_endStart q1924 ⟨Nat.le_of_ble_eq_true rfl, Nat.le_of_ble_eq_true rfl⟩ rfl rfl h_a0 (q := (RMa, TMa, 19)) rfl rfl hl.1 rfl (Nat.le_of_ble_eq_true rfl) rfl hd d_Ma_throwAt_125 (fun s_13 H locs h hP hD hS => ?_)
              refine lv_aload_n G.1 G.2.1 d_Ma_throwAt_128 rfl (lv_at hl 2 rfl) ?_
              refine ugf (v := .ref (ad (lk a0 0))) G hP h_a0 iMa rfl 0 (by decide) rfl q1065 rfl rfl d_Ma_throwAt_129 ?_
              refine lv_aload_n G.1 G.2.1 d_Ma_throwAt_132 rfl (lv_at hl 2 rfl) ?_
              refine ugf (v := .ref (ad (lk a0 1))) G hP h_a0 iMa rfl 1 (by decide) rfl q1067 rfl rfl d_Ma_throwAt_133 ?_
              refine lv_iload G.1 G.2.1 d_Ma_throwAt_136 (lv_at hl 5 rfl) ?_
              refine ucVi (As := [.int x4h6]) (rest := [.ref (ad (lk a0 0))]) G hP hD hS (cu_Hp_classOf l D g ad y_h6 _ s_13 (lk a0 1) x4h6 H.size (lk_4_1 h_a0) h) w9_Hp_classOf q1885 ⟨Nat.le_of_ble_eq_true rfl, Nat.le_of_ble_eq_true rfl⟩ rfl rfl (lk_4_1 h_a0) (q := (RHp, THp, 15)) rfl rfl hl.1 rfl (Nat.le_of_ble_eq_true rfl) rfl hd d_Ma_throwAt_138 (fun r_14 s_15 H locs h hP hD hS => ?_)
              refine lv_bipush (v := 10) G.1 G.2.1 d_Ma_throwAt_141 (by decide) ?_
              refine ucVi (As := [.int r_14, .int 10]) (rest := []) G hP hD hS (cu_Wd_below l D g ad y_h6 _ s_15 (lk a0 0) r_14 10 H.size (lk_4_0 h_a0) h) w9_Wd_below q1889 ⟨Nat.le_of_ble_eq_true rfl, Nat.le_of_ble_eq_true rfl⟩ rfl rfl (lk_4_0 h_a0) (q := (RWd, TWd, 17)) rfl rfl hl.1 rfl (Nat.le_of_ble_eq_true rfl) rfl hd d_Ma_throwAt_143 (fun r_16 s_17 H locs h hP hD hS => ?_)
              have J_160 : ∀ (y_j160 : Ly) (s_j160 : St) (d_j160 e_j160 : Nat) (x2j160 : Int32) (x4j160 : Int32) (x5j160 : Int32) (H : Heap) (locs : List Loc), wja_Ma_throwAt_160 mc ms Post K_6 a0 a1 y_j160 s_j160 d_j160 e_j160 x2j160 x4j160 x5j160 → va_P D CL (ws g ad y_j160 s_j160) H → va_D A (ws g ad y_j160 s_j160) → va_S A s.heap H locs → ∀ ls, lv_has ls 8 [(0, .ref (ad a0)), (1, .ref (ad a1)), (2, .int x2j160), (4, .int x4j160), (5, .int x5j160)] → W p l e (ra_Ma_throwAt mc ms) s m args below meth c H locs d_j160 e_j160 Q (F0 m 160 ls []) := by
                intro y_j160 s_j160 d_j160 e_j160 x2j160 x4j160 x5j160 H locs h hP hD hS ls hl
                unfold wja_Ma_throwAt_160 at h
                obtain ⟨hd, h⟩ := h
                refine lv_aload_n G.1 G.2.1 d_Ma_throwAt_160 rfl (lv_at hl 0 rfl) ?_
                refine lv_aload_n G.1 G.2.1 d_Ma_throwAt_161 rfl (lv_at hl 1 rfl) ?_
                refine lv_iload_n G.1 G.2.1 d_Ma_throwAt_162 rfl (lv_at hl 2 rfl) ?_
                refine ucVv (As := [.ref (ad a1), .int x2j160]) (rest := []) G hP hD hS (cu_Ma_breakOpenStarts l D g ad y_j160 _ s_j160 a0 a1 x2j160 H.size h_a0 h_a1 h) w9_Ma_breakOpenStarts q2057 ⟨Nat.le_of_ble_eq_true rfl, Nat.le_of_ble_eq_true rfl⟩ rfl rfl h_a0 (q := (RMa, TMa, 19)) rfl rfl hl.1 rfl (Nat.le_of_ble_eq_true rfl) rfl hd d_Ma_throwAt_163 (fun s_19 H locs h hP hD hS => ?_)
                exact J_166 y_j160 s_19 d_j160 e_j160 x2j160 x4j160 x5j160 H locs h hP hD hS ls (lv_sub hl [0, 1, 2, 3, 4] rfl)
              refine lv_if_ne (tgt := 160) G.1 G.2.1 d_Ma_throwAt_146 (by decide) (fun c146 => ?_) (fun c146 => ?_)
              · skip
                have h := h.1 c146
                exact J_160 y_h6 s_17 d_h6 e_h6 x2h6 x4h6 x5h6 H locs h hP hD hS ls (lv_sub hl [2, 3, 4, 5, 6] rfl)
              · skip
                have h := h.2 c146
                refine lv_aload_n G.1 G.2.1 d_Ma_throwAt_149 rfl (lv_at hl 2 rfl) ?_
                refine W.eq (g2 := F0 m 150 ls [.ref (ad a0)]) rfl ?_
                refine ugf (v := .ref (ad (lk a0 1))) G hP h_a0 iMa rfl 1 (by decide) rfl q1067 rfl rfl d_Ma_throwAt_150 ?_
                refine lv_bipush (v := 20) G.1 G.2.1 d_Ma_throwAt_153 (by decide) ?_
                obtain ⟨mc_25, ms_26, hr_27, h⟩ := h
                refine uaVi (As := [.int 20]) (rest := []) G hP hD hS (ca_Hp_makeFault l D g ad mc_25 ms_26 y_h6 _ s_17 (lk a0 1) 20 H.size (us H) (lk_4_1 h_a0) h) w9_Hp_makeFault q2044 ⟨Nat.le_of_ble_eq_true rfl, Nat.le_of_ble_eq_true rfl⟩ rfl rfl (lk_4_1 h_a0) (q := (RHp, THp, 15)) rfl rfl hl.1 rfl (Nat.le_of_ble_eq_true rfl) rfl hr_27 d_Ma_throwAt_155 (fun r_20 y_22 s_21 d_23 e_24 H locs h hP hD hS => ?_)
                have hl := lv_sub (l' := [(0, .ref (ad a0)), (1, .ref (ad a1)), (2, .int x2h6), (5, .int x5h6)]) hl [2, 3, 4, 6] rfl
                obtain ⟨hd, h⟩ := h
                refine lv_istore (lv' := [(4, .int r_20), (0, .ref (ad a0)), (1, .ref (ad a1)), (2, .int x2h6), (5, .int x5h6)]) G.1 G.2.1 d_Ma_throwAt_158 hl (by decide) rfl (fun ls hl => ?_)
                exact J_160 y_22 s_21 (d_h6 + d_23) (e_h6 + e_24) x2h6 r_20 x5h6 H locs h hP hD hS ls (lv_sub hl [1, 2, 3, 0, 4] rfl)
          · skip
            have h := h.2 c38
            refine lv_aload_n G.1 G.2.1 d_Ma_throwAt_41 rfl (lv_at hl 2 rfl) ?_
            refine ugf (v := .ref (yP y_h6 a1 14)) G hP h_a1 iRu rfl 14 (by decide) rfl q1018 rfl rfl d_Ma_throwAt_42 ?_
            refine lv_aload_n G.1 G.2.1 d_Ma_throwAt_45 rfl (lv_at hl 2 rfl) ?_
            refine ugf (v := .int (sV s_6 a1 10)) G hP h_a1 iRu rfl 10 (by decide) rfl q1006 rfl rfl d_Ma_throwAt_46 ?_
            refine lv_iconst (v := 1) G.1 G.2.1 d_Ma_throwAt_49 (by decide) ?_
            refine lv_isub G.1 G.2.1 d_Ma_throwAt_50 ?_
            refine lv_iconst (v := 0) G.1 G.2.1 d_Ma_throwAt_51 (by decide) ?_
            refine W.eq (g2 := F0 m 52 ls [.int 0, .int ((sV s_6 a1 10) - 1), .ref (yP y_h6 a1 14)]) rfl ?_
            refine uiast G hP hD hS (kdp h_a1 rfl) (typ h_a1 rfl) h d_Ma_throwAt_52 (fun s_28 H locs h hP hD hS => ?_)
            refine lv_aload_n G.1 G.2.1 d_Ma_throwAt_53 rfl (lv_at hl 2 rfl) ?_
            refine lv_iload G.1 G.2.1 d_Ma_throwAt_54 (lv_at hl 4 rfl) ?_
            refine ucVv (As := [.int x4h6]) (rest := []) G hP hD hS (cu_Ru_pushReference l D g ad y_h6 _ s_28 a1 x4h6 H.size h_a1 h) w9_Ru_pushReference q1961 ⟨Nat.le_of_ble_eq_true rfl, Nat.le_of_ble_eq_true rfl⟩ rfl rfl h_a1 (q := (RRu, TRu, 19)) rfl rfl hl.1 rfl (Nat.le_of_ble_eq_true rfl) rfl hd d_Ma_throwAt_56 (fun s_30 H locs h hP hD hS => ?_)
            refine lv_aload_n G.1 G.2.1 d_Ma_throwAt_59 rfl (lv_at hl 2 rfl) ?_
            refine ugf (v := .ref (yP y_h6 a1 13)) G hP h_a1 iRu rfl 13 (by decide) rfl q1015 rfl rfl d_Ma_throwAt_60 ?_
            refine lv_aload_n G.1 G.2.1 d_Ma_throwAt_63 rfl (lv_at hl 2 rfl) ?_
            refine ugf (v := .int (sV s_30 a1 10)) G hP h_a1 iRu rfl 10 (by decide) rfl q1006 rfl rfl d_Ma_throwAt_64 ?_
            refine lv_iconst (v := 1) G.1 G.2.1 d_Ma_throwAt_67 (by decide) ?_
            refine lv_isub G.1 G.2.1 d_Ma_throwAt_68 ?_
            refine lv_aload_n G.1 G.2.1 d_Ma_throwAt_69 rfl (lv_at hl 1 rfl) ?_
            refine ugf (v := .ref (ad (lk a0 0))) G hP h_a0 iMa rfl 0 (by decide) rfl q1065 rfl rfl d_Ma_throwAt_70 ?_
            refine W.eq (g2 := F0 m 73 ls [.ref (ad (lk a0 0)), .int ((sV s_30 a1 10) - 1), .ref (yP y_h6 a1 13)]) rfl ?_
            refine ugf (v := .ref (ad (lk (lk a0 0) 11))) G hP (lk_4_0 h_a0) iWd rfl 11 (by decide) rfl q852 rfl rfl d_Ma_throwAt_73 ?_
            refine ugf (v := .ref (yP y_h6 (lk (lk a0 0) 11) 0)) G hP (lk_9_11 (lk_4_0 h_a0)) iIn rfl 0 (by decide) rfl q385 rfl rfl d_Ma_throwAt_76 ?_
            refine lv_iload G.1 G.2.1 d_Ma_throwAt_79 (lv_at hl 0 rfl) ?_
            refine lv_iconst (v := 2) G.1 G.2.1 d_Ma_throwAt_81 (by decide) ?_
            refine lv_iadd G.1 G.2.1 d_Ma_throwAt_82 ?_
            refine uiald G hP (kdp (lk_9_11 (lk_4_0 h_a0)) rfl) (typ (lk_9_11 (lk_4_0 h_a0)) rfl) h d_Ma_throwAt_83 (fun x_31 h => ?_)
            refine uiast G hP hD hS (kdp h_a1 rfl) (typ h_a1 rfl) h d_Ma_throwAt_84 (fun s_32 H locs h hP hD hS => ?_)
            refine lv_aload_n G.1 G.2.1 d_Ma_throwAt_85 rfl (lv_at hl 1 rfl) ?_
            refine lv_bipush (v := 7) G.1 G.2.1 d_Ma_throwAt_86 (by decide) ?_
            refine lv_iload_n G.1 G.2.1 d_Ma_throwAt_88 rfl (lv_at hl 3 rfl) ?_
            refine ucVv (As := [.int 7, .int x2h6]) (rest := []) G hP hD hS (cu_Ma_markFrame l D g ad y_h6 _ s_32 a0 7 x2h6 H.size h_a0 h) w9_Ma_markFrame q1907 ⟨Nat.le_of_ble_eq_true rfl, Nat.le_of_ble_eq_true rfl⟩ rfl rfl h_a0 (q := (RMa, TMa, 19)) rfl rfl hl.1 rfl (Nat.le_of_ble_eq_true rfl) rfl hd d_Ma_throwAt_89 (fun s_34 H locs h hP hD hS => ?_)
            exact hret (y_h6, s_34, d_h6, e_h6) _ _ _ _ _ ls h hP hD hS (Nat.le_refl _) (Nat.le_refl _) hd.1 hd.2 d_Ma_throwAt_92
  exact L_6 _ y σ 0 0 v2 v3 0 (Nat.lt_succ_self _) hI_6 H locs hP hD hS ls (lv_sub hl [2, 3, 4, 1, 0] rfl)
theorem q1085 : Cond.fieldLink "ClassWorks$Machine" 47 "ClassWorks$Machine" "stepsDone" "I" ∈ lw_ok := lw_okmem (List.mem_of_getElem? (i := 1085) (by decide +kernel)) rfl
theorem q2049 : Cond.methodLink "ClassWorks$Machine" 263 y_Ma_throwAt ∈ lw_ok := lw_okmem (List.mem_of_getElem? (i := 2049) (by decide +kernel)) rfl
theorem q2052 : Cond.code y_Ma_throwAt b_Ma_throwAt 8 (none) ∈ lw_ok := lw_okmem (List.mem_of_getElem? (i := 2052) (by decide +kernel)) rfl
theorem q2051 : Cond.instanceMethod y_Ma_throwAt ∈ lw_ok := lw_okmem (List.mem_of_getElem? (i := 2051) (by decide +kernel)) rfl
theorem q105 : Cond.selects y_Ma_throwAt.cls y_Ma_throwAt y_Ma_throwAt ∈ lw_ok := lw_okmem (List.mem_of_getElem? (i := 105) (by decide +kernel)) rfl
theorem w9_Ma_throwAt : CWv y_Ma_throwAt b_Ma_throwAt 8 (none) 3 ∧ Cond.instanceMethod y_Ma_throwAt ∈ lw_ok ∧ Cond.selects y_Ma_throwAt.cls y_Ma_throwAt y_Ma_throwAt ∈ lw_ok := ⟨⟨q2052, q344, by decide +kernel, by decide +kernel, by decide +kernel⟩, q2051, q105⟩
theorem q1872 : Cond.methodLink "ClassWorks$Machine" 352 y_Ma_perform ∈ lw_ok := lw_okmem (List.mem_of_getElem? (i := 1872) (by decide +kernel)) rfl
theorem q1875 : Cond.code y_Ma_perform b_Ma_perform 7 (some .int) ∈ lw_ok := lw_okmem (List.mem_of_getElem? (i := 1875) (by decide +kernel)) rfl
theorem q1874 : Cond.instanceMethod y_Ma_perform ∈ lw_ok := lw_okmem (List.mem_of_getElem? (i := 1874) (by decide +kernel)) rfl
theorem q89 : Cond.selects y_Ma_perform.cls y_Ma_perform y_Ma_perform ∈ lw_ok := lw_okmem (List.mem_of_getElem? (i := 89) (by decide +kernel)) rfl
theorem w9_Ma_perform : CWv y_Ma_perform b_Ma_perform 7 (some .int) 3 ∧ Cond.instanceMethod y_Ma_perform ∈ lw_ok ∧ Cond.selects y_Ma_perform.cls y_Ma_perform y_Ma_perform ∈ lw_ok := ⟨⟨q1875, q344, by decide +kernel, by decide +kernel, by decide +kernel⟩, q1874, q89⟩
def y_Ma_oneStep : MethodName := ⟨"ClassWorks$Machine", "oneStep", "(LClassWorks$Runner;I)V"⟩
abbrev b_Ma_oneStep : ByteArray := prog_6_method_28_code
theorem d_Ma_oneStep_0 : decode b_Ma_oneStep 0 = .ok (.aload_n 1, 1) := by decide +kernel
theorem d_Ma_oneStep_1 : decode b_Ma_oneStep 1 = .ok (.getfield 158, 3) := by decide +kernel
theorem d_Ma_oneStep_4 : decode b_Ma_oneStep 4 = .ok (.iconst 1, 1) := by decide +kernel
theorem d_Ma_oneStep_5 : decode b_Ma_oneStep 5 = .ok (.isub, 1) := by decide +kernel
theorem d_Ma_oneStep_6 : decode b_Ma_oneStep 6 = .ok (.istore_n 3, 1) := by decide +kernel
theorem d_Ma_oneStep_7 : decode b_Ma_oneStep 7 = .ok (.aload_n 0, 1) := by decide +kernel
theorem d_Ma_oneStep_8 : decode b_Ma_oneStep 8 = .ok (.getfield 69, 3) := by decide +kernel
theorem d_Ma_oneStep_11 : decode b_Ma_oneStep 11 = .ok (.aload_n 1, 1) := by decide +kernel
theorem d_Ma_oneStep_12 : decode b_Ma_oneStep 12 = .ok (.getfield 211, 3) := by decide +kernel
theorem d_Ma_oneStep_15 : decode b_Ma_oneStep 15 = .ok (.iload_n 3, 1) := by decide +kernel
theorem d_Ma_oneStep_16 : decode b_Ma_oneStep 16 = .ok (.iaload, 1) := by decide +kernel
theorem d_Ma_oneStep_17 : decode b_Ma_oneStep 17 = .ok (.aload_n 1, 1) := by decide +kernel
theorem d_Ma_oneStep_18 : decode b_Ma_oneStep 18 = .ok (.getfield 214, 3) := by decide +kernel
theorem d_Ma_oneStep_21 : decode b_Ma_oneStep 21 = .ok (.iload_n 3, 1) := by decide +kernel
theorem d_Ma_oneStep_22 : decode b_Ma_oneStep 22 = .ok (.iaload, 1) := by decide +kernel
theorem d_Ma_oneStep_23 : decode b_Ma_oneStep 23 = .ok (.aload_n 1, 1) := by decide +kernel
theorem d_Ma_oneStep_24 : decode b_Ma_oneStep 24 = .ok (.getfield 217, 3) := by decide +kernel
theorem d_Ma_oneStep_27 : decode b_Ma_oneStep 27 = .ok (.iload_n 3, 1) := by decide +kernel
theorem d_Ma_oneStep_28 : decode b_Ma_oneStep 28 = .ok (.iaload, 1) := by decide +kernel
theorem d_Ma_oneStep_29 : decode b_Ma_oneStep 29 = .ok (.invokevirtual 220, 3) := by decide +kernel
theorem d_Ma_oneStep_32 : decode b_Ma_oneStep 32 = .ok (.istore 4, 2) := by decide +kernel
theorem d_Ma_oneStep_34 : decode b_Ma_oneStep 34 = .ok (.aload_n 0, 1) := by decide +kernel
theorem d_Ma_oneStep_35 : decode b_Ma_oneStep 35 = .ok (.getfield 69, 3) := by decide +kernel
theorem d_Ma_oneStep_38 : decode b_Ma_oneStep 38 = .ok (.getfield 224, 3) := by decide +kernel
theorem d_Ma_oneStep_41 : decode b_Ma_oneStep 41 = .ok (.getfield 228, 3) := by decide +kernel
theorem d_Ma_oneStep_44 : decode b_Ma_oneStep 44 = .ok (.iload 4, 2) := by decide +kernel
theorem d_Ma_oneStep_46 : decode b_Ma_oneStep 46 = .ok (.iaload, 1) := by decide +kernel
theorem d_Ma_oneStep_47 : decode b_Ma_oneStep 47 = .ok (.istore 5, 2) := by decide +kernel
theorem d_Ma_oneStep_49 : decode b_Ma_oneStep 49 = .ok (.aload_n 1, 1) := by decide +kernel
theorem d_Ma_oneStep_50 : decode b_Ma_oneStep 50 = .ok (.dup, 1) := by decide +kernel
theorem d_Ma_oneStep_51 : decode b_Ma_oneStep 51 = .ok (.getfield 273, 3) := by decide +kernel
theorem d_Ma_oneStep_54 : decode b_Ma_oneStep 54 = .ok (.iconst 1, 1) := by decide +kernel
theorem d_Ma_oneStep_55 : decode b_Ma_oneStep 55 = .ok (.iadd, 1) := by decide +kernel
theorem d_Ma_oneStep_56 : decode b_Ma_oneStep 56 = .ok (.putfield 273, 3) := by decide +kernel
theorem d_Ma_oneStep_59 : decode b_Ma_oneStep 59 = .ok (.aload_n 0, 1) := by decide +kernel
theorem d_Ma_oneStep_60 : decode b_Ma_oneStep 60 = .ok (.dup, 1) := by decide +kernel
theorem d_Ma_oneStep_61 : decode b_Ma_oneStep 61 = .ok (.getfield 47, 3) := by decide +kernel
theorem d_Ma_oneStep_64 : decode b_Ma_oneStep 64 = .ok (.iconst 1, 1) := by decide +kernel
theorem d_Ma_oneStep_65 : decode b_Ma_oneStep 65 = .ok (.iadd, 1) := by decide +kernel
theorem d_Ma_oneStep_66 : decode b_Ma_oneStep 66 = .ok (.putfield 47, 3) := by decide +kernel
theorem d_Ma_oneStep_69 : decode b_Ma_oneStep 69 = .ok (.aload_n 0, 1) := by decide +kernel
theorem d_Ma_oneStep_70 : decode b_Ma_oneStep 70 = .ok (.dup, 1) := by decide +kernel
theorem d_Ma_oneStep_71 : decode b_Ma_oneStep 71 = .ok (.getfield 50, 3) := by decide +kernel
theorem d_Ma_oneStep_74 : decode b_Ma_oneStep 74 = .ok (.iconst 1, 1) := by decide +kernel
theorem d_Ma_oneStep_75 : decode b_Ma_oneStep 75 = .ok (.iadd, 1) := by decide +kernel
theorem d_Ma_oneStep_76 : decode b_Ma_oneStep 76 = .ok (.putfield 50, 3) := by decide +kernel
theorem d_Ma_oneStep_79 : decode b_Ma_oneStep 79 = .ok (.aload_n 0, 1) := by decide +kernel
theorem d_Ma_oneStep_80 : decode b_Ma_oneStep 80 = .ok (.getfield 24, 3) := by decide +kernel
theorem d_Ma_oneStep_83 : decode b_Ma_oneStep 83 = .ok (.iload 5, 2) := by decide +kernel
theorem d_Ma_oneStep_85 : decode b_Ma_oneStep 85 = .ok (.dup2, 1) := by decide +kernel
theorem d_Ma_oneStep_86 : decode b_Ma_oneStep 86 = .ok (.iaload, 1) := by decide +kernel
theorem d_Ma_oneStep_87 : decode b_Ma_oneStep 87 = .ok (.iconst 1, 1) := by decide +kernel
theorem d_Ma_oneStep_88 : decode b_Ma_oneStep 88 = .ok (.iadd, 1) := by decide +kernel
theorem d_Ma_oneStep_89 : decode b_Ma_oneStep 89 = .ok (.iastore, 1) := by decide +kernel
theorem d_Ma_oneStep_90 : decode b_Ma_oneStep 90 = .ok (.aload_n 0, 1) := by decide +kernel
theorem d_Ma_oneStep_91 : decode b_Ma_oneStep 91 = .ok (.getfield 60, 3) := by decide +kernel
theorem d_Ma_oneStep_94 : decode b_Ma_oneStep 94 = .ok (.ifCond .ne 15, 3) := by decide +kernel
theorem d_Ma_oneStep_97 : decode b_Ma_oneStep 97 = .ok (.aload_n 0, 1) := by decide +kernel
theorem d_Ma_oneStep_98 : decode b_Ma_oneStep 98 = .ok (.aload_n 0, 1) := by decide +kernel
theorem d_Ma_oneStep_99 : decode b_Ma_oneStep 99 = .ok (.aload_n 1, 1) := by decide +kernel
theorem d_Ma_oneStep_100 : decode b_Ma_oneStep 100 = .ok (.iload_n 2, 1) := by decide +kernel
theorem d_Ma_oneStep_101 : decode b_Ma_oneStep 101 = .ok (.iload 4, 2) := by decide +kernel
theorem d_Ma_oneStep_103 : decode b_Ma_oneStep 103 = .ok (.invokevirtual 352, 3) := by decide +kernel
theorem d_Ma_oneStep_106 : decode b_Ma_oneStep 106 = .ok (.putfield 60, 3) := by decide +kernel
theorem d_Ma_oneStep_109 : decode b_Ma_oneStep 109 = .ok (.aload_n 0, 1) := by decide +kernel
theorem d_Ma_oneStep_110 : decode b_Ma_oneStep 110 = .ok (.getfield 60, 3) := by decide +kernel
theorem d_Ma_oneStep_113 : decode b_Ma_oneStep 113 = .ok (.ifCond .eq 36, 3) := by decide +kernel
theorem d_Ma_oneStep_116 : decode b_Ma_oneStep 116 = .ok (.aload_n 0, 1) := by decide +kernel
theorem d_Ma_oneStep_117 : decode b_Ma_oneStep 117 = .ok (.aload_n 1, 1) := by decide +kernel
theorem d_Ma_oneStep_118 : decode b_Ma_oneStep 118 = .ok (.iload_n 2, 1) := by decide +kernel
theorem d_Ma_oneStep_119 : decode b_Ma_oneStep 119 = .ok (.aload_n 0, 1) := by decide +kernel
theorem d_Ma_oneStep_120 : decode b_Ma_oneStep 120 = .ok (.getfield 60, 3) := by decide +kernel
theorem d_Ma_oneStep_123 : decode b_Ma_oneStep 123 = .ok (.bipush (-2), 2) := by decide +kernel
theorem d_Ma_oneStep_125 : decode b_Ma_oneStep 125 = .ok (.if_icmp .ne 10, 3) := by decide +kernel
theorem d_Ma_oneStep_128 : decode b_Ma_oneStep 128 = .ok (.aload_n 0, 1) := by decide +kernel
theorem d_Ma_oneStep_129 : decode b_Ma_oneStep 129 = .ok (.getfield 66, 3) := by decide +kernel
theorem d_Ma_oneStep_132 : decode b_Ma_oneStep 132 = .ok (.goto 14, 3) := by decide +kernel
theorem d_Ma_oneStep_135 : decode b_Ma_oneStep 135 = .ok (.aload_n 0, 1) := by decide +kernel
theorem d_Ma_oneStep_136 : decode b_Ma_oneStep 136 = .ok (.getfield 12, 3) := by decide +kernel
theorem d_Ma_oneStep_139 : decode b_Ma_oneStep 139 = .ok (.aload_n 0, 1) := by decide +kernel
theorem d_Ma_oneStep_140 : decode b_Ma_oneStep 140 = .ok (.getfield 60, 3) := by decide +kernel
theorem d_Ma_oneStep_143 : decode b_Ma_oneStep 143 = .ok (.invokevirtual 260, 3) := by decide +kernel
theorem d_Ma_oneStep_146 : decode b_Ma_oneStep 146 = .ok (.invokevirtual 263, 3) := by decide +kernel
theorem d_Ma_oneStep_149 : decode b_Ma_oneStep 149 = .ok (.return_, 1) := by decide +kernel
abbrev ra_Ma_oneStep (mc ms : Nat) : Room := { frames := 7, cells := mc, slots := ms, locals := 469 }
def wja_Ma_oneStep_149 (mc ms : Nat) (Post : Ly → St → Nat → Nat → Prop) (a0 : Nat) (a1 : Nat) (y_j149 : Ly) (s_j149 : St) (d_j149 e_j149 : Nat) : Prop := (d_j149 ≤ mc ∧ e_j149 ≤ ms) ∧ Post y_j149 s_j149 d_j149 e_j149
def wja_Ma_oneStep_146 (mc ms : Nat) (Post : Ly → St → Nat → Nat → Prop) (a0 : Nat) (a1 : Nat) (y_j146 : Ly) (s_j146 : St) (d_j146 e_j146 : Nat) (z2j146 : Int32) (z3j146 : Int32) : Prop := (d_j146 ≤ mc ∧ e_j146 ≤ ms) ∧ ∃ mc_17 ms_18 : Nat, (d_j146 + mc_17 ≤ mc ∧ e_j146 + ms_18 ≤ ms) ∧ wa_Ma_throwAt mc_17 ms_18 y_j146 (fun (y_14 : Ly) (s_13 : St) (d_15 e_16 : Nat) => (d_j146 + d_15 ≤ mc ∧ e_j146 + e_16 ≤ ms) ∧ wja_Ma_oneStep_149 mc ms Post a0 a1 y_14 s_13 (d_j146 + d_15) (e_j146 + e_16)) s_j146 a0 a1 z2j146 z3j146
def wja_Ma_oneStep_109 (mc ms : Nat) (Post : Ly → St → Nat → Nat → Prop) (a0 : Nat) (a1 : Nat) (y_j109 : Ly) (s_j109 : St) (d_j109 e_j109 : Nat) (x2j109 : Int32) : Prop := (d_j109 ≤ mc ∧ e_j109 ≤ ms) ∧ (((sV s_j109 a0 16) = 0 → wja_Ma_oneStep_149 mc ms Post a0 a1 y_j109 s_j109 d_j109 e_j109) ∧ (¬ ((sV s_j109 a0 16) = 0) → ((¬ (sV s_j109 a0 16) = (-2) → ∃ mc_25 ms_26 : Nat, (d_j109 + mc_25 ≤ mc ∧ e_j109 + ms_26 ≤ ms) ∧ wa_Hp_makeFault mc_25 ms_26 y_j109 (fun (y_22 : Ly) (s_21 : St) (r_20 : Int32) (d_23 e_24 : Nat) => (d_j109 + d_23 ≤ mc ∧ e_j109 + e_24 ≤ ms) ∧ wja_Ma_oneStep_146 mc ms Post a0 a1 y_22 s_21 (d_j109 + d_23) (e_j109 + e_24) x2j109 r_20) s_j109 (lk a0 1) (sV s_j109 a0 16)) ∧ ((sV s_j109 a0 16) = (-2) → wja_Ma_oneStep_146 mc ms Post a0 a1 y_j109 s_j109 d_j109 e_j109 x2j109 (sV s_j109 a0 18)))))
def wa_Ma_oneStep (mc ms : Nat) (y : Ly) (Post : Ly → St → Nat → Nat → Prop) (σ : St) (a0 : Nat) (a1 : Nat) (v2 : Int32) : Prop := xA y σ a1 11 ((sV σ a1 10) - 1) (fun x_1 : Int32 => xA y σ a1 12 ((sV σ a1 10) - 1) (fun x_2 : Int32 => xA y σ a1 13 ((sV σ a1 10) - 1) (fun x_3 : Int32 => wu_Wd_code y (fun (s_5 : St) (r_4 : Int32) => xA y s_5 (lk (lk a0 0) 10) 0 r_4 (fun x_6 : Int32 => xP (uV s_5 a1 4 ((sV s_5 a1 4) + 1)) (fun s_7 : St => xP (uV s_7 a0 10 ((sV s_7 a0 10) + 1)) (fun s_8 : St => xP (uV s_8 a0 11 ((sV s_8 a0 11) + 1)) (fun s_9 : St => xA y s_9 a0 3 x_6 (fun x_10 : Int32 => xS y s_9 a0 3 x_6 (x_10 + 1) (fun s_11 : St => ((¬ (sV s_11 a0 16) = 0 → wja_Ma_oneStep_109 mc ms Post a0 a1 y s_11 0 0 v2) ∧ ((sV s_11 a0 16) = 0 → wu_Ma_perform y (fun (s_29 : St) (r_28 : Int32) => xP (uV s_29 a0 16 r_28) (fun s_30 : St => wja_Ma_oneStep_109 mc ms Post a0 a1 y s_30 0 0 v2)) s_11 a0 a1 v2 r_4))))))))) σ (lk a0 0) x_1 x_2 x_3)))
set_option maxHeartbeats 4000000 in
set_option maxRecDepth 100000 in
theorem ca_Ma_oneStep (l : Launch) (D : va_G) (g : Nat → ClassId) (ad : Nat → Nat) (mc ms : Nat) (y : Ly) (Post : Ly → St → Nat → Nat → Prop) (σ : St) (a0 : Nat) (a1 : Nat) (v2 : Int32) (sz uz : Nat) (h_a0 : cl a0 = 4) (h_a1 : cl a1 = 7) (h : wa_Ma_oneStep mc ms y Post σ a0 a1 v2) : Met l y_Ma_oneStep (mw y_Ma_oneStep b_Ma_oneStep 6 (none)) (ra_Ma_oneStep mc ms) (PCu g D [] [.ref (ad a0), .ref (ad a1), .int v2] sz uz (ws g ad y σ)) (va_Qv (fun (u : Ly × St × Nat × Nat) => Post u.1 u.2.1 u.2.2.1 u.2.2.2) (QU D (va_A (ws g ad y σ) sz) (fun u => ws g ad u.1 u.2.1) sz uz (fun u => u.2.2.1) (fun u => u.2.2.2)) (va_A (ws g ad y σ) sz)) mc ms (va_A (ws g ad y σ) sz) := by
  refine ofVu (by decide +kernel) (Nat.le_of_ble_eq_true rfl) ?_
  intro p e s m args below meth c A Q ls H locs G hsz hP hD hS hl hret
  subst hsz
  have hl : lv_has ls 6 [(0, .ref (ad a0)), (1, .ref (ad a1)), (2, .int v2)] := hl
  have hd : 0 ≤ mc ∧ 0 ≤ ms := ⟨Nat.zero_le _, Nat.zero_le _⟩
  unfold wa_Ma_oneStep at h
  refine lv_aload_n G.1 G.2.1 d_Ma_oneStep_0 rfl (lv_at hl 1 rfl) ?_
  refine ugf (v := .int (sV σ a1 10)) G hP h_a1 iRu rfl 10 (by decide) rfl q1006 rfl rfl d_Ma_oneStep_1 ?_
  refine lv_iconst (v := 1) G.1 G.2.1 d_Ma_oneStep_4 (by decide) ?_
  refine lv_isub G.1 G.2.1 d_Ma_oneStep_5 ?_
  refine lv_istore_n (lv' := [(3, .int ((sV σ a1 10) - 1)), (0, .ref (ad a0)), (1, .ref (ad a1)), (2, .int v2)]) G.1 G.2.1 d_Ma_oneStep_6 rfl hl (by decide) rfl (fun ls hl => ?_)
  refine lv_aload_n G.1 G.2.1 d_Ma_oneStep_7 rfl (lv_at hl 1 rfl) ?_
  refine ugf (v := .ref (ad (lk a0 0))) G hP h_a0 iMa rfl 0 (by decide) rfl q1065 rfl rfl d_Ma_oneStep_8 ?_
  refine lv_aload_n G.1 G.2.1 d_Ma_oneStep_11 rfl (lv_at hl 2 rfl) ?_
  refine ugf (v := .ref (yP y a1 11)) G hP h_a1 iRu rfl 11 (by decide) rfl q1009 rfl rfl d_Ma_oneStep_12 ?_
  refine lv_iload_n G.1 G.2.1 d_Ma_oneStep_15 rfl (lv_at hl 0 rfl) ?_
  refine uiald G hP (kdp h_a1 rfl) (typ h_a1 rfl) h d_Ma_oneStep_16 (fun x_1 h => ?_)
  refine W.eq (g2 := F0 m 17 ls [.int x_1, .ref (ad (lk a0 0))]) rfl ?_
  refine lv_aload_n G.1 G.2.1 d_Ma_oneStep_17 rfl (lv_at hl 2 rfl) ?_
  refine ugf (v := .ref (yP y a1 12)) G hP h_a1 iRu rfl 12 (by decide) rfl q1012 rfl rfl d_Ma_oneStep_18 ?_
  refine lv_iload_n G.1 G.2.1 d_Ma_oneStep_21 rfl (lv_at hl 0 rfl) ?_
  refine uiald G hP (kdp h_a1 rfl) (typ h_a1 rfl) h d_Ma_oneStep_22 (fun x_2 h => ?_)
  refine lv_aload_n G.1 G.2.1 d_Ma_oneStep_23 rfl (lv_at hl 2 rfl) ?_
  refine ugf (v := .ref (yP y a1 13)) G hP h_a1 iRu rfl 13 (by decide) rfl q1015 rfl rfl d_Ma_oneStep_24 ?_
  refine lv_iload_n G.1 G.2.1 d_Ma_oneStep_27 rfl (lv_at hl 0 rfl) ?_
  refine uiald G hP (kdp h_a1 rfl) (typ h_a1 rfl) h d_Ma_oneStep_28 (fun x_3 h => ?_)
  refine ucVi (As := [.int x_1, .int x_2, .int x_3]) (rest := []) G hP hD hS (cu_Wd_code l D g ad y _ σ (lk a0 0) x_1 x_2 x_3 H.size (lk_4_0 h_a0) h) w9_Wd_code q1837 ⟨Nat.le_of_ble_eq_true rfl, Nat.le_of_ble_eq_true rfl⟩ rfl rfl (lk_4_0 h_a0) (q := (RWd, TWd, 17)) rfl rfl hl.1 rfl (Nat.le_of_ble_eq_true rfl) rfl hd d_Ma_oneStep_29 (fun r_4 s_5 H locs h hP hD hS => ?_)
  refine lv_istore (lv' := [(4, .int r_4), (3, .int ((sV σ a1 10) - 1)), (0, .ref (ad a0)), (1, .ref (ad a1)), (2, .int v2)]) G.1 G.2.1 d_Ma_oneStep_32 hl (by decide) rfl (fun ls hl => ?_)
  refine lv_aload_n G.1 G.2.1 d_Ma_oneStep_34 rfl (lv_at hl 2 rfl) ?_
  refine ugf (v := .ref (ad (lk a0 0))) G hP h_a0 iMa rfl 0 (by decide) rfl q1065 rfl rfl d_Ma_oneStep_35 ?_
  refine W.eq (g2 := F0 m 38 ls [.ref (ad (lk a0 0))]) rfl ?_
  refine ugf (v := .ref (ad (lk (lk a0 0) 10))) G hP (lk_4_0 h_a0) iWd rfl 10 (by decide) rfl q845 rfl rfl d_Ma_oneStep_38 ?_
  refine ugf (v := .ref (yP y (lk (lk a0 0) 10) 0)) G hP (lk_9_10 (lk_4_0 h_a0)) iIn rfl 0 (by decide) rfl q385 rfl rfl d_Ma_oneStep_41 ?_
  refine lv_iload G.1 G.2.1 d_Ma_oneStep_44 (lv_at hl 0 rfl) ?_
  refine uiald G hP (kdp (lk_9_10 (lk_4_0 h_a0)) rfl) (typ (lk_9_10 (lk_4_0 h_a0)) rfl) h d_Ma_oneStep_46 (fun x_6 h => ?_)
  refine lv_istore (lv' := [(5, .int x_6), (4, .int r_4), (3, .int ((sV σ a1 10) - 1)), (0, .ref (ad a0)), (1, .ref (ad a1)), (2, .int v2)]) G.1 G.2.1 d_Ma_oneStep_47 hl (by decide) rfl (fun ls hl => ?_)
  refine lv_aload_n G.1 G.2.1 d_Ma_oneStep_49 rfl (lv_at hl 4 rfl) ?_
  refine lv_dup G.1 G.2.1 d_Ma_oneStep_50 rfl ?_
  refine ugf (v := .int (sV s_5 a1 4)) G hP h_a1 iRu rfl 4 (by decide) rfl q989 rfl rfl d_Ma_oneStep_51 ?_
  refine lv_iconst (v := 1) G.1 G.2.1 d_Ma_oneStep_54 (by decide) ?_
  refine lv_iadd G.1 G.2.1 d_Ma_oneStep_55 ?_
  refine upf G hP hD hS h 4 putV h_a1 iRu tRu tRu_ok nRu rfl (by decide) rfl q989 rfl rfl fV rfl rfl d_Ma_oneStep_56 (fun s_7 H locs h hP hD hS => ?_)
  refine lv_aload_n G.1 G.2.1 d_Ma_oneStep_59 rfl (lv_at hl 3 rfl) ?_
  refine W.eq (g2 := F0 m 60 ls [.ref (ad a0)]) rfl ?_
  refine lv_dup G.1 G.2.1 d_Ma_oneStep_60 rfl ?_
  refine ugf (v := .int (sV s_7 a0 10)) G hP h_a0 iMa rfl 10 (by decide) rfl q1085 rfl rfl d_Ma_oneStep_61 ?_
  refine lv_iconst (v := 1) G.1 G.2.1 d_Ma_oneStep_64 (by decide) ?_
  refine lv_iadd G.1 G.2.1 d_Ma_oneStep_65 ?_
  refine upf G hP hD hS h 10 putV h_a0 iMa tMa tMa_ok nMa rfl (by decide) rfl q1085 rfl rfl fV rfl rfl d_Ma_oneStep_66 (fun s_8 H locs h hP hD hS => ?_)
  refine lv_aload_n G.1 G.2.1 d_Ma_oneStep_69 rfl (lv_at hl 3 rfl) ?_
  refine lv_dup G.1 G.2.1 d_Ma_oneStep_70 rfl ?_
  refine ugf (v := .int (sV s_8 a0 11)) G hP h_a0 iMa rfl 11 (by decide) rfl q1087 rfl rfl d_Ma_oneStep_71 ?_
  refine lv_iconst (v := 1) G.1 G.2.1 d_Ma_oneStep_74 (by decide) ?_
  refine lv_iadd G.1 G.2.1 d_Ma_oneStep_75 ?_
  refine upf G hP hD hS h 11 putV h_a0 iMa tMa tMa_ok nMa rfl (by decide) rfl q1087 rfl rfl fV rfl rfl d_Ma_oneStep_76 (fun s_9 H locs h hP hD hS => ?_)
  refine lv_aload_n G.1 G.2.1 d_Ma_oneStep_79 rfl (lv_at hl 3 rfl) ?_
  refine W.eq (g2 := F0 m 80 ls [.ref (ad a0)]) rfl ?_
  refine ugf (v := .ref (yP y a0 3)) G hP h_a0 iMa rfl 3 (by decide) rfl q1071 rfl rfl d_Ma_oneStep_80 ?_
  refine lv_iload G.1 G.2.1 d_Ma_oneStep_83 (lv_at hl 0 rfl) ?_
  refine lv_dup2_11 G.1 G.2.1 d_Ma_oneStep_85 rfl rfl ?_
  refine uiald G hP (kdp h_a0 rfl) (typ h_a0 rfl) h d_Ma_oneStep_86 (fun x_10 h => ?_)
  refine lv_iconst (v := 1) G.1 G.2.1 d_Ma_oneStep_87 (by decide) ?_
  refine lv_iadd G.1 G.2.1 d_Ma_oneStep_88 ?_
  refine uiast G hP hD hS (kdp h_a0 rfl) (typ h_a0 rfl) h d_Ma_oneStep_89 (fun s_11 H locs h hP hD hS => ?_)
  refine lv_aload_n G.1 G.2.1 d_Ma_oneStep_90 rfl (lv_at hl 3 rfl) ?_
  refine ugf (v := .int (sV s_11 a0 16)) G hP h_a0 iMa rfl 16 (by decide) rfl q1092 rfl rfl d_Ma_oneStep_91 ?_
  have J_109 : ∀ (y_j109 : Ly) (s_j109 : St) (d_j109 e_j109 : Nat) (x2j109 : Int32) (H : Heap) (locs : List Loc), wja_Ma_oneStep_109 mc ms Post a0 a1 y_j109 s_j109 d_j109 e_j109 x2j109 → va_P D CL (ws g ad y_j109 s_j109) H → va_D A (ws g ad y_j109 s_j109) → va_S A s.heap H locs → ∀ ls, lv_has ls 6 [(0, .ref (ad a0)), (1, .ref (ad a1)), (2, .int x2j109)] → W p l e (ra_Ma_oneStep mc ms) s m args below meth c H locs d_j109 e_j109 Q (F0 m 109 ls []) := by
    intro y_j109 s_j109 d_j109 e_j109 x2j109 H locs h hP hD hS ls hl
    unfold wja_Ma_oneStep_109 at h
    obtain ⟨hd, h⟩ := h
    refine lv_aload_n G.1 G.2.1 d_Ma_oneStep_109 rfl (lv_at hl 0 rfl) ?_
    refine ugf (v := .int (sV s_j109 a0 16)) G hP h_a0 iMa rfl 16 (by decide) rfl q1092 rfl rfl d_Ma_oneStep_110 ?_
    have J_149 : ∀ (y_j149 : Ly) (s_j149 : St) (d_j149 e_j149 : Nat) (H : Heap) (locs : List Loc), wja_Ma_oneStep_149 mc ms Post a0 a1 y_j149 s_j149 d_j149 e_j149 → va_P D CL (ws g ad y_j149 s_j149) H → va_D A (ws g ad y_j149 s_j149) → va_S A s.heap H locs → ∀ ls, lv_has ls 6 [] → W p l e (ra_Ma_oneStep mc ms) s m args below meth c H locs d_j149 e_j149 Q (F0 m 149 ls []) := by
      intro y_j149 s_j149 d_j149 e_j149 H locs h hP hD hS ls hl
      unfold wja_Ma_oneStep_149 at h
      obtain ⟨hd, h⟩ := h
      exact hret (y_j149, s_j149, d_j149, e_j149) _ _ _ _ _ ls h hP hD hS (Nat.le_refl _) (Nat.le_refl _) hd.1 hd.2 d_Ma_oneStep_149
    refine lv_if_eq (tgt := 149) G.1 G.2.1 d_Ma_oneStep_113 (by decide) (fun c113 => ?_) (fun c113 => ?_)
    · skip
      have h := h.1 c113
      exact J_149 y_j109 s_j109 d_j109 e_j109 H locs h hP hD hS ls (lv_sub hl [] rfl)
    · skip
      have h := h.2 c113
      refine lv_aload_n G.1 G.2.1 d_Ma_oneStep_116 rfl (lv_at hl 0 rfl) ?_
      refine lv_aload_n G.1 G.2.1 d_Ma_oneStep_117 rfl (lv_at hl 1 rfl) ?_
      refine lv_iload_n G.1 G.2.1 d_Ma_oneStep_118 rfl (lv_at hl 2 rfl) ?_
      refine lv_aload_n G.1 G.2.1 d_Ma_oneStep_119 rfl (lv_at hl 0 rfl) ?_
      refine ugf (v := .int (sV s_j109 a0 16)) G hP h_a0 iMa rfl 16 (by decide) rfl q1092 rfl rfl d_Ma_oneStep_120 ?_
      refine lv_bipush (v := (-2)) G.1 G.2.1 d_Ma_oneStep_123 (by decide) ?_
      have J_146 : ∀ (y_j146 : Ly) (s_j146 : St) (d_j146 e_j146 : Nat) (z2j146 : Int32) (z3j146 : Int32) (H : Heap) (locs : List Loc), wja_Ma_oneStep_146 mc ms Post a0 a1 y_j146 s_j146 d_j146 e_j146 z2j146 z3j146 → va_P D CL (ws g ad y_j146 s_j146) H → va_D A (ws g ad y_j146 s_j146) → va_S A s.heap H locs → ∀ ls, lv_has ls 6 [] → W p l e (ra_Ma_oneStep mc ms) s m args below meth c H locs d_j146 e_j146 Q (F0 m 146 ls [.int z3j146, .int z2j146, .ref (ad a1), .ref (ad a0)]) := by
        intro y_j146 s_j146 d_j146 e_j146 z2j146 z3j146 H locs h hP hD hS ls hl
        unfold wja_Ma_oneStep_146 at h
        obtain ⟨hd, h⟩ := h
        obtain ⟨mc_17, ms_18, hr_19, h⟩ := h
        refine uaVv (As := [.ref (ad a1), .int z2j146, .int z3j146]) (rest := []) G hP hD hS (ca_Ma_throwAt l D g ad mc_17 ms_18 y_j146 _ s_j146 a0 a1 z2j146 z3j146 H.size (us H) h_a0 h_a1 h) w9_Ma_throwAt q2049 ⟨Nat.le_of_ble_eq_true rfl, Nat.le_of_ble_eq_true rfl⟩ rfl rfl h_a0 (q := (RMa, TMa, 19)) rfl rfl hl.1 rfl (Nat.le_of_ble_eq_true rfl) rfl hr_19 d_Ma_oneStep_146 (fun y_14 s_13 d_15 e_16 H locs h hP hD hS => ?_)
        obtain ⟨hd, h⟩ := h
        exact J_149 y_14 s_13 (d_j146 + d_15) (e_j146 + e_16) H locs h hP hD hS ls (lv_sub hl [] rfl)
      refine lv_icmp_ne (tgt := 135) G.1 G.2.1 d_Ma_oneStep_125 (by decide) (fun c125 => ?_) (fun c125 => ?_)
      · skip
        have h := h.1 c125
        refine lv_aload_n G.1 G.2.1 d_Ma_oneStep_135 rfl (lv_at hl 0 rfl) ?_
        refine W.eq (g2 := F0 m 136 ls [.ref (ad a0), .int x2j109, .ref (ad a1), .ref (ad a0)]) rfl ?_
        refine ugf (v := .ref (ad (lk a0 1))) G hP h_a0 iMa rfl 1 (by decide) rfl q1067 rfl rfl d_Ma_oneStep_136 ?_
        refine lv_aload_n G.1 G.2.1 d_Ma_oneStep_139 rfl (lv_at hl 0 rfl) ?_
        refine ugf (v := .int (sV s_j109 a0 16)) G hP h_a0 iMa rfl 16 (by decide) rfl q1092 rfl rfl d_Ma_oneStep_140 ?_
        obtain ⟨mc_25, ms_26, hr_27, h⟩ := h
        refine uaVi (As := [.int (sV s_j109 a0 16)]) (rest := [.int x2j109, .ref (ad a1), .ref (ad a0)]) G hP hD hS (ca_Hp_makeFault l D g ad mc_25 ms_26 y_j109 _ s_j109 (lk a0 1) (sV s_j109 a0 16) H.size (us H) (lk_4_1 h_a0) h) w9_Hp_makeFault q2044 ⟨Nat.le_of_ble_eq_true rfl, Nat.le_of_ble_eq_true rfl⟩ rfl rfl (lk_4_1 h_a0) (q := (RHp, THp, 15)) rfl rfl hl.1 rfl (Nat.le_of_ble_eq_true rfl) rfl hr_27 d_Ma_oneStep_143 (fun r_20 y_22 s_21 d_23 e_24 H locs h hP hD hS => ?_)
        have hl := lv_sub (l' := []) hl [] rfl
        obtain ⟨hd, h⟩ := h
        exact J_146 y_22 s_21 (d_j109 + d_23) (e_j109 + e_24) x2j109 r_20 H locs h hP hD hS ls (lv_sub hl [] rfl)
      · skip
        have h := h.2 c125
        refine lv_aload_n G.1 G.2.1 d_Ma_oneStep_128 rfl (lv_at hl 0 rfl) ?_
        refine W.eq (g2 := F0 m 129 ls [.ref (ad a0), .int x2j109, .ref (ad a1), .ref (ad a0)]) rfl ?_
        refine ugf (v := .int (sV s_j109 a0 18)) G hP h_a0 iMa rfl 18 (by decide) rfl q1094 rfl rfl d_Ma_oneStep_129 ?_
        refine lv_goto (tgt := 146) G.1 G.2.1 d_Ma_oneStep_132 (by decide) ?_
        exact J_146 y_j109 s_j109 d_j109 e_j109 x2j109 (sV s_j109 a0 18) H locs h hP hD hS ls (lv_sub hl [] rfl)
  refine lv_if_ne (tgt := 109) G.1 G.2.1 d_Ma_oneStep_94 (by decide) (fun c94 => ?_) (fun c94 => ?_)
  · skip
    have h := h.1 c94
    exact J_109 y s_11 0 0 v2 H locs h hP hD hS ls (lv_sub hl [3, 4, 5] rfl)
  · skip
    have h := h.2 c94
    refine lv_aload_n G.1 G.2.1 d_Ma_oneStep_97 rfl (lv_at hl 3 rfl) ?_
    refine lv_aload_n G.1 G.2.1 d_Ma_oneStep_98 rfl (lv_at hl 3 rfl) ?_
    refine W.eq (g2 := F0 m 99 ls [.ref (ad a0), .ref (ad a0)]) rfl ?_
    refine lv_aload_n G.1 G.2.1 d_Ma_oneStep_99 rfl (lv_at hl 4 rfl) ?_
    refine lv_iload_n G.1 G.2.1 d_Ma_oneStep_100 rfl (lv_at hl 5 rfl) ?_
    refine lv_iload G.1 G.2.1 d_Ma_oneStep_101 (lv_at hl 1 rfl) ?_
    refine ucVi (As := [.ref (ad a1), .int v2, .int r_4]) (rest := [.ref (ad a0)]) G hP hD hS (cu_Ma_perform l D g ad y _ s_11 a0 a1 v2 r_4 H.size h_a0 h_a1 h) w9_Ma_perform q1872 ⟨Nat.le_of_ble_eq_true rfl, Nat.le_of_ble_eq_true rfl⟩ rfl rfl h_a0 (q := (RMa, TMa, 19)) rfl rfl hl.1 rfl (Nat.le_of_ble_eq_true rfl) rfl hd d_Ma_oneStep_103 (fun r_28 s_29 H locs h hP hD hS => ?_)
    refine upf G hP hD hS h 16 putV h_a0 iMa tMa tMa_ok nMa rfl (by decide) rfl q1092 rfl rfl fV rfl rfl d_Ma_oneStep_106 (fun s_30 H locs h hP hD hS => ?_)
    exact J_109 y s_30 0 0 v2 H locs h hP hD hS ls (lv_sub hl [3, 4, 5] rfl)
def y_Ma_runStart : MethodName := ⟨"ClassWorks$Machine", "runStart", "(LClassWorks$Runner;I)V"⟩
abbrev b_Ma_runStart : ByteArray := prog_6_method_20_code
theorem d_Ma_runStart_0 : decode b_Ma_runStart 0 = .ok (.aload_n 1, 1) := by decide +kernel
theorem d_Ma_runStart_1 : decode b_Ma_runStart 1 = .ok (.getfield 119, 3) := by decide +kernel
theorem d_Ma_runStart_4 : decode b_Ma_runStart 4 = .ok (.aload_n 1, 1) := by decide +kernel
theorem d_Ma_runStart_5 : decode b_Ma_runStart 5 = .ok (.getfield 116, 3) := by decide +kernel
theorem d_Ma_runStart_8 : decode b_Ma_runStart 8 = .ok (.iconst 1, 1) := by decide +kernel
theorem d_Ma_runStart_9 : decode b_Ma_runStart 9 = .ok (.isub, 1) := by decide +kernel
theorem d_Ma_runStart_10 : decode b_Ma_runStart 10 = .ok (.iaload, 1) := by decide +kernel
theorem d_Ma_runStart_11 : decode b_Ma_runStart 11 = .ok (.istore_n 3, 1) := by decide +kernel
theorem d_Ma_runStart_12 : decode b_Ma_runStart 12 = .ok (.aload_n 0, 1) := by decide +kernel
theorem d_Ma_runStart_13 : decode b_Ma_runStart 13 = .ok (.getfield 69, 3) := by decide +kernel
theorem d_Ma_runStart_16 : decode b_Ma_runStart 16 = .ok (.iload_n 3, 1) := by decide +kernel
theorem d_Ma_runStart_17 : decode b_Ma_runStart 17 = .ok (.aload_n 0, 1) := by decide +kernel
theorem d_Ma_runStart_18 : decode b_Ma_runStart 18 = .ok (.getfield 77, 3) := by decide +kernel
theorem d_Ma_runStart_21 : decode b_Ma_runStart 21 = .ok (.getfield 184, 3) := by decide +kernel
theorem d_Ma_runStart_24 : decode b_Ma_runStart 24 = .ok (.invokevirtual 189, 3) := by decide +kernel
theorem d_Ma_runStart_27 : decode b_Ma_runStart 27 = .ok (.istore 4, 2) := by decide +kernel
theorem d_Ma_runStart_29 : decode b_Ma_runStart 29 = .ok (.iload 4, 2) := by decide +kernel
theorem d_Ma_runStart_31 : decode b_Ma_runStart 31 = .ok (.ifCond .ge 13, 3) := by decide +kernel
theorem d_Ma_runStart_34 : decode b_Ma_runStart 34 = .ok (.aload_n 0, 1) := by decide +kernel
theorem d_Ma_runStart_35 : decode b_Ma_runStart 35 = .ok (.aload_n 1, 1) := by decide +kernel
theorem d_Ma_runStart_36 : decode b_Ma_runStart 36 = .ok (.iload_n 2, 1) := by decide +kernel
theorem d_Ma_runStart_37 : decode b_Ma_runStart 37 = .ok (.iconst 2, 1) := by decide +kernel
theorem d_Ma_runStart_38 : decode b_Ma_runStart 38 = .ok (.invokevirtual 295, 3) := by decide +kernel
theorem d_Ma_runStart_41 : decode b_Ma_runStart 41 = .ok (.goto 17, 3) := by decide +kernel
theorem d_Ma_runStart_44 : decode b_Ma_runStart 44 = .ok (.aload_n 1, 1) := by decide +kernel
theorem d_Ma_runStart_45 : decode b_Ma_runStart 45 = .ok (.iload_n 3, 1) := by decide +kernel
theorem d_Ma_runStart_46 : decode b_Ma_runStart 46 = .ok (.iload 4, 2) := by decide +kernel
theorem d_Ma_runStart_48 : decode b_Ma_runStart 48 = .ok (.iconst 0, 1) := by decide +kernel
theorem d_Ma_runStart_49 : decode b_Ma_runStart 49 = .ok (.invokevirtual 298, 3) := by decide +kernel
theorem d_Ma_runStart_52 : decode b_Ma_runStart 52 = .ok (.aload_n 0, 1) := by decide +kernel
theorem d_Ma_runStart_53 : decode b_Ma_runStart 53 = .ok (.iconst 1, 1) := by decide +kernel
theorem d_Ma_runStart_54 : decode b_Ma_runStart 54 = .ok (.iload_n 2, 1) := by decide +kernel
theorem d_Ma_runStart_55 : decode b_Ma_runStart 55 = .ok (.invokevirtual 301, 3) := by decide +kernel
theorem d_Ma_runStart_58 : decode b_Ma_runStart 58 = .ok (.return_, 1) := by decide +kernel
abbrev ru_Ma_runStart : Room := { frames := 2, cells := 0, slots := 0, locals := 145 }
def wj_Ma_runStart_58 (y : Ly) (Post : St → Prop) (a0 : Nat) (a1 : Nat) (s_j58 : St) : Prop := Post s_j58
def wu_Ma_runStart (y : Ly) (Post : St → Prop) (σ : St) (a0 : Nat) (a1 : Nat) (v2 : Int32) : Prop := xA y σ a1 17 ((sV σ a1 16) - 1) (fun x_1 : Int32 => wu_Wd_methodWith y (fun (s_3 : St) (r_2 : Int32) => ((0 ≤ r_2 → wu_Ru_addFrame y (fun (s_5 : St) => wu_Ma_markFrame y (fun (s_7 : St) => wj_Ma_runStart_58 y Post a0 a1 s_7) s_5 a0 1 v2) s_3 a1 x_1 r_2 0) ∧ (¬ (0 ≤ r_2) → wu_Ma_endStart y (fun (s_9 : St) => wj_Ma_runStart_58 y Post a0 a1 s_9) s_3 a0 a1 v2 2))) σ (lk a0 0) x_1 (sV σ (lk a0 15) 10))
set_option maxHeartbeats 4000000 in
set_option maxRecDepth 100000 in
theorem cu_Ma_runStart (l : Launch) (D : va_G) (g : Nat → ClassId) (ad : Nat → Nat) (y : Ly) (Post : St → Prop) (σ : St) (a0 : Nat) (a1 : Nat) (v2 : Int32) (sz : Nat) (h_a0 : cl a0 = 4) (h_a1 : cl a1 = 7) (h : wu_Ma_runStart y Post σ a0 a1 v2) : Met l y_Ma_runStart (mw y_Ma_runStart b_Ma_runStart 5 (none)) ru_Ma_runStart (PC g D [] [.ref (ad a0), .ref (ad a1), .int v2] sz (ws g ad y σ)) (va_Qv (fun u : St => Post u) (QW D (va_A (ws g ad y σ) sz) (fun u => ws g ad y u)) (va_A (ws g ad y σ) sz)) 0 0 (va_A (ws g ad y σ) sz) := by
  refine ofV (by decide +kernel) (Nat.le_of_ble_eq_true rfl) ?_
  intro p e s m args below meth c A Q ls H locs G hsz hP hD hS hl hret
  subst hsz
  have hl : lv_has ls 5 [(0, .ref (ad a0)), (1, .ref (ad a1)), (2, .int v2)] := hl
  unfold wu_Ma_runStart at h
  refine lv_aload_n G.1 G.2.1 d_Ma_runStart_0 rfl (lv_at hl 1 rfl) ?_
  refine ugf (v := .ref (yP y a1 17)) G hP h_a1 iRu rfl 17 (by decide) rfl q1024 rfl rfl d_Ma_runStart_1 ?_
  refine lv_aload_n G.1 G.2.1 d_Ma_runStart_4 rfl (lv_at hl 1 rfl) ?_
  refine ugf (v := .int (sV σ a1 16)) G hP h_a1 iRu rfl 16 (by decide) rfl q1022 rfl rfl d_Ma_runStart_5 ?_
  refine lv_iconst (v := 1) G.1 G.2.1 d_Ma_runStart_8 (by decide) ?_
  refine lv_isub G.1 G.2.1 d_Ma_runStart_9 ?_
  refine uiald G hP (kdp h_a1 rfl) (typ h_a1 rfl) h d_Ma_runStart_10 (fun x_1 h => ?_)
  refine lv_istore_n (lv' := [(3, .int x_1), (0, .ref (ad a0)), (1, .ref (ad a1)), (2, .int v2)]) G.1 G.2.1 d_Ma_runStart_11 rfl hl (by decide) rfl (fun ls hl => ?_)
  refine lv_aload_n G.1 G.2.1 d_Ma_runStart_12 rfl (lv_at hl 1 rfl) ?_
  refine ugf (v := .ref (ad (lk a0 0))) G hP h_a0 iMa rfl 0 (by decide) rfl q1065 rfl rfl d_Ma_runStart_13 ?_
  refine lv_iload_n G.1 G.2.1 d_Ma_runStart_16 rfl (lv_at hl 0 rfl) ?_
  refine W.eq (g2 := F0 m 17 ls [.int x_1, .ref (ad (lk a0 0))]) rfl ?_
  refine lv_aload_n G.1 G.2.1 d_Ma_runStart_17 rfl (lv_at hl 1 rfl) ?_
  refine ugf (v := .ref (ad (lk a0 15))) G hP h_a0 iMa rfl 15 (by decide) rfl q1091 rfl rfl d_Ma_runStart_18 ?_
  refine ugf (v := .int (sV σ (lk a0 15) 10)) G hP (lk_4_15 h_a0) iNa rfl 10 (by decide) rfl q516 rfl rfl d_Ma_runStart_21 ?_
  refine ucVi (As := [.int x_1, .int (sV σ (lk a0 15) 10)]) (rest := []) G hP hD hS (cu_Wd_methodWith l D g ad y _ σ (lk a0 0) x_1 (sV σ (lk a0 15) 10) H.size (lk_4_0 h_a0) h) w9_Wd_methodWith q1811 ⟨Nat.le_of_ble_eq_true rfl, Nat.le_of_ble_eq_true rfl⟩ rfl rfl (lk_4_0 h_a0) (q := (RWd, TWd, 17)) rfl rfl hl.1 rfl (Nat.le_of_ble_eq_true rfl) rfl ⟨Nat.le_refl _, Nat.le_refl _⟩ d_Ma_runStart_24 (fun r_2 s_3 H locs h hP hD hS => ?_)
  refine lv_istore (lv' := [(4, .int r_2), (3, .int x_1), (0, .ref (ad a0)), (1, .ref (ad a1)), (2, .int v2)]) G.1 G.2.1 d_Ma_runStart_27 hl (by decide) rfl (fun ls hl => ?_)
  refine lv_iload G.1 G.2.1 d_Ma_runStart_29 (lv_at hl 0 rfl) ?_
  have J_58 : ∀ (s_j58 : St) (H : Heap) (locs : List Loc), wj_Ma_runStart_58 y Post a0 a1 s_j58 → va_P D CL (ws g ad y s_j58) H → va_D A (ws g ad y s_j58) → va_S A s.heap H locs → ∀ ls, lv_has ls 5 [] → W p l e ru_Ma_runStart s m args below meth c H locs 0 0 Q (F0 m 58 ls []) := by
    intro s_j58 H locs h hP hD hS ls hl
    unfold wj_Ma_runStart_58 at h
    exact hret _ _ _ _ _ _ ls h hP hD hS (Nat.le_refl _) (Nat.le_refl _) d_Ma_runStart_58
  refine lv_if_ge (tgt := 44) G.1 G.2.1 d_Ma_runStart_31 (by decide) (fun c31 => ?_) (fun c31 => ?_)
  · skip
    have h := h.1 c31
    refine lv_aload_n G.1 G.2.1 d_Ma_runStart_44 rfl (lv_at hl 3 rfl) ?_
    refine lv_iload_n G.1 G.2.1 d_Ma_runStart_45 rfl (lv_at hl 1 rfl) ?_
    refine lv_iload G.1 G.2.1 d_Ma_runStart_46 (lv_at hl 0 rfl) ?_
    refine lv_iconst (v := 0) G.1 G.2.1 d_Ma_runStart_48 (by decide) ?_
    refine ucVv (As := [.int x_1, .int r_2, .int 0]) (rest := []) G hP hD hS (cu_Ru_addFrame l D g ad y _ s_3 a1 x_1 r_2 0 H.size h_a1 h) w9_Ru_addFrame q1902 ⟨Nat.le_of_ble_eq_true rfl, Nat.le_of_ble_eq_true rfl⟩ rfl rfl h_a1 (q := (RRu, TRu, 19)) rfl rfl hl.1 rfl (Nat.le_of_ble_eq_true rfl) rfl ⟨Nat.le_refl _, Nat.le_refl _⟩ d_Ma_runStart_49 (fun s_5 H locs h hP hD hS => ?_)
    refine W.eq (g2 := F0 m 52 ls []) rfl ?_
    refine lv_aload_n G.1 G.2.1 d_Ma_runStart_52 rfl (lv_at hl 2 rfl) ?_
    refine lv_iconst (v := 1) G.1 G.2.1 d_Ma_runStart_53 (by decide) ?_
    refine lv_iload_n G.1 G.2.1 d_Ma_runStart_54 rfl (lv_at hl 4 rfl) ?_
    refine ucVv (As := [.int 1, .int v2]) (rest := []) G hP hD hS (cu_Ma_markFrame l D g ad y _ s_5 a0 1 v2 H.size h_a0 h) w9_Ma_markFrame q1907 ⟨Nat.le_of_ble_eq_true rfl, Nat.le_of_ble_eq_true rfl⟩ rfl rfl h_a0 (q := (RMa, TMa, 19)) rfl rfl hl.1 rfl (Nat.le_of_ble_eq_true rfl) rfl ⟨Nat.le_refl _, Nat.le_refl _⟩ d_Ma_runStart_55 (fun s_7 H locs h hP hD hS => ?_)
    exact J_58 s_7 H locs h hP hD hS ls (lv_sub hl [] rfl)
  · skip
    have h := h.2 c31
    refine lv_aload_n G.1 G.2.1 d_Ma_runStart_34 rfl (lv_at hl 2 rfl) ?_
    refine lv_aload_n G.1 G.2.1 d_Ma_runStart_35 rfl (lv_at hl 3 rfl) ?_
    refine lv_iload_n G.1 G.2.1 d_Ma_runStart_36 rfl (lv_at hl 4 rfl) ?_
    refine lv_iconst (v := 2) G.1 G.2.1 d_Ma_runStart_37 (by decide) ?_
    refine ucVv (As := [.ref (ad a1), .int v2, .int 2]) (rest := []) G hP hD hS (cu_Ma_endStart l D g ad y _ s_3 a0 a1 v2 2 H.size h_a0 h_a1 h) w9_Ma_endStart q1924 ⟨Nat.le_of_ble_eq_true rfl, Nat.le_of_ble_eq_true rfl⟩ rfl rfl h_a0 (q := (RMa, TMa, 19)) rfl rfl hl.1 rfl (Nat.le_of_ble_eq_true rfl) rfl ⟨Nat.le_refl _, Nat.le_refl _⟩ d_Ma_runStart_38 (fun s_9 H locs h hP hD hS => ?_)
    refine W.eq (g2 := F0 m 41 ls []) rfl ?_
    refine lv_goto (tgt := 58) G.1 G.2.1 d_Ma_runStart_41 (by decide) ?_
    exact J_58 s_9 H locs h hP hD hS ls (lv_sub hl [] rfl)
def y_Ma_openRun : MethodName := ⟨"ClassWorks$Machine", "openRun", "(LClassWorks$Runner;I)V"⟩
abbrev b_Ma_openRun : ByteArray := prog_6_method_23_code
theorem q983 : Cond.fieldLink "ClassWorks$Machine" 310 "ClassWorks$Runner" "callNumbers" "[I" ∈ lw_ok := lw_okmem (List.mem_of_getElem? (i := 983) (by decide +kernel)) rfl
theorem d_Ma_openRun_0 : decode b_Ma_openRun 0 = .ok (.aload_n 1, 1) := by decide +kernel
theorem d_Ma_openRun_1 : decode b_Ma_openRun 1 = .ok (.aload_n 0, 1) := by decide +kernel
theorem d_Ma_openRun_2 : decode b_Ma_openRun 2 = .ok (.getfield 73, 3) := by decide +kernel
theorem d_Ma_openRun_5 : decode b_Ma_openRun 5 = .ok (.getfield 208, 3) := by decide +kernel
theorem d_Ma_openRun_8 : decode b_Ma_openRun 8 = .ok (.aload_n 0, 1) := by decide +kernel
theorem d_Ma_openRun_9 : decode b_Ma_openRun 9 = .ok (.getfield 73, 3) := by decide +kernel
theorem d_Ma_openRun_12 : decode b_Ma_openRun 12 = .ok (.getfield 304, 3) := by decide +kernel
theorem d_Ma_openRun_15 : decode b_Ma_openRun 15 = .ok (.iconst 0, 1) := by decide +kernel
theorem d_Ma_openRun_16 : decode b_Ma_openRun 16 = .ok (.invokevirtual 298, 3) := by decide +kernel
theorem d_Ma_openRun_19 : decode b_Ma_openRun 19 = .ok (.aload_n 0, 1) := by decide +kernel
theorem d_Ma_openRun_20 : decode b_Ma_openRun 20 = .ok (.getfield 77, 3) := by decide +kernel
theorem d_Ma_openRun_23 : decode b_Ma_openRun 23 = .ok (.aload_n 1, 1) := by decide +kernel
theorem d_Ma_openRun_24 : decode b_Ma_openRun 24 = .ok (.getfield 198, 3) := by decide +kernel
theorem d_Ma_openRun_27 : decode b_Ma_openRun 27 = .ok (.invokevirtual 307, 3) := by decide +kernel
theorem d_Ma_openRun_30 : decode b_Ma_openRun 30 = .ok (.istore_n 3, 1) := by decide +kernel
theorem d_Ma_openRun_31 : decode b_Ma_openRun 31 = .ok (.iconst 0, 1) := by decide +kernel
theorem d_Ma_openRun_32 : decode b_Ma_openRun 32 = .ok (.istore 4, 2) := by decide +kernel
theorem d_Ma_openRun_34 : decode b_Ma_openRun 34 = .ok (.iload 4, 2) := by decide +kernel
theorem d_Ma_openRun_36 : decode b_Ma_openRun 36 = .ok (.iload_n 3, 1) := by decide +kernel
theorem d_Ma_openRun_37 : decode b_Ma_openRun 37 = .ok (.if_icmp .ge 27, 3) := by decide +kernel
theorem d_Ma_openRun_40 : decode b_Ma_openRun 40 = .ok (.aload_n 1, 1) := by decide +kernel
theorem d_Ma_openRun_41 : decode b_Ma_openRun 41 = .ok (.iload 4, 2) := by decide +kernel
theorem d_Ma_openRun_43 : decode b_Ma_openRun 43 = .ok (.aload_n 1, 1) := by decide +kernel
theorem d_Ma_openRun_44 : decode b_Ma_openRun 44 = .ok (.getfield 310, 3) := by decide +kernel
theorem d_Ma_openRun_47 : decode b_Ma_openRun 47 = .ok (.iload 4, 2) := by decide +kernel
theorem d_Ma_openRun_49 : decode b_Ma_openRun 49 = .ok (.iaload, 1) := by decide +kernel
theorem d_Ma_openRun_50 : decode b_Ma_openRun 50 = .ok (.i2l, 1) := by decide +kernel
theorem d_Ma_openRun_51 : decode b_Ma_openRun 51 = .ok (.ldc2_w 313, 3) := by decide +kernel
theorem d_Ma_openRun_54 : decode b_Ma_openRun 54 = .ok (.land, 1) := by decide +kernel
theorem d_Ma_openRun_55 : decode b_Ma_openRun 55 = .ok (.invokevirtual 315, 3) := by decide +kernel
theorem d_Ma_openRun_58 : decode b_Ma_openRun 58 = .ok (.iinc 4 1, 3) := by decide +kernel
theorem d_Ma_openRun_61 : decode b_Ma_openRun 61 = .ok (.goto (-27), 3) := by decide +kernel
theorem d_Ma_openRun_64 : decode b_Ma_openRun 64 = .ok (.aload_n 0, 1) := by decide +kernel
theorem d_Ma_openRun_65 : decode b_Ma_openRun 65 = .ok (.iconst 1, 1) := by decide +kernel
theorem d_Ma_openRun_66 : decode b_Ma_openRun 66 = .ok (.iload_n 2, 1) := by decide +kernel
theorem d_Ma_openRun_67 : decode b_Ma_openRun 67 = .ok (.invokevirtual 301, 3) := by decide +kernel
theorem d_Ma_openRun_70 : decode b_Ma_openRun 70 = .ok (.return_, 1) := by decide +kernel
abbrev ru_Ma_openRun : Room := { frames := 2, cells := 0, slots := 0, locals := 145 }
def wb_Ma_openRun_34 (y : Ly) (Post : St → Prop) (K_34 : St → Int32 → Int32 → Int32 → Prop) (a0 : Nat) (a1 : Nat) (s_h34 : St) (x2h34 : Int32) (x3h34 : Int32) (x4h34 : Int32) : Prop := ((x3h34 ≤ x4h34 → wu_Ma_markFrame y (fun (s_6 : St) => Post s_6) s_h34 a0 1 x2h34) ∧ (¬ (x3h34 ≤ x4h34) → xA y s_h34 a1 2 x4h34 (fun x_7 : Int32 => wu_Ru_setLocal y (fun (s_9 : St) => K_34 s_9 x2h34 x3h34 (x4h34 + 1)) s_h34 a1 x4h34 (x_7.toInt64 &&& (4294967295)))))
def wl_Ma_openRun_34 (y : Ly) (Post : St → Prop) (a0 : Nat) (a1 : Nat) (s_h34 : St) (x2h34 : Int32) (x3h34 : Int32) (x4h34 : Int32) : Prop := ∃ (I : St → Int32 → Int32 → Int32 → Prop) (μ : St → Int32 → Int32 → Int32 → Nat), I s_h34 x2h34 x3h34 x4h34 ∧ ∀ (u : St) (t0 : Int32) (t1 : Int32) (t2 : Int32), I u t0 t1 t2 → wb_Ma_openRun_34 y Post (fun z t0q t1q t2q => I z t0q t1q t2q ∧ μ z t0q t1q t2q < μ u t0 t1 t2) a0 a1 u t0 t1 t2
def wu_Ma_openRun (y : Ly) (Post : St → Prop) (σ : St) (a0 : Nat) (a1 : Nat) (v2 : Int32) : Prop := wu_Ru_addFrame y (fun (s_2 : St) => wu_Na_argumentsOf y (fun (s_4 : St) (r_3 : Int32) => wl_Ma_openRun_34 y Post a0 a1 s_4 v2 r_3 0) s_2 (lk a0 15) (sV s_2 a1 1)) σ a1 (sV σ (lk a0 14) 0) (sV σ (lk a0 14) 1) 0
set_option maxHeartbeats 4000000 in
set_option maxRecDepth 100000 in
theorem cu_Ma_openRun (l : Launch) (D : va_G) (g : Nat → ClassId) (ad : Nat → Nat) (y : Ly) (Post : St → Prop) (σ : St) (a0 : Nat) (a1 : Nat) (v2 : Int32) (sz : Nat) (h_a0 : cl a0 = 4) (h_a1 : cl a1 = 7) (h : wu_Ma_openRun y Post σ a0 a1 v2) : Met l y_Ma_openRun (mw y_Ma_openRun b_Ma_openRun 5 (none)) ru_Ma_openRun (PC g D [] [.ref (ad a0), .ref (ad a1), .int v2] sz (ws g ad y σ)) (va_Qv (fun u : St => Post u) (QW D (va_A (ws g ad y σ) sz) (fun u => ws g ad y u)) (va_A (ws g ad y σ) sz)) 0 0 (va_A (ws g ad y σ) sz) := by
  refine ofV (by decide +kernel) (Nat.le_of_ble_eq_true rfl) ?_
  intro p e s m args below meth c A Q ls H locs G hsz hP hD hS hl hret
  subst hsz
  have hl : lv_has ls 5 [(0, .ref (ad a0)), (1, .ref (ad a1)), (2, .int v2)] := hl
  unfold wu_Ma_openRun at h
  refine lv_aload_n G.1 G.2.1 d_Ma_openRun_0 rfl (lv_at hl 1 rfl) ?_
  refine lv_aload_n G.1 G.2.1 d_Ma_openRun_1 rfl (lv_at hl 0 rfl) ?_
  refine ugf (v := .ref (ad (lk a0 14))) G hP h_a0 iMa rfl 14 (by decide) rfl q1090 rfl rfl d_Ma_openRun_2 ?_
  refine ugf (v := .int (sV σ (lk a0 14) 0)) G hP (lk_4_14 h_a0) iFi rfl 0 (by decide) rfl q727 rfl rfl d_Ma_openRun_5 ?_
  refine lv_aload_n G.1 G.2.1 d_Ma_openRun_8 rfl (lv_at hl 0 rfl) ?_
  refine ugf (v := .ref (ad (lk a0 14))) G hP h_a0 iMa rfl 14 (by decide) rfl q1090 rfl rfl d_Ma_openRun_9 ?_
  refine ugf (v := .int (sV σ (lk a0 14) 1)) G hP (lk_4_14 h_a0) iFi rfl 1 (by decide) rfl q730 rfl rfl d_Ma_openRun_12 ?_
  refine lv_iconst (v := 0) G.1 G.2.1 d_Ma_openRun_15 (by decide) ?_
  refine ucVv (As := [.int (sV σ (lk a0 14) 0), .int (sV σ (lk a0 14) 1), .int 0]) (rest := []) G hP hD hS (cu_Ru_addFrame l D g ad y _ σ a1 (sV σ (lk a0 14) 0) (sV σ (lk a0 14) 1) 0 H.size h_a1 h) w9_Ru_addFrame q1902 ⟨Nat.le_of_ble_eq_true rfl, Nat.le_of_ble_eq_true rfl⟩ rfl rfl h_a1 (q := (RRu, TRu, 19)) rfl rfl hl.1 rfl (Nat.le_of_ble_eq_true rfl) rfl ⟨Nat.le_refl _, Nat.le_refl _⟩ d_Ma_openRun_16 (fun s_2 H locs h hP hD hS => ?_)
  refine lv_aload_n G.1 G.2.1 d_Ma_openRun_19 rfl (lv_at hl 0 rfl) ?_
  refine ugf (v := .ref (ad (lk a0 15))) G hP h_a0 iMa rfl 15 (by decide) rfl q1091 rfl rfl d_Ma_openRun_20 ?_
  refine W.eq (g2 := F0 m 23 ls [.ref (ad (lk a0 15))]) rfl ?_
  refine lv_aload_n G.1 G.2.1 d_Ma_openRun_23 rfl (lv_at hl 1 rfl) ?_
  refine ugf (v := .int (sV s_2 a1 1)) G hP h_a1 iRu rfl 1 (by decide) rfl q979 rfl rfl d_Ma_openRun_24 ?_
  refine ucVi (As := [.int (sV s_2 a1 1)]) (rest := []) G hP hD hS (cu_Na_argumentsOf l D g ad y _ s_2 (lk a0 15) (sV s_2 a1 1) H.size (lk_4_15 h_a0) h) w9_Na_argumentsOf q1880 ⟨Nat.le_of_ble_eq_true rfl, Nat.le_of_ble_eq_true rfl⟩ rfl rfl (lk_4_15 h_a0) (q := (RNa, TNa, 11)) rfl rfl hl.1 rfl (Nat.le_of_ble_eq_true rfl) rfl ⟨Nat.le_refl _, Nat.le_refl _⟩ d_Ma_openRun_27 (fun r_3 s_4 H locs h hP hD hS => ?_)
  refine lv_istore_n (lv' := [(3, .int r_3), (0, .ref (ad a0)), (1, .ref (ad a1)), (2, .int v2)]) G.1 G.2.1 d_Ma_openRun_30 rfl hl (by decide) rfl (fun ls hl => ?_)
  refine lv_iconst (v := 0) G.1 G.2.1 d_Ma_openRun_31 (by decide) ?_
  refine lv_istore (lv' := [(4, .int 0), (3, .int r_3), (0, .ref (ad a0)), (1, .ref (ad a1)), (2, .int v2)]) G.1 G.2.1 d_Ma_openRun_32 hl (by decide) rfl (fun ls hl => ?_)
  unfold wl_Ma_openRun_34 at h
  obtain ⟨I_34, μ_34, hI_34, hB_34⟩ := h
  have L_34 : ∀ (n_34 : Nat) (s_h34 : St) (x2h34 : Int32) (x3h34 : Int32) (x4h34 : Int32), μ_34 s_h34 x2h34 x3h34 x4h34 < n_34 → I_34 s_h34 x2h34 x3h34 x4h34 → ∀ (H : Heap) (locs : List Loc), va_P D CL (ws g ad y s_h34) H → va_D A (ws g ad y s_h34) → va_S A s.heap H locs → ∀ ls, lv_has ls 5 [(0, .ref (ad a0)), (1, .ref (ad a1)), (2, .int x2h34), (3, .int x3h34), (4, .int x4h34)] → W p l e ru_Ma_openRun s m args below meth c H locs 0 0 Q (F0 m 34 ls []) := by
    intro n_34
    induction n_34 with
    | zero => intro s_h34 x2h34 x3h34 x4h34 hμ; exact absurd hμ (Nat.not_lt_zero _)
    | succ n_34 ih_34 =>
      intro s_h34 x2h34 x3h34 x4h34 hμ_34 hJ H locs hP hD hS ls hl
      obtain ⟨K_34, hK_34, h⟩ : ∃ K : St → Int32 → Int32 → Int32 → Prop, (∀ z (t0 : Int32) (t1 : Int32) (t2 : Int32), K z t0 t1 t2 → I_34 z t0 t1 t2 ∧ μ_34 z t0 t1 t2 < μ_34 s_h34 x2h34 x3h34 x4h34) ∧ wb_Ma_openRun_34 y Post K a0 a1 s_h34 x2h34 x3h34 x4h34 := ⟨_, fun _ _ _ _ h => h, hB_34 s_h34 x2h34 x3h34 x4h34 hJ⟩
      unfold wb_Ma_openRun_34 at h
      refine lv_iload G.1 G.2.1 d_Ma_openRun_34 (lv_at hl 4 rfl) ?_
      refine lv_iload_n G.1 G.2.1 d_Ma_openRun_36 rfl (lv_at hl 3 rfl) ?_
      refine lv_icmp_ge (tgt := 64) G.1 G.2.1 d_Ma_openRun_37 (by decide) (fun c37 => ?_) (fun c37 => ?_)
      · skip
        have h := h.1 c37
        refine lv_aload_n G.1 G.2.1 d_Ma_openRun_64 rfl (lv_at hl 0 rfl) ?_
        refine lv_iconst (v := 1) G.1 G.2.1 d_Ma_openRun_65 (by decide) ?_
        refine lv_iload_n G.1 G.2.1 d_Ma_openRun_66 rfl (lv_at hl 2 rfl) ?_
        refine ucVv (As := [.int 1, .int x2h34]) (rest := []) G hP hD hS (cu_Ma_markFrame l D g ad y _ s_h34 a0 1 x2h34 H.size h_a0 h) w9_Ma_markFrame q1907 ⟨Nat.le_of_ble_eq_true rfl, Nat.le_of_ble_eq_true rfl⟩ rfl rfl h_a0 (q := (RMa, TMa, 19)) rfl rfl hl.1 rfl (Nat.le_of_ble_eq_true rfl) rfl ⟨Nat.le_refl _, Nat.le_refl _⟩ d_Ma_openRun_67 (fun s_6 H locs h hP hD hS => ?_)
        exact hret _ _ _ _ _ _ ls h hP hD hS (Nat.le_refl _) (Nat.le_refl _) d_Ma_openRun_70
      · skip
        have h := h.2 c37
        refine lv_aload_n G.1 G.2.1 d_Ma_openRun_40 rfl (lv_at hl 1 rfl) ?_
        refine lv_iload G.1 G.2.1 d_Ma_openRun_41 (lv_at hl 4 rfl) ?_
        refine lv_aload_n G.1 G.2.1 d_Ma_openRun_43 rfl (lv_at hl 1 rfl) ?_
        refine ugf (v := .ref (yP y a1 2)) G hP h_a1 iRu rfl 2 (by decide) rfl q983 rfl rfl d_Ma_openRun_44 ?_
        refine lv_iload G.1 G.2.1 d_Ma_openRun_47 (lv_at hl 4 rfl) ?_
        refine uiald G hP (kdp h_a1 rfl) (typ h_a1 rfl) h d_Ma_openRun_49 (fun x_7 h => ?_)
        refine lv_i2l G.1 G.2.1 d_Ma_openRun_50 rfl ?_
        refine lv_ldc2 (v := (4294967295)) G.1 G.2.1 G.2.2.2.2.2.2.1 (G.2.2.2.2.2.1 _ q1974) d_Ma_openRun_51 ?_
        refine W.eq (g2 := F0 m 54 ls [.long (4294967295), .long x_7.toInt64, .int x4h34, .ref (ad a1)]) rfl ?_
        refine lv_land G.1 G.2.1 d_Ma_openRun_54 ?_
        refine ucVv (As := [.int x4h34, .long (x_7.toInt64 &&& (4294967295))]) (rest := []) G hP hD hS (cu_Ru_setLocal l D g ad y _ s_h34 a1 x4h34 (x_7.toInt64 &&& (4294967295)) H.size h_a1 h) w9_Ru_setLocal q1970 ⟨Nat.le_of_ble_eq_true rfl, Nat.le_of_ble_eq_true rfl⟩ rfl rfl h_a1 (q := (RRu, TRu, 19)) rfl rfl hl.1 rfl (Nat.le_of_ble_eq_true rfl) rfl ⟨Nat.le_refl _, Nat.le_refl _⟩ d_Ma_openRun_55 (fun s_9 H locs h hP hD hS => ?_)
        refine lv_iinc (v := x4h34 + 1) (lv' := [(4, .int (x4h34 + 1)), (0, .ref (ad a0)), (1, .ref (ad a1)), (2, .int x2h34), (3, .int x3h34)]) G.1 G.2.1 d_Ma_openRun_58 hl (k := 4) rfl rfl (by decide) rfl (fun ls hl => ?_)
        refine lv_goto (tgt := 34) G.1 G.2.1 d_Ma_openRun_61 (by decide) ?_
        have h := hK_34 s_9 x2h34 x3h34 (x4h34 + 1) h
        exact ih_34 s_9 x2h34 x3h34 (x4h34 + 1) (Nat.lt_of_lt_of_le h.2 (Nat.le_of_lt_succ hμ_34)) h.1 H locs hP hD hS ls (lv_sub hl [1, 2, 3, 4, 0] rfl)
  exact L_34 _ s_4 v2 r_3 0 (Nat.lt_succ_self _) hI_34 H locs hP hD hS ls (lv_sub hl [2, 3, 4, 1, 0] rfl)
theorem q2073 : Cond.methodLink "ClassWorks$Machine" 251 y_Ma_beginStart ∈ lw_ok := lw_okmem (List.mem_of_getElem? (i := 2073) (by decide +kernel)) rfl
theorem q2076 : Cond.code y_Ma_beginStart b_Ma_beginStart 4 (none) ∈ lw_ok := lw_okmem (List.mem_of_getElem? (i := 2076) (by decide +kernel)) rfl
theorem q2075 : Cond.instanceMethod y_Ma_beginStart ∈ lw_ok := lw_okmem (List.mem_of_getElem? (i := 2075) (by decide +kernel)) rfl
theorem q110 : Cond.selects y_Ma_beginStart.cls y_Ma_beginStart y_Ma_beginStart ∈ lw_ok := lw_okmem (List.mem_of_getElem? (i := 110) (by decide +kernel)) rfl
theorem w9_Ma_beginStart : CWv y_Ma_beginStart b_Ma_beginStart 4 (none) 2 ∧ Cond.instanceMethod y_Ma_beginStart ∈ lw_ok ∧ Cond.selects y_Ma_beginStart.cls y_Ma_beginStart y_Ma_beginStart ∈ lw_ok := ⟨⟨q2076, q344, by decide +kernel, by decide +kernel, by decide +kernel⟩, q2075, q110⟩
theorem q2081 : Cond.methodLink "ClassWorks$Machine" 254 y_Ma_runStart ∈ lw_ok := lw_okmem (List.mem_of_getElem? (i := 2081) (by decide +kernel)) rfl
theorem q2084 : Cond.code y_Ma_runStart b_Ma_runStart 5 (none) ∈ lw_ok := lw_okmem (List.mem_of_getElem? (i := 2084) (by decide +kernel)) rfl
theorem q2083 : Cond.instanceMethod y_Ma_runStart ∈ lw_ok := lw_okmem (List.mem_of_getElem? (i := 2083) (by decide +kernel)) rfl
theorem q111 : Cond.selects y_Ma_runStart.cls y_Ma_runStart y_Ma_runStart ∈ lw_ok := lw_okmem (List.mem_of_getElem? (i := 111) (by decide +kernel)) rfl
theorem w9_Ma_runStart : CWv y_Ma_runStart b_Ma_runStart 5 (none) 2 ∧ Cond.instanceMethod y_Ma_runStart ∈ lw_ok ∧ Cond.selects y_Ma_runStart.cls y_Ma_runStart y_Ma_runStart ∈ lw_ok := ⟨⟨q2084, q344, by decide +kernel, by decide +kernel, by decide +kernel⟩, q2083, q111⟩
theorem q2085 : Cond.methodLink "ClassWorks$Machine" 267 y_Ma_openRun ∈ lw_ok := lw_okmem (List.mem_of_getElem? (i := 2085) (by decide +kernel)) rfl
theorem q2088 : Cond.code y_Ma_openRun b_Ma_openRun 5 (none) ∈ lw_ok := lw_okmem (List.mem_of_getElem? (i := 2088) (by decide +kernel)) rfl
theorem q2087 : Cond.instanceMethod y_Ma_openRun ∈ lw_ok := lw_okmem (List.mem_of_getElem? (i := 2087) (by decide +kernel)) rfl
theorem q112 : Cond.selects y_Ma_openRun.cls y_Ma_openRun y_Ma_openRun ∈ lw_ok := lw_okmem (List.mem_of_getElem? (i := 112) (by decide +kernel)) rfl
theorem w9_Ma_openRun : CWv y_Ma_openRun b_Ma_openRun 5 (none) 2 ∧ Cond.instanceMethod y_Ma_openRun ∈ lw_ok ∧ Cond.selects y_Ma_openRun.cls y_Ma_openRun y_Ma_openRun ∈ lw_ok := ⟨⟨q2088, q344, by decide +kernel, by decide +kernel, by decide +kernel⟩, q2087, q112⟩
def y_Ma_act : MethodName := ⟨"ClassWorks$Machine", "act", "(II)V"⟩
abbrev b_Ma_act : ByteArray := prog_6_method_15_code
theorem d_Ma_act_0 : decode b_Ma_act 0 = .ok (.aload_n 0, 1) := by decide +kernel
theorem d_Ma_act_1 : decode b_Ma_act 1 = .ok (.getfield 20, 3) := by decide +kernel
theorem d_Ma_act_4 : decode b_Ma_act 4 = .ok (.iload_n 1, 1) := by decide +kernel
theorem d_Ma_act_5 : decode b_Ma_act 5 = .ok (.aaload, 1) := by decide +kernel
theorem d_Ma_act_6 : decode b_Ma_act 6 = .ok (.astore_n 3, 1) := by decide +kernel
theorem d_Ma_act_7 : decode b_Ma_act 7 = .ok (.iload_n 2, 1) := by decide +kernel
theorem d_Ma_act_8 : decode b_Ma_act 8 = .ok (.tableswitch 108 2 6 #[36, 45, 54, 80, 89], 36) := by decide +kernel
theorem d_Ma_act_44 : decode b_Ma_act 44 = .ok (.aload_n 0, 1) := by decide +kernel
theorem d_Ma_act_45 : decode b_Ma_act 45 = .ok (.aload_n 3, 1) := by decide +kernel
theorem d_Ma_act_46 : decode b_Ma_act 46 = .ok (.iload_n 1, 1) := by decide +kernel
theorem d_Ma_act_47 : decode b_Ma_act 47 = .ok (.invokevirtual 251, 3) := by decide +kernel
theorem d_Ma_act_50 : decode b_Ma_act 50 = .ok (.goto 66, 3) := by decide +kernel
theorem d_Ma_act_53 : decode b_Ma_act 53 = .ok (.aload_n 0, 1) := by decide +kernel
theorem d_Ma_act_54 : decode b_Ma_act 54 = .ok (.aload_n 3, 1) := by decide +kernel
theorem d_Ma_act_55 : decode b_Ma_act 55 = .ok (.iload_n 1, 1) := by decide +kernel
theorem d_Ma_act_56 : decode b_Ma_act 56 = .ok (.invokevirtual 254, 3) := by decide +kernel
theorem d_Ma_act_59 : decode b_Ma_act 59 = .ok (.goto 57, 3) := by decide +kernel
theorem d_Ma_act_62 : decode b_Ma_act 62 = .ok (.aload_n 0, 1) := by decide +kernel
theorem d_Ma_act_63 : decode b_Ma_act 63 = .ok (.aload_n 3, 1) := by decide +kernel
theorem d_Ma_act_64 : decode b_Ma_act 64 = .ok (.iload_n 1, 1) := by decide +kernel
theorem d_Ma_act_65 : decode b_Ma_act 65 = .ok (.invokevirtual 257, 3) := by decide +kernel
theorem d_Ma_act_68 : decode b_Ma_act 68 = .ok (.aload_n 0, 1) := by decide +kernel
theorem d_Ma_act_69 : decode b_Ma_act 69 = .ok (.aload_n 3, 1) := by decide +kernel
theorem d_Ma_act_70 : decode b_Ma_act 70 = .ok (.iload_n 1, 1) := by decide +kernel
theorem d_Ma_act_71 : decode b_Ma_act 71 = .ok (.aload_n 0, 1) := by decide +kernel
theorem d_Ma_act_72 : decode b_Ma_act 72 = .ok (.getfield 12, 3) := by decide +kernel
theorem d_Ma_act_75 : decode b_Ma_act 75 = .ok (.aload_n 0, 1) := by decide +kernel
theorem d_Ma_act_76 : decode b_Ma_act 76 = .ok (.getfield 60, 3) := by decide +kernel
theorem d_Ma_act_79 : decode b_Ma_act 79 = .ok (.invokevirtual 260, 3) := by decide +kernel
theorem d_Ma_act_82 : decode b_Ma_act 82 = .ok (.invokevirtual 263, 3) := by decide +kernel
theorem d_Ma_act_85 : decode b_Ma_act 85 = .ok (.goto 31, 3) := by decide +kernel
theorem d_Ma_act_88 : decode b_Ma_act 88 = .ok (.aload_n 0, 1) := by decide +kernel
theorem d_Ma_act_89 : decode b_Ma_act 89 = .ok (.aload_n 3, 1) := by decide +kernel
theorem d_Ma_act_90 : decode b_Ma_act 90 = .ok (.iload_n 1, 1) := by decide +kernel
theorem d_Ma_act_91 : decode b_Ma_act 91 = .ok (.invokevirtual 267, 3) := by decide +kernel
theorem d_Ma_act_94 : decode b_Ma_act 94 = .ok (.goto 22, 3) := by decide +kernel
theorem d_Ma_act_97 : decode b_Ma_act 97 = .ok (.aload_n 0, 1) := by decide +kernel
theorem d_Ma_act_98 : decode b_Ma_act 98 = .ok (.aload_n 3, 1) := by decide +kernel
theorem d_Ma_act_99 : decode b_Ma_act 99 = .ok (.aload_n 0, 1) := by decide +kernel
theorem d_Ma_act_100 : decode b_Ma_act 100 = .ok (.getfield 12, 3) := by decide +kernel
theorem d_Ma_act_103 : decode b_Ma_act 103 = .ok (.aload_n 0, 1) := by decide +kernel
theorem d_Ma_act_104 : decode b_Ma_act 104 = .ok (.getfield 60, 3) := by decide +kernel
theorem d_Ma_act_107 : decode b_Ma_act 107 = .ok (.invokevirtual 260, 3) := by decide +kernel
theorem d_Ma_act_110 : decode b_Ma_act 110 = .ok (.invokevirtual 270, 3) := by decide +kernel
theorem d_Ma_act_113 : decode b_Ma_act 113 = .ok (.goto 3, 3) := by decide +kernel
theorem d_Ma_act_116 : decode b_Ma_act 116 = .ok (.return_, 1) := by decide +kernel
abbrev ra_Ma_act (mc ms : Nat) : Room := { frames := 7, cells := mc, slots := ms, locals := 469 }
def wja_Ma_act_116 (mc ms : Nat) (Post : Ly → St → Nat → Nat → Prop) (a0 : Nat) (y_j116 : Ly) (s_j116 : St) (d_j116 e_j116 : Nat) : Prop := (d_j116 ≤ mc ∧ e_j116 ≤ ms) ∧ Post y_j116 s_j116 d_j116 e_j116
def wa_Ma_act (mc ms : Nat) (y : Ly) (Post : Ly → St → Nat → Nat → Prop) (σ : St) (a0 : Nat) (v1 : Int32) (v2 : Int32) : Prop := xQ y a0 2 v1 (fun b_1 : Nat => ((v2 = 2 → wu_Ma_beginStart y (fun (s_4 : St) => wja_Ma_act_116 mc ms Post a0 y s_4 0 0) σ a0 b_1 v1) ∧ (¬ (v2 = 2) → ((v2 = 3 → wu_Ma_runStart y (fun (s_6 : St) => wja_Ma_act_116 mc ms Post a0 y s_6 0 0) σ a0 b_1 v1) ∧ (¬ (v2 = 3) → ((v2 = 4 → wu_Ma_breakOpenStarts y (fun (s_8 : St) => ∃ mc_14 ms_15 : Nat, (0 + mc_14 ≤ mc ∧ 0 + ms_15 ≤ ms) ∧ wa_Hp_makeFault mc_14 ms_15 y (fun (y_11 : Ly) (s_10 : St) (r_9 : Int32) (d_12 e_13 : Nat) => (0 + d_12 ≤ mc ∧ 0 + e_13 ≤ ms) ∧ ∃ mc_22 ms_23 : Nat, (0 + d_12 + mc_22 ≤ mc ∧ 0 + e_13 + ms_23 ≤ ms) ∧ wa_Ma_throwAt mc_22 ms_23 y_11 (fun (y_19 : Ly) (s_18 : St) (d_20 e_21 : Nat) => (0 + d_12 + d_20 ≤ mc ∧ 0 + e_13 + e_21 ≤ ms) ∧ wja_Ma_act_116 mc ms Post a0 y_19 s_18 (0 + d_12 + d_20) (0 + e_13 + e_21)) s_10 a0 b_1 v1 r_9) s_8 (lk a0 1) (sV s_8 a0 16)) σ a0 b_1 v1) ∧ (¬ (v2 = 4) → ((v2 = 5 → wu_Ma_openRun y (fun (s_26 : St) => wja_Ma_act_116 mc ms Post a0 y s_26 0 0) σ a0 b_1 v1) ∧ (¬ (v2 = 5) → ((v2 = 6 → ∃ mc_32 ms_33 : Nat, (0 + mc_32 ≤ mc ∧ 0 + ms_33 ≤ ms) ∧ wa_Hp_makeFault mc_32 ms_33 y (fun (y_29 : Ly) (s_28 : St) (r_27 : Int32) (d_30 e_31 : Nat) => (0 + d_30 ≤ mc ∧ 0 + e_31 ≤ ms) ∧ wu_Ma_lose y_29 (fun (s_36 : St) => wja_Ma_act_116 mc ms Post a0 y_29 s_36 (0 + d_30) (0 + e_31)) s_28 a0 b_1 r_27) σ (lk a0 1) (sV σ a0 16)) ∧ (¬ (v2 = 6) → wja_Ma_act_116 mc ms Post a0 y σ 0 0)))))))))))
set_option maxHeartbeats 4000000 in
set_option maxRecDepth 100000 in
theorem ca_Ma_act (l : Launch) (D : va_G) (g : Nat → ClassId) (ad : Nat → Nat) (mc ms : Nat) (y : Ly) (Post : Ly → St → Nat → Nat → Prop) (σ : St) (a0 : Nat) (v1 : Int32) (v2 : Int32) (sz uz : Nat) (h_a0 : cl a0 = 4) (h : wa_Ma_act mc ms y Post σ a0 v1 v2) : Met l y_Ma_act (mw y_Ma_act b_Ma_act 4 (none)) (ra_Ma_act mc ms) (PCu g D [] [.ref (ad a0), .int v1, .int v2] sz uz (ws g ad y σ)) (va_Qv (fun (u : Ly × St × Nat × Nat) => Post u.1 u.2.1 u.2.2.1 u.2.2.2) (QU D (va_A (ws g ad y σ) sz) (fun u => ws g ad u.1 u.2.1) sz uz (fun u => u.2.2.1) (fun u => u.2.2.2)) (va_A (ws g ad y σ) sz)) mc ms (va_A (ws g ad y σ) sz) := by
  refine ofVu (by decide +kernel) (Nat.le_of_ble_eq_true rfl) ?_
  intro p e s m args below meth c A Q ls H locs G hsz hP hD hS hl hret
  subst hsz
  have hl : lv_has ls 4 [(0, .ref (ad a0)), (1, .int v1), (2, .int v2)] := hl
  have hd : 0 ≤ mc ∧ 0 ≤ ms := ⟨Nat.zero_le _, Nat.zero_le _⟩
  unfold wa_Ma_act at h
  refine lv_aload_n G.1 G.2.1 d_Ma_act_0 rfl (lv_at hl 0 rfl) ?_
  refine ugf (v := .ref (yP y a0 2)) G hP h_a0 iMa rfl 2 (by decide) rfl q1069 rfl rfl d_Ma_act_1 ?_
  refine lv_iload_n G.1 G.2.1 d_Ma_act_4 rfl (lv_at hl 1 rfl) ?_
  refine uqald G hP (kdp h_a0 rfl) (typ h_a0 rfl) rfl h d_Ma_act_5 (fun b_1 n_2 h => ?_)
  refine lv_astore_n (lv' := [(3, .ref (ad b_1)), (0, .ref (ad a0)), (1, .int v1), (2, .int v2)]) G.1 G.2.1 d_Ma_act_6 rfl hl (by decide) rfl (fun ls hl => ?_)
  refine lv_iload_n G.1 G.2.1 d_Ma_act_7 rfl (lv_at hl 3 rfl) ?_
  have J_116 : ∀ (y_j116 : Ly) (s_j116 : St) (d_j116 e_j116 : Nat) (H : Heap) (locs : List Loc), wja_Ma_act_116 mc ms Post a0 y_j116 s_j116 d_j116 e_j116 → va_P D CL (ws g ad y_j116 s_j116) H → va_D A (ws g ad y_j116 s_j116) → va_S A s.heap H locs → ∀ ls, lv_has ls 4 [] → W p l e (ra_Ma_act mc ms) s m args below meth c H locs d_j116 e_j116 Q (F0 m 116 ls []) := by
    intro y_j116 s_j116 d_j116 e_j116 H locs h hP hD hS ls hl
    unfold wja_Ma_act_116 at h
    obtain ⟨hd, h⟩ := h
    exact hret (y_j116, s_j116, d_j116, e_j116) _ _ _ _ _ ls h hP hD hS (Nat.le_refl _) (Nat.le_refl _) hd.1 hd.2 d_Ma_act_116
  by_cases e8_2 : v2 = 2
  · skip
    have h := h.1 e8_2
    refine lv_tableIn (off := 36) (tgt := 44) G.1 G.2.1 d_Ma_act_8 (by rw [e8_2]; decide) (by rw [e8_2]; decide) (by rw [e8_2]; rfl) (by decide) ?_
    refine lv_aload_n G.1 G.2.1 d_Ma_act_44 rfl (lv_at hl 1 rfl) ?_
    refine lv_aload_n G.1 G.2.1 d_Ma_act_45 rfl (lv_at hl 0 rfl) ?_
    refine lv_iload_n G.1 G.2.1 d_Ma_act_46 rfl (lv_at hl 2 rfl) ?_
    refine ucVv (As := [.ref (ad b_1), .int v1]) (rest := []) G hP hD hS (cu_Ma_beginStart l D g ad y _ σ a0 b_1 v1 H.size h_a0 (oa_4 h_a0 n_2) h) w9_Ma_beginStart q2073 ⟨Nat.le_of_ble_eq_true rfl, Nat.le_of_ble_eq_true rfl⟩ rfl rfl h_a0 (q := (RMa, TMa, 19)) rfl rfl hl.1 rfl (Nat.le_of_ble_eq_true rfl) rfl hd d_Ma_act_47 (fun s_4 H locs h hP hD hS => ?_)
    refine W.eq (g2 := F0 m 50 ls []) rfl ?_
    refine lv_goto (tgt := 116) G.1 G.2.1 d_Ma_act_50 (by decide) ?_
    exact J_116 y s_4 0 0 H locs h hP hD hS ls (lv_sub hl [] rfl)
  replace h := h.2 e8_2
  by_cases e8_3 : v2 = 3
  · skip
    have h := h.1 e8_3
    refine lv_tableIn (off := 45) (tgt := 53) G.1 G.2.1 d_Ma_act_8 (by rw [e8_3]; decide) (by rw [e8_3]; decide) (by rw [e8_3]; rfl) (by decide) ?_
    refine lv_aload_n G.1 G.2.1 d_Ma_act_53 rfl (lv_at hl 1 rfl) ?_
    refine lv_aload_n G.1 G.2.1 d_Ma_act_54 rfl (lv_at hl 0 rfl) ?_
    refine lv_iload_n G.1 G.2.1 d_Ma_act_55 rfl (lv_at hl 2 rfl) ?_
    refine ucVv (As := [.ref (ad b_1), .int v1]) (rest := []) G hP hD hS (cu_Ma_runStart l D g ad y _ σ a0 b_1 v1 H.size h_a0 (oa_4 h_a0 n_2) h) w9_Ma_runStart q2081 ⟨Nat.le_of_ble_eq_true rfl, Nat.le_of_ble_eq_true rfl⟩ rfl rfl h_a0 (q := (RMa, TMa, 19)) rfl rfl hl.1 rfl (Nat.le_of_ble_eq_true rfl) rfl hd d_Ma_act_56 (fun s_6 H locs h hP hD hS => ?_)
    refine W.eq (g2 := F0 m 59 ls []) rfl ?_
    refine lv_goto (tgt := 116) G.1 G.2.1 d_Ma_act_59 (by decide) ?_
    exact J_116 y s_6 0 0 H locs h hP hD hS ls (lv_sub hl [] rfl)
  replace h := h.2 e8_3
  by_cases e8_4 : v2 = 4
  · skip
    have h := h.1 e8_4
    refine lv_tableIn (off := 54) (tgt := 62) G.1 G.2.1 d_Ma_act_8 (by rw [e8_4]; decide) (by rw [e8_4]; decide) (by rw [e8_4]; rfl) (by decide) ?_
    refine lv_aload_n G.1 G.2.1 d_Ma_act_62 rfl (lv_at hl 1 rfl) ?_
    refine lv_aload_n G.1 G.2.1 d_Ma_act_63 rfl (lv_at hl 0 rfl) ?_
    refine lv_iload_n G.1 G.2.1 d_Ma_act_64 rfl (lv_at hl 2 rfl) ?_
    refine ucVv (As := [.ref (ad b_1), .int v1]) (rest := []) G hP hD hS (cu_Ma_breakOpenStarts l D g ad y _ σ a0 b_1 v1 H.size h_a0 (oa_4 h_a0 n_2) h) w9_Ma_breakOpenStarts q2057 ⟨Nat.le_of_ble_eq_true rfl, Nat.le_of_ble_eq_true rfl⟩ rfl rfl h_a0 (q := (RMa, TMa, 19)) rfl rfl hl.1 rfl (Nat.le_of_ble_eq_true rfl) rfl hd d_Ma_act_65 (fun s_8 H locs h hP hD hS => ?_)
    refine W.eq (g2 := F0 m 68 ls []) rfl ?_
    refine lv_aload_n G.1 G.2.1 d_Ma_act_68 rfl (lv_at hl 1 rfl) ?_
    refine lv_aload_n G.1 G.2.1 d_Ma_act_69 rfl (lv_at hl 0 rfl) ?_
    refine lv_iload_n G.1 G.2.1 d_Ma_act_70 rfl (lv_at hl 2 rfl) ?_
    refine lv_aload_n G.1 G.2.1 d_Ma_act_71 rfl (lv_at hl 1 rfl) ?_
    refine ugf (v := .ref (ad (lk a0 1))) G hP h_a0 iMa rfl 1 (by decide) rfl q1067 rfl rfl d_Ma_act_72 ?_
    refine lv_aload_n G.1 G.2.1 d_Ma_act_75 rfl (lv_at hl 1 rfl) ?_
    refine ugf (v := .int (sV s_8 a0 16)) G hP h_a0 iMa rfl 16 (by decide) rfl q1092 rfl rfl d_Ma_act_76 ?_
    obtain ⟨mc_14, ms_15, hr_16, h⟩ := h
    refine uaVi (As := [.int (sV s_8 a0 16)]) (rest := [.int v1, .ref (ad b_1), .ref (ad a0)]) G hP hD hS (ca_Hp_makeFault l D g ad mc_14 ms_15 y _ s_8 (lk a0 1) (sV s_8 a0 16) H.size (us H) (lk_4_1 h_a0) h) w9_Hp_makeFault q2044 ⟨Nat.le_of_ble_eq_true rfl, Nat.le_of_ble_eq_true rfl⟩ rfl rfl (lk_4_1 h_a0) (q := (RHp, THp, 15)) rfl rfl hl.1 rfl (Nat.le_of_ble_eq_true rfl) rfl hr_16 d_Ma_act_79 (fun r_9 y_11 s_10 d_12 e_13 H locs h hP hD hS => ?_)
    have hl := lv_sub (l' := []) hl [] rfl
    obtain ⟨hd, h⟩ := h
    obtain ⟨mc_22, ms_23, hr_24, h⟩ := h
    refine uaVv (As := [.ref (ad b_1), .int v1, .int r_9]) (rest := []) G hP hD hS (ca_Ma_throwAt l D g ad mc_22 ms_23 y_11 _ s_10 a0 b_1 v1 r_9 H.size (us H) h_a0 (oa_4 h_a0 n_2) h) w9_Ma_throwAt q2049 ⟨Nat.le_of_ble_eq_true rfl, Nat.le_of_ble_eq_true rfl⟩ rfl rfl h_a0 (q := (RMa, TMa, 19)) rfl rfl hl.1 rfl (Nat.le_of_ble_eq_true rfl) rfl hr_24 d_Ma_act_82 (fun y_19 s_18 d_20 e_21 H locs h hP hD hS => ?_)
    obtain ⟨hd, h⟩ := h
    refine lv_goto (tgt := 116) G.1 G.2.1 d_Ma_act_85 (by decide) ?_
    exact J_116 y_19 s_18 (0 + d_12 + d_20) (0 + e_13 + e_21) H locs h hP hD hS ls (lv_sub hl [] rfl)
  replace h := h.2 e8_4
  by_cases e8_5 : v2 = 5
  · skip
    have h := h.1 e8_5
    refine lv_tableIn (off := 80) (tgt := 88) G.1 G.2.1 d_Ma_act_8 (by rw [e8_5]; decide) (by rw [e8_5]; decide) (by rw [e8_5]; rfl) (by decide) ?_
    refine lv_aload_n G.1 G.2.1 d_Ma_act_88 rfl (lv_at hl 1 rfl) ?_
    refine lv_aload_n G.1 G.2.1 d_Ma_act_89 rfl (lv_at hl 0 rfl) ?_
    refine lv_iload_n G.1 G.2.1 d_Ma_act_90 rfl (lv_at hl 2 rfl) ?_
    refine ucVv (As := [.ref (ad b_1), .int v1]) (rest := []) G hP hD hS (cu_Ma_openRun l D g ad y _ σ a0 b_1 v1 H.size h_a0 (oa_4 h_a0 n_2) h) w9_Ma_openRun q2085 ⟨Nat.le_of_ble_eq_true rfl, Nat.le_of_ble_eq_true rfl⟩ rfl rfl h_a0 (q := (RMa, TMa, 19)) rfl rfl hl.1 rfl (Nat.le_of_ble_eq_true rfl) rfl hd d_Ma_act_91 (fun s_26 H locs h hP hD hS => ?_)
    refine W.eq (g2 := F0 m 94 ls []) rfl ?_
    refine lv_goto (tgt := 116) G.1 G.2.1 d_Ma_act_94 (by decide) ?_
    exact J_116 y s_26 0 0 H locs h hP hD hS ls (lv_sub hl [] rfl)
  replace h := h.2 e8_5
  by_cases e8_6 : v2 = 6
  · skip
    have h := h.1 e8_6
    refine lv_tableIn (off := 89) (tgt := 97) G.1 G.2.1 d_Ma_act_8 (by rw [e8_6]; decide) (by rw [e8_6]; decide) (by rw [e8_6]; rfl) (by decide) ?_
    refine lv_aload_n G.1 G.2.1 d_Ma_act_97 rfl (lv_at hl 1 rfl) ?_
    refine lv_aload_n G.1 G.2.1 d_Ma_act_98 rfl (lv_at hl 0 rfl) ?_
    refine lv_aload_n G.1 G.2.1 d_Ma_act_99 rfl (lv_at hl 1 rfl) ?_
    refine ugf (v := .ref (ad (lk a0 1))) G hP h_a0 iMa rfl 1 (by decide) rfl q1067 rfl rfl d_Ma_act_100 ?_
    refine W.eq (g2 := F0 m 103 ls [.ref (ad (lk a0 1)), .ref (ad b_1), .ref (ad a0)]) rfl ?_
    refine lv_aload_n G.1 G.2.1 d_Ma_act_103 rfl (lv_at hl 1 rfl) ?_
    refine ugf (v := .int (sV σ a0 16)) G hP h_a0 iMa rfl 16 (by decide) rfl q1092 rfl rfl d_Ma_act_104 ?_
    obtain ⟨mc_32, ms_33, hr_34, h⟩ := h
    refine uaVi (As := [.int (sV σ a0 16)]) (rest := [.ref (ad b_1), .ref (ad a0)]) G hP hD hS (ca_Hp_makeFault l D g ad mc_32 ms_33 y _ σ (lk a0 1) (sV σ a0 16) H.size (us H) (lk_4_1 h_a0) h) w9_Hp_makeFault q2044 ⟨Nat.le_of_ble_eq_true rfl, Nat.le_of_ble_eq_true rfl⟩ rfl rfl (lk_4_1 h_a0) (q := (RHp, THp, 15)) rfl rfl hl.1 rfl (Nat.le_of_ble_eq_true rfl) rfl hr_34 d_Ma_act_107 (fun r_27 y_29 s_28 d_30 e_31 H locs h hP hD hS => ?_)
    have hl := lv_sub (l' := []) hl [] rfl
    obtain ⟨hd, h⟩ := h
    refine ucVv (As := [.ref (ad b_1), .int r_27]) (rest := []) G hP hD hS (cu_Ma_lose l D g ad y_29 _ s_28 a0 b_1 r_27 H.size h_a0 (oa_4 h_a0 n_2) h) w9_Ma_lose q2061 ⟨Nat.le_of_ble_eq_true rfl, Nat.le_of_ble_eq_true rfl⟩ rfl rfl h_a0 (q := (RMa, TMa, 19)) rfl rfl hl.1 rfl (Nat.le_of_ble_eq_true rfl) rfl hd d_Ma_act_110 (fun s_36 H locs h hP hD hS => ?_)
    refine lv_goto (tgt := 116) G.1 G.2.1 d_Ma_act_113 (by decide) ?_
    exact J_116 y_29 s_36 (0 + d_30) (0 + e_31) H locs h hP hD hS ls (lv_sub hl [] rfl)
  replace h := h.2 e8_6
  have te8_2 := lv_neT (a := 2) e8_2 (by decide)
  have te8_3 := lv_neT (a := 3) e8_3 (by decide)
  have te8_4 := lv_neT (a := 4) e8_4 (by decide)
  have te8_5 := lv_neT (a := 5) e8_5 (by decide)
  have te8_6 := lv_neT (a := 6) e8_6 (by decide)
  refine lv_tableOut (tgt := 116) G.1 G.2.1 d_Ma_act_8 (by omega) (by decide) ?_
  exact J_116 y σ 0 0 H locs h hP hD hS ls (lv_sub hl [] rfl)
theorem q1788 : Cond.constant "ClassWorks$Machine" 136 (10000000) ∈ lw_ok := lw_okmem (List.mem_of_getElem? (i := 1788) (by decide +kernel)) rfl
theorem q2069 : Cond.methodLink "ClassWorks$Machine" 147 y_Ma_act ∈ lw_ok := lw_okmem (List.mem_of_getElem? (i := 2069) (by decide +kernel)) rfl
theorem q2072 : Cond.code y_Ma_act b_Ma_act 4 (none) ∈ lw_ok := lw_okmem (List.mem_of_getElem? (i := 2072) (by decide +kernel)) rfl
theorem q2071 : Cond.instanceMethod y_Ma_act ∈ lw_ok := lw_okmem (List.mem_of_getElem? (i := 2071) (by decide +kernel)) rfl
theorem q109 : Cond.selects y_Ma_act.cls y_Ma_act y_Ma_act ∈ lw_ok := lw_okmem (List.mem_of_getElem? (i := 109) (by decide +kernel)) rfl
theorem w9_Ma_act : CWv y_Ma_act b_Ma_act 4 (none) 2 ∧ Cond.instanceMethod y_Ma_act ∈ lw_ok ∧ Cond.selects y_Ma_act.cls y_Ma_act y_Ma_act ∈ lw_ok := ⟨⟨q2072, q344, by decide +kernel, by decide +kernel, by decide +kernel⟩, q2071, q109⟩
theorem q1868 : Cond.methodLink "ClassWorks$Machine" 143 y_Ma_oneStep ∈ lw_ok := lw_okmem (List.mem_of_getElem? (i := 1868) (by decide +kernel)) rfl
theorem q1871 : Cond.code y_Ma_oneStep b_Ma_oneStep 6 (none) ∈ lw_ok := lw_okmem (List.mem_of_getElem? (i := 1871) (by decide +kernel)) rfl
theorem q1870 : Cond.instanceMethod y_Ma_oneStep ∈ lw_ok := lw_okmem (List.mem_of_getElem? (i := 1870) (by decide +kernel)) rfl
theorem q88 : Cond.selects y_Ma_oneStep.cls y_Ma_oneStep y_Ma_oneStep ∈ lw_ok := lw_okmem (List.mem_of_getElem? (i := 88) (by decide +kernel)) rfl
theorem w9_Ma_oneStep : CWv y_Ma_oneStep b_Ma_oneStep 6 (none) 2 ∧ Cond.instanceMethod y_Ma_oneStep ∈ lw_ok ∧ Cond.selects y_Ma_oneStep.cls y_Ma_oneStep y_Ma_oneStep ∈ lw_ok := ⟨⟨q1871, q344, by decide +kernel, by decide +kernel, by decide +kernel⟩, q1870, q88⟩
def y_Ma_go : MethodName := ⟨"ClassWorks$Machine", "go", "(I)I"⟩
abbrev b_Ma_go : ByteArray := prog_6_method_9_code
theorem q1867 : Cond.methodLink "ClassWorks$Machine" 137 y_Fi_settle ∈ lw_ok := lw_okmem (List.mem_of_getElem? (i := 1867) (by decide +kernel)) rfl
theorem d_Ma_go_0 : decode b_Ma_go 0 = .ok (.aload_n 0, 1) := by decide +kernel
theorem d_Ma_go_1 : decode b_Ma_go 1 = .ok (.iconst 0, 1) := by decide +kernel
theorem d_Ma_go_2 : decode b_Ma_go 2 = .ok (.putfield 47, 3) := by decide +kernel
theorem d_Ma_go_5 : decode b_Ma_go 5 = .ok (.iconst 0, 1) := by decide +kernel
theorem d_Ma_go_6 : decode b_Ma_go 6 = .ok (.istore_n 2, 1) := by decide +kernel
theorem d_Ma_go_7 : decode b_Ma_go 7 = .ok (.iload_n 2, 1) := by decide +kernel
theorem d_Ma_go_8 : decode b_Ma_go 8 = .ok (.ldc 136, 2) := by decide +kernel
theorem d_Ma_go_10 : decode b_Ma_go 10 = .ok (.if_icmp .ge 272, 3) := by decide +kernel
theorem d_Ma_go_13 : decode b_Ma_go 13 = .ok (.aload_n 0, 1) := by decide +kernel
theorem d_Ma_go_14 : decode b_Ma_go 14 = .ok (.invokevirtual 112, 3) := by decide +kernel
theorem d_Ma_go_17 : decode b_Ma_go 17 = .ok (.ifCond .ne 5, 3) := by decide +kernel
theorem d_Ma_go_20 : decode b_Ma_go 20 = .ok (.iconst 0, 1) := by decide +kernel
theorem d_Ma_go_21 : decode b_Ma_go 21 = .ok (.ireturn, 1) := by decide +kernel
theorem d_Ma_go_22 : decode b_Ma_go 22 = .ok (.aload_n 0, 1) := by decide +kernel
theorem d_Ma_go_23 : decode b_Ma_go 23 = .ok (.getfield 47, 3) := by decide +kernel
theorem d_Ma_go_26 : decode b_Ma_go 26 = .ok (.iload_n 1, 1) := by decide +kernel
theorem d_Ma_go_27 : decode b_Ma_go 27 = .ok (.if_icmp .lt 5, 3) := by decide +kernel
theorem d_Ma_go_30 : decode b_Ma_go 30 = .ok (.iconst 1, 1) := by decide +kernel
theorem d_Ma_go_31 : decode b_Ma_go 31 = .ok (.ireturn, 1) := by decide +kernel
theorem d_Ma_go_32 : decode b_Ma_go 32 = .ok (.aload_n 0, 1) := by decide +kernel
theorem d_Ma_go_33 : decode b_Ma_go 33 = .ok (.getfield 56, 3) := by decide +kernel
theorem d_Ma_go_36 : decode b_Ma_go 36 = .ok (.ifCond .ne 14, 3) := by decide +kernel
theorem d_Ma_go_39 : decode b_Ma_go 39 = .ok (.aload_n 0, 1) := by decide +kernel
theorem d_Ma_go_40 : decode b_Ma_go 40 = .ok (.getfield 50, 3) := by decide +kernel
theorem d_Ma_go_43 : decode b_Ma_go 43 = .ok (.aload_n 0, 1) := by decide +kernel
theorem d_Ma_go_44 : decode b_Ma_go 44 = .ok (.getfield 53, 3) := by decide +kernel
theorem d_Ma_go_47 : decode b_Ma_go 47 = .ok (.if_icmp .lt 7, 3) := by decide +kernel
theorem d_Ma_go_50 : decode b_Ma_go 50 = .ok (.iconst 1, 1) := by decide +kernel
theorem d_Ma_go_51 : decode b_Ma_go 51 = .ok (.goto 4, 3) := by decide +kernel
theorem d_Ma_go_54 : decode b_Ma_go 54 = .ok (.iconst 0, 1) := by decide +kernel
theorem d_Ma_go_55 : decode b_Ma_go 55 = .ok (.istore_n 3, 1) := by decide +kernel
theorem d_Ma_go_56 : decode b_Ma_go 56 = .ok (.iconst 0, 1) := by decide +kernel
theorem d_Ma_go_57 : decode b_Ma_go 57 = .ok (.istore 4, 2) := by decide +kernel
theorem d_Ma_go_59 : decode b_Ma_go 59 = .ok (.aload_n 0, 1) := by decide +kernel
theorem d_Ma_go_60 : decode b_Ma_go 60 = .ok (.getfield 41, 3) := by decide +kernel
theorem d_Ma_go_63 : decode b_Ma_go 63 = .ok (.istore 5, 2) := by decide +kernel
theorem d_Ma_go_65 : decode b_Ma_go 65 = .ok (.iload_n 3, 1) := by decide +kernel
theorem d_Ma_go_66 : decode b_Ma_go 66 = .ok (.ifCond .eq 7, 3) := by decide +kernel
theorem d_Ma_go_69 : decode b_Ma_go 69 = .ok (.iconst 1, 1) := by decide +kernel
theorem d_Ma_go_70 : decode b_Ma_go 70 = .ok (.goto 4, 3) := by decide +kernel
theorem d_Ma_go_73 : decode b_Ma_go 73 = .ok (.iconst 0, 1) := by decide +kernel
theorem d_Ma_go_74 : decode b_Ma_go 74 = .ok (.istore 6, 2) := by decide +kernel
theorem d_Ma_go_76 : decode b_Ma_go 76 = .ok (.iload 6, 2) := by decide +kernel
theorem d_Ma_go_78 : decode b_Ma_go 78 = .ok (.iconst 3, 1) := by decide +kernel
theorem d_Ma_go_79 : decode b_Ma_go 79 = .ok (.if_icmp .gt 115, 3) := by decide +kernel
theorem d_Ma_go_82 : decode b_Ma_go 82 = .ok (.iload 4, 2) := by decide +kernel
theorem d_Ma_go_84 : decode b_Ma_go 84 = .ok (.ifCond .ne 110, 3) := by decide +kernel
theorem d_Ma_go_87 : decode b_Ma_go 87 = .ok (.aload_n 0, 1) := by decide +kernel
theorem d_Ma_go_88 : decode b_Ma_go 88 = .ok (.getfield 41, 3) := by decide +kernel
theorem d_Ma_go_91 : decode b_Ma_go 91 = .ok (.iload 6, 2) := by decide +kernel
theorem d_Ma_go_93 : decode b_Ma_go 93 = .ok (.iadd, 1) := by decide +kernel
theorem d_Ma_go_94 : decode b_Ma_go 94 = .ok (.iconst 3, 1) := by decide +kernel
theorem d_Ma_go_95 : decode b_Ma_go 95 = .ok (.irem, 1) := by decide +kernel
theorem d_Ma_go_96 : decode b_Ma_go 96 = .ok (.istore 5, 2) := by decide +kernel
theorem d_Ma_go_98 : decode b_Ma_go 98 = .ok (.aload_n 0, 1) := by decide +kernel
theorem d_Ma_go_99 : decode b_Ma_go 99 = .ok (.getfield 20, 3) := by decide +kernel
theorem d_Ma_go_102 : decode b_Ma_go 102 = .ok (.iload 5, 2) := by decide +kernel
theorem d_Ma_go_104 : decode b_Ma_go 104 = .ok (.aaload, 1) := by decide +kernel
theorem d_Ma_go_105 : decode b_Ma_go 105 = .ok (.invokevirtual 108, 3) := by decide +kernel
theorem d_Ma_go_108 : decode b_Ma_go 108 = .ok (.ifCond .eq 12, 3) := by decide +kernel
theorem d_Ma_go_111 : decode b_Ma_go 111 = .ok (.aload_n 0, 1) := by decide +kernel
theorem d_Ma_go_112 : decode b_Ma_go 112 = .ok (.iload 5, 2) := by decide +kernel
theorem d_Ma_go_114 : decode b_Ma_go 114 = .ok (.invokevirtual 132, 3) := by decide +kernel
theorem d_Ma_go_117 : decode b_Ma_go 117 = .ok (.goto 4, 3) := by decide +kernel
theorem d_Ma_go_120 : decode b_Ma_go 120 = .ok (.iconst 0, 1) := by decide +kernel
theorem d_Ma_go_121 : decode b_Ma_go 121 = .ok (.istore 4, 2) := by decide +kernel
theorem d_Ma_go_123 : decode b_Ma_go 123 = .ok (.iload 4, 2) := by decide +kernel
theorem d_Ma_go_125 : decode b_Ma_go 125 = .ok (.iconst 1, 1) := by decide +kernel
theorem d_Ma_go_126 : decode b_Ma_go 126 = .ok (.if_icmp .ne 27, 3) := by decide +kernel
theorem d_Ma_go_129 : decode b_Ma_go 129 = .ok (.aload_n 0, 1) := by decide +kernel
theorem d_Ma_go_130 : decode b_Ma_go 130 = .ok (.getfield 73, 3) := by decide +kernel
theorem d_Ma_go_133 : decode b_Ma_go 133 = .ok (.aload_n 0, 1) := by decide +kernel
theorem d_Ma_go_134 : decode b_Ma_go 134 = .ok (.getfield 69, 3) := by decide +kernel
theorem d_Ma_go_137 : decode b_Ma_go 137 = .ok (.aload_n 0, 1) := by decide +kernel
theorem d_Ma_go_138 : decode b_Ma_go 138 = .ok (.getfield 63, 3) := by decide +kernel
theorem d_Ma_go_141 : decode b_Ma_go 141 = .ok (.invokevirtual 137, 3) := by decide +kernel
theorem d_Ma_go_144 : decode b_Ma_go 144 = .ok (.pop, 1) := by decide +kernel
theorem d_Ma_go_145 : decode b_Ma_go 145 = .ok (.aload_n 0, 1) := by decide +kernel
theorem d_Ma_go_146 : decode b_Ma_go 146 = .ok (.iload 5, 2) := by decide +kernel
theorem d_Ma_go_148 : decode b_Ma_go 148 = .ok (.invokevirtual 132, 3) := by decide +kernel
theorem d_Ma_go_151 : decode b_Ma_go 151 = .ok (.istore 4, 2) := by decide +kernel
theorem d_Ma_go_153 : decode b_Ma_go 153 = .ok (.aload_n 0, 1) := by decide +kernel
theorem d_Ma_go_154 : decode b_Ma_go 154 = .ok (.getfield 20, 3) := by decide +kernel
theorem d_Ma_go_157 : decode b_Ma_go 157 = .ok (.iload 5, 2) := by decide +kernel
theorem d_Ma_go_159 : decode b_Ma_go 159 = .ok (.aaload, 1) := by decide +kernel
theorem d_Ma_go_160 : decode b_Ma_go 160 = .ok (.iload 4, 2) := by decide +kernel
theorem d_Ma_go_162 : decode b_Ma_go 162 = .ok (.ifCond .ne 7, 3) := by decide +kernel
theorem d_Ma_go_165 : decode b_Ma_go 165 = .ok (.iconst 1, 1) := by decide +kernel
theorem d_Ma_go_166 : decode b_Ma_go 166 = .ok (.goto 4, 3) := by decide +kernel
theorem d_Ma_go_169 : decode b_Ma_go 169 = .ok (.iconst 0, 1) := by decide +kernel
theorem d_Ma_go_170 : decode b_Ma_go 170 = .ok (.putfield 129, 3) := by decide +kernel
theorem d_Ma_go_173 : decode b_Ma_go 173 = .ok (.iload_n 3, 1) := by decide +kernel
theorem d_Ma_go_174 : decode b_Ma_go 174 = .ok (.ifCond .ne 8, 3) := by decide +kernel
theorem d_Ma_go_177 : decode b_Ma_go 177 = .ok (.iload 6, 2) := by decide +kernel
theorem d_Ma_go_179 : decode b_Ma_go 179 = .ok (.ifCond .le 7, 3) := by decide +kernel
theorem d_Ma_go_182 : decode b_Ma_go 182 = .ok (.iconst 1, 1) := by decide +kernel
theorem d_Ma_go_183 : decode b_Ma_go 183 = .ok (.goto 4, 3) := by decide +kernel
theorem d_Ma_go_186 : decode b_Ma_go 186 = .ok (.iconst 0, 1) := by decide +kernel
theorem d_Ma_go_187 : decode b_Ma_go 187 = .ok (.istore_n 3, 1) := by decide +kernel
theorem d_Ma_go_188 : decode b_Ma_go 188 = .ok (.iinc 6 1, 3) := by decide +kernel
theorem d_Ma_go_191 : decode b_Ma_go 191 = .ok (.goto (-115), 3) := by decide +kernel
theorem d_Ma_go_194 : decode b_Ma_go 194 = .ok (.iload 4, 2) := by decide +kernel
theorem d_Ma_go_196 : decode b_Ma_go 196 = .ok (.ifCond .ne 10, 3) := by decide +kernel
theorem d_Ma_go_199 : decode b_Ma_go 199 = .ok (.aload_n 0, 1) := by decide +kernel
theorem d_Ma_go_200 : decode b_Ma_go 200 = .ok (.iconst 1, 1) := by decide +kernel
theorem d_Ma_go_201 : decode b_Ma_go 201 = .ok (.putfield 56, 3) := by decide +kernel
theorem d_Ma_go_204 : decode b_Ma_go 204 = .ok (.iconst 3, 1) := by decide +kernel
theorem d_Ma_go_205 : decode b_Ma_go 205 = .ok (.ireturn, 1) := by decide +kernel
theorem d_Ma_go_206 : decode b_Ma_go 206 = .ok (.iload_n 3, 1) := by decide +kernel
theorem d_Ma_go_207 : decode b_Ma_go 207 = .ok (.ifCond .eq 9, 3) := by decide +kernel
theorem d_Ma_go_210 : decode b_Ma_go 210 = .ok (.aload_n 0, 1) := by decide +kernel
theorem d_Ma_go_211 : decode b_Ma_go 211 = .ok (.iload 5, 2) := by decide +kernel
theorem d_Ma_go_213 : decode b_Ma_go 213 = .ok (.invokevirtual 102, 3) := by decide +kernel
theorem d_Ma_go_216 : decode b_Ma_go 216 = .ok (.iload 4, 2) := by decide +kernel
theorem d_Ma_go_218 : decode b_Ma_go 218 = .ok (.bipush 7, 2) := by decide +kernel
theorem d_Ma_go_220 : decode b_Ma_go 220 = .ok (.if_icmp .ne 19, 3) := by decide +kernel
theorem d_Ma_go_223 : decode b_Ma_go 223 = .ok (.aload_n 0, 1) := by decide +kernel
theorem d_Ma_go_224 : decode b_Ma_go 224 = .ok (.aload_n 0, 1) := by decide +kernel
theorem d_Ma_go_225 : decode b_Ma_go 225 = .ok (.getfield 20, 3) := by decide +kernel
theorem d_Ma_go_228 : decode b_Ma_go 228 = .ok (.iload 5, 2) := by decide +kernel
theorem d_Ma_go_230 : decode b_Ma_go 230 = .ok (.aaload, 1) := by decide +kernel
theorem d_Ma_go_231 : decode b_Ma_go 231 = .ok (.iload 5, 2) := by decide +kernel
theorem d_Ma_go_233 : decode b_Ma_go 233 = .ok (.invokevirtual 143, 3) := by decide +kernel
theorem d_Ma_go_236 : decode b_Ma_go 236 = .ok (.goto 11, 3) := by decide +kernel
theorem d_Ma_go_239 : decode b_Ma_go 239 = .ok (.aload_n 0, 1) := by decide +kernel
theorem d_Ma_go_240 : decode b_Ma_go 240 = .ok (.iload 5, 2) := by decide +kernel
theorem d_Ma_go_242 : decode b_Ma_go 242 = .ok (.iload 4, 2) := by decide +kernel
theorem d_Ma_go_244 : decode b_Ma_go 244 = .ok (.invokevirtual 147, 3) := by decide +kernel
theorem d_Ma_go_247 : decode b_Ma_go 247 = .ok (.aload_n 0, 1) := by decide +kernel
theorem d_Ma_go_248 : decode b_Ma_go 248 = .ok (.aload_n 0, 1) := by decide +kernel
theorem d_Ma_go_249 : decode b_Ma_go 249 = .ok (.getfield 56, 3) := by decide +kernel
theorem d_Ma_go_252 : decode b_Ma_go 252 = .ok (.ifCond .ne 16, 3) := by decide +kernel
theorem d_Ma_go_255 : decode b_Ma_go 255 = .ok (.aload_n 0, 1) := by decide +kernel
theorem d_Ma_go_256 : decode b_Ma_go 256 = .ok (.getfield 20, 3) := by decide +kernel
theorem d_Ma_go_259 : decode b_Ma_go 259 = .ok (.iload 5, 2) := by decide +kernel
theorem d_Ma_go_261 : decode b_Ma_go 261 = .ok (.aaload, 1) := by decide +kernel
theorem d_Ma_go_262 : decode b_Ma_go 262 = .ok (.invokevirtual 108, 3) := by decide +kernel
theorem d_Ma_go_265 : decode b_Ma_go 265 = .ok (.ifCond .ne 7, 3) := by decide +kernel
theorem d_Ma_go_268 : decode b_Ma_go 268 = .ok (.iconst 1, 1) := by decide +kernel
theorem d_Ma_go_269 : decode b_Ma_go 269 = .ok (.goto 4, 3) := by decide +kernel
theorem d_Ma_go_272 : decode b_Ma_go 272 = .ok (.iconst 0, 1) := by decide +kernel
theorem d_Ma_go_273 : decode b_Ma_go 273 = .ok (.putfield 56, 3) := by decide +kernel
theorem d_Ma_go_276 : decode b_Ma_go 276 = .ok (.iinc 2 1, 3) := by decide +kernel
theorem d_Ma_go_279 : decode b_Ma_go 279 = .ok (.goto (-272), 3) := by decide +kernel
theorem d_Ma_go_282 : decode b_Ma_go 282 = .ok (.iconst 1, 1) := by decide +kernel
theorem d_Ma_go_283 : decode b_Ma_go 283 = .ok (.ireturn, 1) := by decide +kernel
abbrev ra_Ma_go (mc ms : Nat) : Room := { frames := 8, cells := mc, slots := ms, locals := 500 }
def wja_Ma_go_273 (mc ms : Nat) (Post : Ly → St → Int32 → Nat → Nat → Prop) (K_7 : Ly → St → Nat → Nat → Int32 → Int32 → Prop) (a0 : Nat) (y_j273 : Ly) (s_j273 : St) (d_j273 e_j273 : Nat) (x1j273 : Int32) (x2j273 : Int32) (z1j273 : Int32) : Prop := (d_j273 ≤ mc ∧ e_j273 ≤ ms) ∧ nb z1j273 ∧ xP (uV s_j273 a0 13 z1j273) (fun s_5 : St => K_7 y_j273 s_5 d_j273 e_j273 x1j273 (x2j273 + 1))
def wja_Ma_go_268 (mc ms : Nat) (Post : Ly → St → Int32 → Nat → Nat → Prop) (K_7 : Ly → St → Nat → Nat → Int32 → Int32 → Prop) (a0 : Nat) (y_j268 : Ly) (s_j268 : St) (d_j268 e_j268 : Nat) (x1j268 : Int32) (x2j268 : Int32) : Prop := (d_j268 ≤ mc ∧ e_j268 ≤ ms) ∧ wja_Ma_go_273 mc ms Post K_7 a0 y_j268 s_j268 d_j268 e_j268 x1j268 x2j268 1
def wja_Ma_go_247 (mc ms : Nat) (Post : Ly → St → Int32 → Nat → Nat → Prop) (K_7 : Ly → St → Nat → Nat → Int32 → Int32 → Prop) (a0 : Nat) (y_j247 : Ly) (s_j247 : St) (d_j247 e_j247 : Nat) (x1j247 : Int32) (x2j247 : Int32) (x5j247 : Int32) : Prop := (d_j247 ≤ mc ∧ e_j247 ≤ ms) ∧ ((¬ (sV s_j247 a0 13) = 0 → wja_Ma_go_268 mc ms Post K_7 a0 y_j247 s_j247 d_j247 e_j247 x1j247 x2j247) ∧ ((sV s_j247 a0 13) = 0 → xQ y_j247 a0 2 x5j247 (fun b_6 : Nat => wu_Ru_on y_j247 (fun (s_9 : St) (r_8 : Int32) => ((¬ r_8 = 0 → wja_Ma_go_273 mc ms Post K_7 a0 y_j247 s_9 d_j247 e_j247 x1j247 x2j247 0) ∧ (r_8 = 0 → wja_Ma_go_268 mc ms Post K_7 a0 y_j247 s_9 d_j247 e_j247 x1j247 x2j247))) s_j247 b_6)))
def wja_Ma_go_216 (mc ms : Nat) (Post : Ly → St → Int32 → Nat → Nat → Prop) (K_7 : Ly → St → Nat → Nat → Int32 → Int32 → Prop) (a0 : Nat) (y_j216 : Ly) (s_j216 : St) (d_j216 e_j216 : Nat) (x1j216 : Int32) (x2j216 : Int32) (x4j216 : Int32) (x5j216 : Int32) : Prop := (d_j216 ≤ mc ∧ e_j216 ≤ ms) ∧ ((¬ x4j216 = 7 → ∃ mc_15 ms_16 : Nat, (d_j216 + mc_15 ≤ mc ∧ e_j216 + ms_16 ≤ ms) ∧ wa_Ma_act mc_15 ms_16 y_j216 (fun (y_12 : Ly) (s_11 : St) (d_13 e_14 : Nat) => (d_j216 + d_13 ≤ mc ∧ e_j216 + e_14 ≤ ms) ∧ wja_Ma_go_247 mc ms Post K_7 a0 y_12 s_11 (d_j216 + d_13) (e_j216 + e_14) x1j216 x2j216 x5j216) s_j216 a0 x5j216 x4j216) ∧ (x4j216 = 7 → xQ y_j216 a0 2 x5j216 (fun b_18 : Nat => ∃ mc_25 ms_26 : Nat, (d_j216 + mc_25 ≤ mc ∧ e_j216 + ms_26 ≤ ms) ∧ wa_Ma_oneStep mc_25 ms_26 y_j216 (fun (y_22 : Ly) (s_21 : St) (d_23 e_24 : Nat) => (d_j216 + d_23 ≤ mc ∧ e_j216 + e_24 ≤ ms) ∧ wja_Ma_go_247 mc ms Post K_7 a0 y_22 s_21 (d_j216 + d_23) (e_j216 + e_24) x1j216 x2j216 x5j216) s_j216 a0 b_18 x5j216)))
def wja_Ma_go_194 (mc ms : Nat) (Post : Ly → St → Int32 → Nat → Nat → Prop) (K_7 : Ly → St → Nat → Nat → Int32 → Int32 → Prop) (a0 : Nat) (y_j194 : Ly) (s_j194 : St) (d_j194 e_j194 : Nat) (x1j194 : Int32) (x2j194 : Int32) (x3j194 : Int32) (x4j194 : Int32) (x5j194 : Int32) : Prop := (d_j194 ≤ mc ∧ e_j194 ≤ ms) ∧ ((¬ x4j194 = 0 → ((x3j194 = 0 → wja_Ma_go_216 mc ms Post K_7 a0 y_j194 s_j194 d_j194 e_j194 x1j194 x2j194 x4j194 x5j194) ∧ (¬ (x3j194 = 0) → wu_Ma_newTurn y_j194 (fun (s_29 : St) => wja_Ma_go_216 mc ms Post K_7 a0 y_j194 s_29 d_j194 e_j194 x1j194 x2j194 x4j194 x5j194) s_j194 a0 x5j194))) ∧ (x4j194 = 0 → nb 1 ∧ xP (uV s_j194 a0 13 1) (fun s_31 : St => Post y_j194 s_31 3 d_j194 e_j194)))
def wja_Ma_go_187 (mc ms : Nat) (Post : Ly → St → Int32 → Nat → Nat → Prop) (K_7 : Ly → St → Nat → Nat → Int32 → Int32 → Prop) (K_76 : Ly → St → Nat → Nat → Int32 → Int32 → Int32 → Int32 → Int32 → Int32 → Prop) (a0 : Nat) (y_j187 : Ly) (s_j187 : St) (d_j187 e_j187 : Nat) (x1j187 : Int32) (x2j187 : Int32) (x4j187 : Int32) (x5j187 : Int32) (x6j187 : Int32) (z0j187 : Int32) : Prop := (d_j187 ≤ mc ∧ e_j187 ≤ ms) ∧ K_76 y_j187 s_j187 d_j187 e_j187 x1j187 x2j187 z0j187 x4j187 x5j187 (x6j187 + 1)
def wja_Ma_go_182 (mc ms : Nat) (Post : Ly → St → Int32 → Nat → Nat → Prop) (K_7 : Ly → St → Nat → Nat → Int32 → Int32 → Prop) (K_76 : Ly → St → Nat → Nat → Int32 → Int32 → Int32 → Int32 → Int32 → Int32 → Prop) (a0 : Nat) (y_j182 : Ly) (s_j182 : St) (d_j182 e_j182 : Nat) (x1j182 : Int32) (x2j182 : Int32) (x4j182 : Int32) (x5j182 : Int32) (x6j182 : Int32) : Prop := (d_j182 ≤ mc ∧ e_j182 ≤ ms) ∧ wja_Ma_go_187 mc ms Post K_7 K_76 a0 y_j182 s_j182 d_j182 e_j182 x1j182 x2j182 x4j182 x5j182 x6j182 1
def wja_Ma_go_170 (mc ms : Nat) (Post : Ly → St → Int32 → Nat → Nat → Prop) (K_7 : Ly → St → Nat → Nat → Int32 → Int32 → Prop) (K_76 : Ly → St → Nat → Nat → Int32 → Int32 → Int32 → Int32 → Int32 → Int32 → Prop) (a0 : Nat) (y_j170 : Ly) (s_j170 : St) (d_j170 e_j170 : Nat) (x1j170 : Int32) (x2j170 : Int32) (x3j170 : Int32) (x4j170 : Int32) (x5j170 : Int32) (x6j170 : Int32) (z0j170 : Nat) (z1j170 : Int32) : Prop := (d_j170 ≤ mc ∧ e_j170 ≤ ms) ∧ cl z0j170 = 7 ∧ nb z1j170 ∧ xP (uV s_j170 z0j170 5 z1j170) (fun s_39 : St => ((¬ x3j170 = 0 → wja_Ma_go_182 mc ms Post K_7 K_76 a0 y_j170 s_39 d_j170 e_j170 x1j170 x2j170 x4j170 x5j170 x6j170) ∧ (x3j170 = 0 → ((x6j170 ≤ 0 → wja_Ma_go_187 mc ms Post K_7 K_76 a0 y_j170 s_39 d_j170 e_j170 x1j170 x2j170 x4j170 x5j170 x6j170 0) ∧ (¬ (x6j170 ≤ 0) → wja_Ma_go_182 mc ms Post K_7 K_76 a0 y_j170 s_39 d_j170 e_j170 x1j170 x2j170 x4j170 x5j170 x6j170)))))
def wja_Ma_go_153 (mc ms : Nat) (Post : Ly → St → Int32 → Nat → Nat → Prop) (K_7 : Ly → St → Nat → Nat → Int32 → Int32 → Prop) (K_76 : Ly → St → Nat → Nat → Int32 → Int32 → Int32 → Int32 → Int32 → Int32 → Prop) (a0 : Nat) (y_j153 : Ly) (s_j153 : St) (d_j153 e_j153 : Nat) (x1j153 : Int32) (x2j153 : Int32) (x3j153 : Int32) (x4j153 : Int32) (x5j153 : Int32) (x6j153 : Int32) : Prop := (d_j153 ≤ mc ∧ e_j153 ≤ ms) ∧ xQ y_j153 a0 2 x5j153 (fun b_36 : Nat => ((¬ x4j153 = 0 → wja_Ma_go_170 mc ms Post K_7 K_76 a0 y_j153 s_j153 d_j153 e_j153 x1j153 x2j153 x3j153 x4j153 x5j153 x6j153 b_36 0) ∧ (x4j153 = 0 → wja_Ma_go_170 mc ms Post K_7 K_76 a0 y_j153 s_j153 d_j153 e_j153 x1j153 x2j153 x3j153 x4j153 x5j153 x6j153 b_36 1)))
def wja_Ma_go_121 (mc ms : Nat) (Post : Ly → St → Int32 → Nat → Nat → Prop) (K_7 : Ly → St → Nat → Nat → Int32 → Int32 → Prop) (K_76 : Ly → St → Nat → Nat → Int32 → Int32 → Int32 → Int32 → Int32 → Int32 → Prop) (a0 : Nat) (y_j121 : Ly) (s_j121 : St) (d_j121 e_j121 : Nat) (x1j121 : Int32) (x2j121 : Int32) (x3j121 : Int32) (x5j121 : Int32) (x6j121 : Int32) (z0j121 : Int32) : Prop := (d_j121 ≤ mc ∧ e_j121 ≤ ms) ∧ ((¬ z0j121 = 1 → wja_Ma_go_153 mc ms Post K_7 K_76 a0 y_j121 s_j121 d_j121 e_j121 x1j121 x2j121 x3j121 z0j121 x5j121 x6j121) ∧ (z0j121 = 1 → ∃ mc_45 ms_46 : Nat, (d_j121 + mc_45 ≤ mc ∧ e_j121 + ms_46 ≤ ms) ∧ wa_Fi_settle mc_45 ms_46 y_j121 (fun (y_42 : Ly) (s_41 : St) (r_40 : Int32) (d_43 e_44 : Nat) => (d_j121 + d_43 ≤ mc ∧ e_j121 + e_44 ≤ ms) ∧ wu_Ma_plan y_42 (fun (s_49 : St) (r_48 : Int32) => wja_Ma_go_153 mc ms Post K_7 K_76 a0 y_42 s_49 (d_j121 + d_43) (e_j121 + e_44) x1j121 x2j121 x3j121 r_48 x5j121 x6j121) s_41 a0 x5j121) s_j121 (lk a0 14) (lk a0 0) (sV s_j121 a0 17)))
def wba_Ma_go_76 (mc ms : Nat) (Post : Ly → St → Int32 → Nat → Nat → Prop) (K_7 : Ly → St → Nat → Nat → Int32 → Int32 → Prop) (K_76 : Ly → St → Nat → Nat → Int32 → Int32 → Int32 → Int32 → Int32 → Int32 → Prop) (a0 : Nat) (y_h76 : Ly) (s_h76 : St) (d_h76 e_h76 : Nat) (x1h76 : Int32) (x2h76 : Int32) (x3h76 : Int32) (x4h76 : Int32) (x5h76 : Int32) (x6h76 : Int32) : Prop := (d_h76 ≤ mc ∧ e_h76 ≤ ms) ∧ ((3 < x6h76 → wja_Ma_go_194 mc ms Post K_7 a0 y_h76 s_h76 d_h76 e_h76 x1h76 x2h76 x3h76 x4h76 x5h76) ∧ (¬ (3 < x6h76) → ((¬ x4h76 = 0 → wja_Ma_go_194 mc ms Post K_7 a0 y_h76 s_h76 d_h76 e_h76 x1h76 x2h76 x3h76 x4h76 x5h76) ∧ (x4h76 = 0 → xQ y_h76 a0 2 (((sV s_h76 a0 8) + x6h76) - ((sV s_h76 a0 8) + x6h76) / 3 * 3) (fun b_32 : Nat => wu_Ru_on y_h76 (fun (s_35 : St) (r_34 : Int32) => ((r_34 = 0 → wja_Ma_go_121 mc ms Post K_7 K_76 a0 y_h76 s_35 d_h76 e_h76 x1h76 x2h76 x3h76 (((sV s_h76 a0 8) + x6h76) - ((sV s_h76 a0 8) + x6h76) / 3 * 3) x6h76 0) ∧ (¬ (r_34 = 0) → wu_Ma_plan y_h76 (fun (s_51 : St) (r_50 : Int32) => wja_Ma_go_121 mc ms Post K_7 K_76 a0 y_h76 s_51 d_h76 e_h76 x1h76 x2h76 x3h76 (((sV s_h76 a0 8) + x6h76) - ((sV s_h76 a0 8) + x6h76) / 3 * 3) x6h76 r_50) s_35 a0 (((sV s_h76 a0 8) + x6h76) - ((sV s_h76 a0 8) + x6h76) / 3 * 3)))) s_h76 b_32)))))
def wla_Ma_go_76 (mc ms : Nat) (Post : Ly → St → Int32 → Nat → Nat → Prop) (K_7 : Ly → St → Nat → Nat → Int32 → Int32 → Prop) (a0 : Nat) (y_h76 : Ly) (s_h76 : St) (d_h76 e_h76 : Nat) (x1h76 : Int32) (x2h76 : Int32) (x3h76 : Int32) (x4h76 : Int32) (x5h76 : Int32) (x6h76 : Int32) : Prop := ∃ (I : Ly → St → Nat → Nat → Int32 → Int32 → Int32 → Int32 → Int32 → Int32 → Prop) (μ : Ly → St → Nat → Nat → Int32 → Int32 → Int32 → Int32 → Int32 → Int32 → Nat), I y_h76 s_h76 d_h76 e_h76 x1h76 x2h76 x3h76 x4h76 x5h76 x6h76 ∧ ∀ (u1 : Ly) (u2 : St) (u3 u4 : Nat) (t0 : Int32) (t1 : Int32) (t2 : Int32) (t3 : Int32) (t4 : Int32) (t5 : Int32), I u1 u2 u3 u4 t0 t1 t2 t3 t4 t5 → wba_Ma_go_76 mc ms Post K_7 (fun z1 z2 z3 z4 t0q t1q t2q t3q t4q t5q => I z1 z2 z3 z4 t0q t1q t2q t3q t4q t5q ∧ μ z1 z2 z3 z4 t0q t1q t2q t3q t4q t5q < μ u1 u2 u3 u4 t0 t1 t2 t3 t4 t5) a0 u1 u2 u3 u4 t0 t1 t2 t3 t4 t5
def wja_Ma_go_74 (mc ms : Nat) (Post : Ly → St → Int32 → Nat → Nat → Prop) (K_7 : Ly → St → Nat → Nat → Int32 → Int32 → Prop) (a0 : Nat) (y_j74 : Ly) (s_j74 : St) (d_j74 e_j74 : Nat) (x1j74 : Int32) (x2j74 : Int32) (x3j74 : Int32) (x4j74 : Int32) (x5j74 : Int32) (z0j74 : Int32) : Prop := (d_j74 ≤ mc ∧ e_j74 ≤ ms) ∧ wla_Ma_go_76 mc ms Post K_7 a0 y_j74 s_j74 d_j74 e_j74 x1j74 x2j74 x3j74 x4j74 x5j74 z0j74
def wja_Ma_go_55 (mc ms : Nat) (Post : Ly → St → Int32 → Nat → Nat → Prop) (K_7 : Ly → St → Nat → Nat → Int32 → Int32 → Prop) (a0 : Nat) (y_j55 : Ly) (s_j55 : St) (d_j55 e_j55 : Nat) (x1j55 : Int32) (x2j55 : Int32) (z0j55 : Int32) : Prop := (d_j55 ≤ mc ∧ e_j55 ≤ ms) ∧ ((z0j55 = 0 → wja_Ma_go_74 mc ms Post K_7 a0 y_j55 s_j55 d_j55 e_j55 x1j55 x2j55 z0j55 0 (sV s_j55 a0 8) 0) ∧ (¬ (z0j55 = 0) → wja_Ma_go_74 mc ms Post K_7 a0 y_j55 s_j55 d_j55 e_j55 x1j55 x2j55 z0j55 0 (sV s_j55 a0 8) 1))
def wja_Ma_go_50 (mc ms : Nat) (Post : Ly → St → Int32 → Nat → Nat → Prop) (K_7 : Ly → St → Nat → Nat → Int32 → Int32 → Prop) (a0 : Nat) (y_j50 : Ly) (s_j50 : St) (d_j50 e_j50 : Nat) (x1j50 : Int32) (x2j50 : Int32) : Prop := (d_j50 ≤ mc ∧ e_j50 ≤ ms) ∧ wja_Ma_go_55 mc ms Post K_7 a0 y_j50 s_j50 d_j50 e_j50 x1j50 x2j50 1
def wba_Ma_go_7 (mc ms : Nat) (Post : Ly → St → Int32 → Nat → Nat → Prop) (K_7 : Ly → St → Nat → Nat → Int32 → Int32 → Prop) (a0 : Nat) (y_h7 : Ly) (s_h7 : St) (d_h7 e_h7 : Nat) (x1h7 : Int32) (x2h7 : Int32) : Prop := (d_h7 ≤ mc ∧ e_h7 ≤ ms) ∧ ((10000000 ≤ x2h7 → Post y_h7 s_h7 1 d_h7 e_h7) ∧ (¬ (10000000 ≤ x2h7) → wu_Ma_howManyOn y_h7 (fun (s_3 : St) (r_2 : Int32) => ((¬ r_2 = 0 → (((sV s_3 a0 10) < x1h7 → ((¬ (sV s_3 a0 13) = 0 → wja_Ma_go_50 mc ms Post K_7 a0 y_h7 s_3 d_h7 e_h7 x1h7 x2h7) ∧ ((sV s_3 a0 13) = 0 → (((sV s_3 a0 11) < (sV s_3 a0 12) → wja_Ma_go_55 mc ms Post K_7 a0 y_h7 s_3 d_h7 e_h7 x1h7 x2h7 0) ∧ (¬ ((sV s_3 a0 11) < (sV s_3 a0 12)) → wja_Ma_go_50 mc ms Post K_7 a0 y_h7 s_3 d_h7 e_h7 x1h7 x2h7))))) ∧ (¬ ((sV s_3 a0 10) < x1h7) → Post y_h7 s_3 1 d_h7 e_h7))) ∧ (r_2 = 0 → Post y_h7 s_3 0 d_h7 e_h7))) s_h7 a0))
def wla_Ma_go_7 (mc ms : Nat) (Post : Ly → St → Int32 → Nat → Nat → Prop) (a0 : Nat) (y_h7 : Ly) (s_h7 : St) (d_h7 e_h7 : Nat) (x1h7 : Int32) (x2h7 : Int32) : Prop := ∃ (I : Ly → St → Nat → Nat → Int32 → Int32 → Prop) (μ : Ly → St → Nat → Nat → Int32 → Int32 → Nat), I y_h7 s_h7 d_h7 e_h7 x1h7 x2h7 ∧ ∀ (u1 : Ly) (u2 : St) (u3 u4 : Nat) (t0 : Int32) (t1 : Int32), I u1 u2 u3 u4 t0 t1 → wba_Ma_go_7 mc ms Post (fun z1 z2 z3 z4 t0q t1q => I z1 z2 z3 z4 t0q t1q ∧ μ z1 z2 z3 z4 t0q t1q < μ u1 u2 u3 u4 t0 t1) a0 u1 u2 u3 u4 t0 t1
def wa_Ma_go (mc ms : Nat) (y : Ly) (Post : Ly → St → Int32 → Nat → Nat → Prop) (σ : St) (a0 : Nat) (v1 : Int32) : Prop := xP (uV σ a0 10 0) (fun s_1 : St => wla_Ma_go_7 mc ms Post a0 y s_1 0 0 v1 0)
set_option maxHeartbeats 4000000 in
set_option maxRecDepth 100000 in
theorem ca_Ma_go (l : Launch) (D : va_G) (g : Nat → ClassId) (F : Nat → SL) (sl : List SL) (hF : SOK F sl) (ad : Nat → Nat) (mc ms : Nat) (y : Ly) (Post : Ly → St → Int32 → Nat → Nat → Prop) (σ : St) (a0 : Nat) (v1 : Int32) (sz uz : Nat) (h_a0 : cl a0 = 4) (h : wa_Ma_go mc ms y Post σ a0 v1) : Met l y_Ma_go (mw y_Ma_go b_Ma_go 7 (some .int)) (ra_Ma_go mc ms) (PCu g D sl [.ref (ad a0), .int v1] sz uz (ws g ad y σ)) (va_Qi (fun (r : Int32) (u : Ly × St × Nat × Nat) => Post u.1 u.2.1 r u.2.2.1 u.2.2.2) (QU D (va_A (ws g ad y σ) sz) (fun u => ws g ad u.1 u.2.1) sz uz (fun u => u.2.2.1) (fun u => u.2.2.2)) (va_A (ws g ad y σ) sz)) mc ms (va_A (ws g ad y σ) sz) := by
  refine ofIu (by decide +kernel) (Nat.le_of_ble_eq_true rfl) ?_
  intro p e s m args below meth c A Q ls H locs G hsz hP hD hS hl hret
  subst hsz
  have hl : lv_has ls 7 [(0, .ref (ad a0)), (1, .int v1)] := hl
  have hd : 0 ≤ mc ∧ 0 ≤ ms := ⟨Nat.zero_le _, Nat.zero_le _⟩
  unfold wa_Ma_go at h
  refine lv_aload_n G.1 G.2.1 d_Ma_go_0 rfl (lv_at hl 0 rfl) ?_
  refine lv_iconst (v := 0) G.1 G.2.1 d_Ma_go_1 (by decide) ?_
  refine upf G hP hD hS h 10 putV h_a0 iMa tMa tMa_ok nMa rfl (by decide) rfl q1085 rfl rfl fV rfl rfl d_Ma_go_2 (fun s_1 H locs h hP hD hS => ?_)
  refine lv_iconst (v := 0) G.1 G.2.1 d_Ma_go_5 (by decide) ?_
  refine lv_istore_n (lv' := [(2, .int 0), (0, .ref (ad a0)), (1, .int v1)]) G.1 G.2.1 d_Ma_go_6 rfl hl (by decide) rfl (fun ls hl => ?_)
  unfold wla_Ma_go_7 at h
  obtain ⟨I_7, μ_7, hI_7, hB_7⟩ := h
  have L_7 : ∀ (n_7 : Nat) (y_h7 : Ly) (s_h7 : St) (d_h7 e_h7 : Nat) (x1h7 : Int32) (x2h7 : Int32), μ_7 y_h7 s_h7 d_h7 e_h7 x1h7 x2h7 < n_7 → I_7 y_h7 s_h7 d_h7 e_h7 x1h7 x2h7 → ∀ (H : Heap) (locs : List Loc), va_P D CL (ws g ad y_h7 s_h7) H → va_D A (ws g ad y_h7 s_h7) → va_S A s.heap H locs → ∀ ls, lv_has ls 7 [(0, .ref (ad a0)), (1, .int x1h7), (2, .int x2h7)] → W p l e (ra_Ma_go mc ms) s m args below meth c H locs d_h7 e_h7 Q (F0 m 7 ls []) := by
    intro n_7
    induction n_7 with
    | zero => intro y_h7 s_h7 d_h7 e_h7 x1h7 x2h7 hμ; exact absurd hμ (Nat.not_lt_zero _)
    | succ n_7 ih_7 =>
      intro y_h7 s_h7 d_h7 e_h7 x1h7 x2h7 hμ_7 hJ H locs hP hD hS ls hl
      obtain ⟨K_7, hK_7, h⟩ : ∃ K : Ly → St → Nat → Nat → Int32 → Int32 → Prop, (∀ z1 z2 z3 z4 (t0 : Int32) (t1 : Int32), K z1 z2 z3 z4 t0 t1 → I_7 z1 z2 z3 z4 t0 t1 ∧ μ_7 z1 z2 z3 z4 t0 t1 < μ_7 y_h7 s_h7 d_h7 e_h7 x1h7 x2h7) ∧ wba_Ma_go_7 mc ms Post K a0 y_h7 s_h7 d_h7 e_h7 x1h7 x2h7 := ⟨_, fun _ _ _ _ _ _ h => h, hB_7 y_h7 s_h7 d_h7 e_h7 x1h7 x2h7 hJ⟩
      unfold wba_Ma_go_7 at h
      obtain ⟨hd, h⟩ := h
      refine lv_iload_n G.1 G.2.1 d_Ma_go_7 rfl (lv_at hl 2 rfl) ?_
      refine lv_ldc (v := 10000000) G.1 G.2.1 G.2.2.2.2.2.2.1 (G.2.2.2.2.2.1 _ q1788) d_Ma_go_8 ?_
      refine lv_icmp_ge (tgt := 282) G.1 G.2.1 d_Ma_go_10 (by decide) (fun c10 => ?_) (fun c10 => ?_)
      · skip
        have h := h.1 c10
        refine lv_iconst (v := 1) G.1 G.2.1 d_Ma_go_282 (by decide) ?_
        exact hret _ (y_h7, s_h7, d_h7, e_h7) _ _ _ _ _ ls h hP hD hS (Nat.le_refl _) (Nat.le_refl _) hd.1 hd.2 d_Ma_go_283
      · skip
        have h := h.2 c10
        refine lv_aload_n G.1 G.2.1 d_Ma_go_13 rfl (lv_at hl 0 rfl) ?_
        refine ucVi (As := []) (rest := []) G hP hD hS (cu_Ma_howManyOn l D g ad y_h7 _ s_h7 a0 H.size h_a0 h) w9_Ma_howManyOn q1765 ⟨Nat.le_of_ble_eq_true rfl, Nat.le_of_ble_eq_true rfl⟩ rfl rfl h_a0 (q := (RMa, TMa, 19)) rfl rfl hl.1 rfl (Nat.le_of_ble_eq_true rfl) rfl hd d_Ma_go_14 (fun r_2 s_3 H locs h hP hD hS => ?_)
        refine lv_if_ne (tgt := 22) G.1 G.2.1 d_Ma_go_17 (by decide) (fun c17 => ?_) (fun c17 => ?_)
        · skip
          have h := h.1 c17
          refine lv_aload_n G.1 G.2.1 d_Ma_go_22 rfl (lv_at hl 0 rfl) ?_
          refine ugf (v := .int (sV s_3 a0 10)) G hP h_a0 iMa rfl 10 (by decide) rfl q1085 rfl rfl d_Ma_go_23 ?_
          refine lv_iload_n G.1 G.2.1 d_Ma_go_26 rfl (lv_at hl 1 rfl) ?_
          refine lv_icmp_lt (tgt := 32) G.1 G.2.1 d_Ma_go_27 (by decide) (fun c27 => ?_) (fun c27 => ?_)
          · skip
            have h := h.1 c27
            refine lv_aload_n G.1 G.2.1 d_Ma_go_32 rfl (lv_at hl 0 rfl) ?_
            refine W.eq (g2 := F0 m 33 ls [.ref (ad a0)]) rfl ?_
            refine ugf (v := .int (sV s_3 a0 13)) G hP h_a0 iMa rfl 13 (by decide) rfl q1089 rfl rfl d_Ma_go_33 ?_
            have J_55 : ∀ (y_j55 : Ly) (s_j55 : St) (d_j55 e_j55 : Nat) (x1j55 : Int32) (x2j55 : Int32) (z0j55 : Int32) (H : Heap) (locs : List Loc), wja_Ma_go_55 mc ms Post K_7 a0 y_j55 s_j55 d_j55 e_j55 x1j55 x2j55 z0j55 → va_P D CL (ws g ad y_j55 s_j55) H → va_D A (ws g ad y_j55 s_j55) → va_S A s.heap H locs → ∀ ls, lv_has ls 7 [(0, .ref (ad a0)), (1, .int x1j55), (2, .int x2j55)] → W p l e (ra_Ma_go mc ms) s m args below meth c H locs d_j55 e_j55 Q (F0 m 55 ls [.int z0j55]) := by
              intro y_j55 s_j55 d_j55 e_j55 x1j55 x2j55 z0j55 H locs h hP hD hS ls hl
              unfold wja_Ma_go_55 at h
              obtain ⟨hd, h⟩ := h
              refine lv_istore_n (lv' := [(3, .int z0j55), (0, .ref (ad a0)), (1, .int x1j55), (2, .int x2j55)]) G.1 G.2.1 d_Ma_go_55 rfl hl (by decide) rfl (fun ls hl => ?_)
              refine lv_iconst (v := 0) G.1 G.2.1 d_Ma_go_56 (by decide) ?_
              refine lv_istore (lv' := [(4, .int 0), (3, .int z0j55), (0, .ref (ad a0)), (1, .int x1j55), (2, .int x2j55)]) G.1 G.2.1 d_Ma_go_57 hl (by decide) rfl (fun ls hl => ?_)
              refine lv_aload_n G.1 G.2.1 d_Ma_go_59 rfl (lv_at hl 2 rfl) ?_
              refine ugf (v := .int (sV s_j55 a0 8)) G hP h_a0 iMa rfl 8 (by decide) rfl q1081 rfl rfl d_Ma_go_60 ?_
              refine lv_istore (lv' := [(5, .int (sV s_j55 a0 8)), (4, .int 0), (3, .int z0j55), (0, .ref (ad a0)), (1, .int x1j55), (2, .int x2j55)]) G.1 G.2.1 d_Ma_go_63 hl (by decide) rfl (fun ls hl => ?_)
              refine lv_iload_n G.1 G.2.1 d_Ma_go_65 rfl (lv_at hl 2 rfl) ?_
              have J_74 : ∀ (y_j74 : Ly) (s_j74 : St) (d_j74 e_j74 : Nat) (x1j74 : Int32) (x2j74 : Int32) (x3j74 : Int32) (x4j74 : Int32) (x5j74 : Int32) (z0j74 : Int32) (H : Heap) (locs : List Loc), wja_Ma_go_74 mc ms Post K_7 a0 y_j74 s_j74 d_j74 e_j74 x1j74 x2j74 x3j74 x4j74 x5j74 z0j74 → va_P D CL (ws g ad y_j74 s_j74) H → va_D A (ws g ad y_j74 s_j74) → va_S A s.heap H locs → ∀ ls, lv_has ls 7 [(0, .ref (ad a0)), (1, .int x1j74), (2, .int x2j74), (3, .int x3j74), (4, .int x4j74), (5, .int x5j74)] → W p l e (ra_Ma_go mc ms) s m args below meth c H locs d_j74 e_j74 Q (F0 m 74 ls [.int z0j74]) := by
                intro y_j74 s_j74 d_j74 e_j74 x1j74 x2j74 x3j74 x4j74 x5j74 z0j74 H locs h hP hD hS ls hl
                unfold wja_Ma_go_74 at h
                obtain ⟨hd, h⟩ := h
                refine lv_istore (lv' := [(6, .int z0j74), (0, .ref (ad a0)), (1, .int x1j74), (2, .int x2j74), (3, .int x3j74), (4, .int x4j74), (5, .int x5j74)]) G.1 G.2.1 d_Ma_go_74 hl (by decide) rfl (fun ls hl => ?_)
                unfold wla_Ma_go_76 at h
                obtain ⟨I_76, μ_76, hI_76, hB_76⟩ := h
                have L_76 : ∀ (n_76 : Nat) (y_h76 : Ly) (s_h76 : St) (d_h76 e_h76 : Nat) (x1h76 : Int32) (x2h76 : Int32) (x3h76 : Int32) (x4h76 : Int32) (x5h76 : Int32) (x6h76 : Int32), μ_76 y_h76 s_h76 d_h76 e_h76 x1h76 x2h76 x3h76 x4h76 x5h76 x6h76 < n_76 → I_76 y_h76 s_h76 d_h76 e_h76 x1h76 x2h76 x3h76 x4h76 x5h76 x6h76 → ∀ (H : Heap) (locs : List Loc), va_P D CL (ws g ad y_h76 s_h76) H → va_D A (ws g ad y_h76 s_h76) → va_S A s.heap H locs → ∀ ls, lv_has ls 7 [(0, .ref (ad a0)), (1, .int x1h76), (2, .int x2h76), (3, .int x3h76), (4, .int x4h76), (5, .int x5h76), (6, .int x6h76)] → W p l e (ra_Ma_go mc ms) s m args below meth c H locs d_h76 e_h76 Q (F0 m 76 ls []) := by
                  intro n_76
                  induction n_76 with
                  | zero => intro y_h76 s_h76 d_h76 e_h76 x1h76 x2h76 x3h76 x4h76 x5h76 x6h76 hμ; exact absurd hμ (Nat.not_lt_zero _)
                  | succ n_76 ih_76 =>
                    intro y_h76 s_h76 d_h76 e_h76 x1h76 x2h76 x3h76 x4h76 x5h76 x6h76 hμ_76 hJ H locs hP hD hS ls hl
                    obtain ⟨K_76, hK_76, h⟩ : ∃ K : Ly → St → Nat → Nat → Int32 → Int32 → Int32 → Int32 → Int32 → Int32 → Prop, (∀ z1 z2 z3 z4 (t0 : Int32) (t1 : Int32) (t2 : Int32) (t3 : Int32) (t4 : Int32) (t5 : Int32), K z1 z2 z3 z4 t0 t1 t2 t3 t4 t5 → I_76 z1 z2 z3 z4 t0 t1 t2 t3 t4 t5 ∧ μ_76 z1 z2 z3 z4 t0 t1 t2 t3 t4 t5 < μ_76 y_h76 s_h76 d_h76 e_h76 x1h76 x2h76 x3h76 x4h76 x5h76 x6h76) ∧ wba_Ma_go_76 mc ms Post K_7 K a0 y_h76 s_h76 d_h76 e_h76 x1h76 x2h76 x3h76 x4h76 x5h76 x6h76 := ⟨_, fun _ _ _ _ _ _ _ _ _ _ h => h, hB_76 y_h76 s_h76 d_h76 e_h76 x1h76 x2h76 x3h76 x4h76 x5h76 x6h76 hJ⟩
                    unfold wba_Ma_go_76 at h
                    obtain ⟨hd, h⟩ := h
                    refine lv_iload G.1 G.2.1 d_Ma_go_76 (lv_at hl 6 rfl) ?_
                    refine lv_iconst (v := 3) G.1 G.2.1 d_Ma_go_78 (by decide) ?_
                    have J_194 : ∀ (y_j194 : Ly) (s_j194 : St) (d_j194 e_j194 : Nat) (x1j194 : Int32) (x2j194 : Int32) (x3j194 : Int32) (x4j194 : Int32) (x5j194 : Int32) (H : Heap) (locs : List Loc), wja_Ma_go_194 mc ms Post K_7 a0 y_j194 s_j194 d_j194 e_j194 x1j194 x2j194 x3j194 x4j194 x5j194 → va_P D CL (ws g ad y_j194 s_j194) H → va_D A (ws g ad y_j194 s_j194) → va_S A s.heap H locs → ∀ ls, lv_has ls 7 [(0, .ref (ad a0)), (1, .int x1j194), (2, .int x2j194), (3, .int x3j194), (4, .int x4j194), (5, .int x5j194)] → W p l e (ra_Ma_go mc ms) s m args below meth c H locs d_j194 e_j194 Q (F0 m 194 ls []) := by
                      intro y_j194 s_j194 d_j194 e_j194 x1j194 x2j194 x3j194 x4j194 x5j194 H locs h hP hD hS ls hl
                      unfold wja_Ma_go_194 at h
                      obtain ⟨hd, h⟩ := h
                      refine lv_iload G.1 G.2.1 d_Ma_go_194 (lv_at hl 4 rfl) ?_
                      refine lv_if_ne (tgt := 206) G.1 G.2.1 d_Ma_go_196 (by decide) (fun c196 => ?_) (fun c196 => ?_)
                      · skip
                        have h := h.1 c196
                        refine lv_iload_n G.1 G.2.1 d_Ma_go_206 rfl (lv_at hl 3 rfl) ?_
                        have J_216 : ∀ (y_j216 : Ly) (s_j216 : St) (d_j216 e_j216 : Nat) (x1j216 : Int32) (x2j216 : Int32) (x4j216 : Int32) (x5j216 : Int32) (H : Heap) (locs : List Loc), wja_Ma_go_216 mc ms Post K_7 a0 y_j216 s_j216 d_j216 e_j216 x1j216 x2j216 x4j216 x5j216 → va_P D CL (ws g ad y_j216 s_j216) H → va_D A (ws g ad y_j216 s_j216) → va_S A s.heap H locs → ∀ ls, lv_has ls 7 [(0, .ref (ad a0)), (1, .int x1j216), (2, .int x2j216), (4, .int x4j216), (5, .int x5j216)] → W p l e (ra_Ma_go mc ms) s m args below meth c H locs d_j216 e_j216 Q (F0 m 216 ls []) := by
                          intro y_j216 s_j216 d_j216 e_j216 x1j216 x2j216 x4j216 x5j216 H locs h hP hD hS ls hl
                          unfold wja_Ma_go_216 at h
                          obtain ⟨hd, h⟩ := h
                          refine lv_iload G.1 G.2.1 d_Ma_go_216 (lv_at hl 3 rfl) ?_
                          refine lv_bipush (v := 7) G.1 G.2.1 d_Ma_go_218 (by decide) ?_
                          have J_247 : ∀ (y_j247 : Ly) (s_j247 : St) (d_j247 e_j247 : Nat) (x1j247 : Int32) (x2j247 : Int32) (x5j247 : Int32) (H : Heap) (locs : List Loc), wja_Ma_go_247 mc ms Post K_7 a0 y_j247 s_j247 d_j247 e_j247 x1j247 x2j247 x5j247 → va_P D CL (ws g ad y_j247 s_j247) H → va_D A (ws g ad y_j247 s_j247) → va_S A s.heap H locs → ∀ ls, lv_has ls 7 [(0, .ref (ad a0)), (1, .int x1j247), (2, .int x2j247), (5, .int x5j247)] → W p l e (ra_Ma_go mc ms) s m args below meth c H locs d_j247 e_j247 Q (F0 m 247 ls []) := by
                            intro y_j247 s_j247 d_j247 e_j247 x1j247 x2j247 x5j247 H locs h hP hD hS ls hl
                            unfold wja_Ma_go_247 at h
                            obtain ⟨hd, h⟩ := h
                            refine lv_aload_n G.1 G.2.1 d_Ma_go_247 rfl (lv_at hl 0 rfl) ?_
                            refine lv_aload_n G.1 G.2.1 d_Ma_go_248 rfl (lv_at hl 0 rfl) ?_
                            refine ugf (v := .int (sV s_j247 a0 13)) G hP h_a0 iMa rfl 13 (by decide) rfl q1089 rfl rfl d_Ma_go_249 ?_
                            have J_273 : ∀ (y_j273 : Ly) (s_j273 : St) (d_j273 e_j273 : Nat) (x1j273 : Int32) (x2j273 : Int32) (z1j273 : Int32) (H : Heap) (locs : List Loc), wja_Ma_go_273 mc ms Post K_7 a0 y_j273 s_j273 d_j273 e_j273 x1j273 x2j273 z1j273 → va_P D CL (ws g ad y_j273 s_j273) H → va_D A (ws g ad y_j273 s_j273) → va_S A s.heap H locs → ∀ ls, lv_has ls 7 [(0, .ref (ad a0)), (1, .int x1j273), (2, .int x2j273)] → W p l e (ra_Ma_go mc ms) s m args below meth c H locs d_j273 e_j273 Q (F0 m 273 ls [.int z1j273, .ref (ad a0)]) := by
                              intro y_j273 s_j273 d_j273 e_j273 x1j273 x2j273 z1j273 H locs h hP hD hS ls hl
                              unfold wja_Ma_go_273 at h
                              obtain ⟨hd, h⟩ := h
                              obtain ⟨n_4, h⟩ := h
                              refine upf G hP hD hS h 13 putV h_a0 iMa tMa tMa_ok nMa rfl (by decide) rfl q1089 rfl rfl fV (nb_n n_4) (nb_f n_4) d_Ma_go_273 (fun s_5 H locs h hP hD hS => ?_)
                              refine lv_iinc (v := x2j273 + 1) (lv' := [(2, .int (x2j273 + 1)), (0, .ref (ad a0)), (1, .int x1j273)]) G.1 G.2.1 d_Ma_go_276 hl (k := 2) rfl rfl (by decide) rfl (fun ls hl => ?_)
                              refine lv_goto (tgt := 7) G.1 G.2.1 d_Ma_go_279 (by decide) ?_
                              have h := hK_7 y_j273 s_5 d_j273 e_j273 x1j273 (x2j273 + 1) h
                              exact ih_7 y_j273 s_5 d_j273 e_j273 x1j273 (x2j273 + 1) (Nat.lt_of_lt_of_le h.2 (Nat.le_of_lt_succ hμ_7)) h.1 H locs hP hD hS ls (lv_sub hl [1, 2, 0] rfl)
                            have J_268 : ∀ (y_j268 : Ly) (s_j268 : St) (d_j268 e_j268 : Nat) (x1j268 : Int32) (x2j268 : Int32) (H : Heap) (locs : List Loc), wja_Ma_go_268 mc ms Post K_7 a0 y_j268 s_j268 d_j268 e_j268 x1j268 x2j268 → va_P D CL (ws g ad y_j268 s_j268) H → va_D A (ws g ad y_j268 s_j268) → va_S A s.heap H locs → ∀ ls, lv_has ls 7 [(0, .ref (ad a0)), (1, .int x1j268), (2, .int x2j268)] → W p l e (ra_Ma_go mc ms) s m args below meth c H locs d_j268 e_j268 Q (F0 m 268 ls [.ref (ad a0)]) := by
                              intro y_j268 s_j268 d_j268 e_j268 x1j268 x2j268 H locs h hP hD hS ls hl
                              unfold wja_Ma_go_268 at h
                              obtain ⟨hd, h⟩ := h
                              refine lv_iconst (v := 1) G.1 G.2.1 d_Ma_go_268 (by decide) ?_
                              refine lv_goto (tgt := 273) G.1 G.2.1 d_Ma_go_269 (by decide) ?_
                              exact J_273 y_j268 s_j268 d_j268 e_j268 x1j268 x2j268 1 H locs h hP hD hS ls (lv_sub hl [0, 1, 2] rfl)
                            refine lv_if_ne (tgt := 268) G.1 G.2.1 d_Ma_go_252 (by decide) (fun c252 => ?_) (fun c252 => ?_)
                            · skip
                              have h := h.1 c252
                              exact J_268 y_j247 s_j247 d_j247 e_j247 x1j247 x2j247 H locs h hP hD hS ls (lv_sub hl [0, 1, 2] rfl)
                            · skip
                              have h := h.2 c252
                              refine lv_aload_n G.1 G.2.1 d_Ma_go_255 rfl (lv_at hl 0 rfl) ?_
                              refine ugf (v := .ref (yP y_j247 a0 2)) G hP h_a0 iMa rfl 2 (by decide) rfl q1069 rfl rfl d_Ma_go_256 ?_
                              refine lv_iload G.1 G.2.1 d_Ma_go_259 (lv_at hl 3 rfl) ?_
                              refine uqald G hP (kdp h_a0 rfl) (typ h_a0 rfl) rfl h d_Ma_go_261 (fun b_6 n_7 h => ?_)
                              refine ucVi (As := []) (rest := [.ref (ad a0)]) G hP hD hS (cu_Ru_on l D g ad y_j247 _ s_j247 b_6 H.size (oa_4 h_a0 n_7) h) w9_Ru_on q1769 ⟨Nat.le_of_ble_eq_true rfl, Nat.le_of_ble_eq_true rfl⟩ rfl rfl (oa_4 h_a0 n_7) (q := (RRu, TRu, 19)) rfl rfl hl.1 rfl (Nat.le_of_ble_eq_true rfl) rfl hd d_Ma_go_262 (fun r_8 s_9 H locs h hP hD hS => ?_)
                              refine lv_if_ne (tgt := 272) G.1 G.2.1 d_Ma_go_265 (by decide) (fun c265 => ?_) (fun c265 => ?_)
                              · skip
                                have h := h.1 c265
                                refine lv_iconst (v := 0) G.1 G.2.1 d_Ma_go_272 (by decide) ?_
                                exact J_273 y_j247 s_9 d_j247 e_j247 x1j247 x2j247 0 H locs h hP hD hS ls (lv_sub hl [0, 1, 2] rfl)
                              · skip
                                have h := h.2 c265
                                exact J_268 y_j247 s_9 d_j247 e_j247 x1j247 x2j247 H locs h hP hD hS ls (lv_sub hl [0, 1, 2] rfl)
                          refine lv_icmp_ne (tgt := 239) G.1 G.2.1 d_Ma_go_220 (by decide) (fun c220 => ?_) (fun c220 => ?_)
                          · skip
                            have h := h.1 c220
                            refine lv_aload_n G.1 G.2.1 d_Ma_go_239 rfl (lv_at hl 0 rfl) ?_
                            refine lv_iload G.1 G.2.1 d_Ma_go_240 (lv_at hl 4 rfl) ?_
                            refine lv_iload G.1 G.2.1 d_Ma_go_242 (lv_at hl 3 rfl) ?_
                            obtain ⟨mc_15, ms_16, hr_17, h⟩ := h
                            refine uaVv (As := [.int x5j216, .int x4j216]) (rest := []) G hP hD hS (ca_Ma_act l D g ad mc_15 ms_16 y_j216 _ s_j216 a0 x5j216 x4j216 H.size (us H) h_a0 h) w9_Ma_act q2069 ⟨Nat.le_of_ble_eq_true rfl, Nat.le_of_ble_eq_true rfl⟩ rfl rfl h_a0 (q := (RMa, TMa, 19)) rfl rfl hl.1 rfl (Nat.le_of_ble_eq_true rfl) rfl hr_17 d_Ma_go_244 (fun y_12 s_11 d_13 e_14 H locs h hP hD hS => ?_)
                            have hl := lv_sub (l' := [(0, .ref (ad a0)), (1, .int x1j216), (2, .int x2j216), (5, .int x5j216)]) hl [0, 1, 2, 4] rfl
                            obtain ⟨hd, h⟩ := h
                            exact J_247 y_12 s_11 (d_j216 + d_13) (e_j216 + e_14) x1j216 x2j216 x5j216 H locs h hP hD hS ls (lv_sub hl [0, 1, 2, 3] rfl)
                          · skip
                            have h := h.2 c220
                            refine lv_aload_n G.1 G.2.1 d_Ma_go_223 rfl (lv_at hl 0 rfl) ?_
                            refine lv_aload_n G.1 G.2.1 d_Ma_go_224 rfl (lv_at hl 0 rfl) ?_
                            refine ugf (v := .ref (yP y_j216 a0 2)) G hP h_a0 iMa rfl 2 (by decide) rfl q1069 rfl rfl d_Ma_go_225 ?_
                            refine lv_iload G.1 G.2.1 d_Ma_go_228 (lv_at hl 4 rfl) ?_
                            refine uqald G hP (kdp h_a0 rfl) (typ h_a0 rfl) rfl h d_Ma_go_230 (fun b_18 n_19 h => ?_)
                            refine lv_iload G.1 G.2.1 d_Ma_go_231 (lv_at hl 4 rfl) ?_
                            obtain ⟨mc_25, ms_26, hr_27, h⟩ := h
                            refine uaVv (As := [.ref (ad b_18), .int x5j216]) (rest := []) G hP hD hS (ca_Ma_oneStep l D g ad mc_25 ms_26 y_j216 _ s_j216 a0 b_18 x5j216 H.size (us H) h_a0 (oa_4 h_a0 n_19) h) w9_Ma_oneStep q1868 ⟨Nat.le_of_ble_eq_true rfl, Nat.le_of_ble_eq_true rfl⟩ rfl rfl h_a0 (q := (RMa, TMa, 19)) rfl rfl hl.1 rfl (Nat.le_of_ble_eq_true rfl) rfl hr_27 d_Ma_go_233 (fun y_22 s_21 d_23 e_24 H locs h hP hD hS => ?_)
                            have hl := lv_sub (l' := [(0, .ref (ad a0)), (1, .int x1j216), (2, .int x2j216), (5, .int x5j216)]) hl [0, 1, 2, 4] rfl
                            obtain ⟨hd, h⟩ := h
                            refine lv_goto (tgt := 247) G.1 G.2.1 d_Ma_go_236 (by decide) ?_
                            exact J_247 y_22 s_21 (d_j216 + d_23) (e_j216 + e_24) x1j216 x2j216 x5j216 H locs h hP hD hS ls (lv_sub hl [0, 1, 2, 3] rfl)
                        refine lv_if_eq (tgt := 216) G.1 G.2.1 d_Ma_go_207 (by decide) (fun c207 => ?_) (fun c207 => ?_)
                        · skip
                          have h := h.1 c207
                          exact J_216 y_j194 s_j194 d_j194 e_j194 x1j194 x2j194 x4j194 x5j194 H locs h hP hD hS ls (lv_sub hl [0, 1, 2, 4, 5] rfl)
                        · skip
                          have h := h.2 c207
                          refine lv_aload_n G.1 G.2.1 d_Ma_go_210 rfl (lv_at hl 0 rfl) ?_
                          refine lv_iload G.1 G.2.1 d_Ma_go_211 (lv_at hl 5 rfl) ?_
                          refine ucVv (As := [.int x5j194]) (rest := []) G hP hD hS (cu_Ma_newTurn l D g ad y_j194 _ s_j194 a0 x5j194 H.size h_a0 h) w9_Ma_newTurn q1236 ⟨Nat.le_of_ble_eq_true rfl, Nat.le_of_ble_eq_true rfl⟩ rfl rfl h_a0 (q := (RMa, TMa, 19)) rfl rfl hl.1 rfl (Nat.le_of_ble_eq_true rfl) rfl hd d_Ma_go_213 (fun s_29 H locs h hP hD hS => ?_)
                          exact J_216 y_j194 s_29 d_j194 e_j194 x1j194 x2j194 x4j194 x5j194 H locs h hP hD hS ls (lv_sub hl [0, 1, 2, 4, 5] rfl)
                      · skip
                        have h := h.2 c196
                        refine lv_aload_n G.1 G.2.1 d_Ma_go_199 rfl (lv_at hl 0 rfl) ?_
                        refine lv_iconst (v := 1) G.1 G.2.1 d_Ma_go_200 (by decide) ?_
                        obtain ⟨n_30, h⟩ := h
                        refine upf G hP hD hS h 13 putV h_a0 iMa tMa tMa_ok nMa rfl (by decide) rfl q1089 rfl rfl fV (nb_n n_30) (nb_f n_30) d_Ma_go_201 (fun s_31 H locs h hP hD hS => ?_)
                        refine lv_iconst (v := 3) G.1 G.2.1 d_Ma_go_204 (by decide) ?_
                        exact hret _ (y_j194, s_31, d_j194, e_j194) _ _ _ _ _ ls h hP hD hS (Nat.le_refl _) (Nat.le_refl _) hd.1 hd.2 d_Ma_go_205
                    refine lv_icmp_gt (tgt := 194) G.1 G.2.1 d_Ma_go_79 (by decide) (fun c79 => ?_) (fun c79 => ?_)
                    · skip
                      have h := h.1 c79
                      exact J_194 y_h76 s_h76 d_h76 e_h76 x1h76 x2h76 x3h76 x4h76 x5h76 H locs h hP hD hS ls (lv_sub hl [0, 1, 2, 3, 4, 5] rfl)
                    · skip
                      have h := h.2 c79
                      refine lv_iload G.1 G.2.1 d_Ma_go_82 (lv_at hl 4 rfl) ?_
                      refine lv_if_ne (tgt := 194) G.1 G.2.1 d_Ma_go_84 (by decide) (fun c84 => ?_) (fun c84 => ?_)
                      · skip
                        have h := h.1 c84
                        exact J_194 y_h76 s_h76 d_h76 e_h76 x1h76 x2h76 x3h76 x4h76 x5h76 H locs h hP hD hS ls (lv_sub hl [0, 1, 2, 3, 4, 5] rfl)
                      · skip
                        have h := h.2 c84
                        refine lv_aload_n G.1 G.2.1 d_Ma_go_87 rfl (lv_at hl 0 rfl) ?_
                        refine ugf (v := .int (sV s_h76 a0 8)) G hP h_a0 iMa rfl 8 (by decide) rfl q1081 rfl rfl d_Ma_go_88 ?_
                        refine lv_iload G.1 G.2.1 d_Ma_go_91 (lv_at hl 6 rfl) ?_
                        refine lv_iadd G.1 G.2.1 d_Ma_go_93 ?_
                        refine lv_iconst (v := 3) G.1 G.2.1 d_Ma_go_94 (by decide) ?_
                        refine lv_irem G.1 G.2.1 d_Ma_go_95 (by decide) ?_
                        refine W.eq (g2 := F0 m 96 ls [.int (((sV s_h76 a0 8) + x6h76) - ((sV s_h76 a0 8) + x6h76) / 3 * 3)]) rfl ?_
                        refine lv_istore (lv' := [(5, .int (((sV s_h76 a0 8) + x6h76) - ((sV s_h76 a0 8) + x6h76) / 3 * 3)), (0, .ref (ad a0)), (1, .int x1h76), (2, .int x2h76), (3, .int x3h76), (4, .int x4h76), (6, .int x6h76)]) G.1 G.2.1 d_Ma_go_96 hl (by decide) rfl (fun ls hl => ?_)
                        refine lv_aload_n G.1 G.2.1 d_Ma_go_98 rfl (lv_at hl 1 rfl) ?_
                        refine ugf (v := .ref (yP y_h76 a0 2)) G hP h_a0 iMa rfl 2 (by decide) rfl q1069 rfl rfl d_Ma_go_99 ?_
                        refine lv_iload G.1 G.2.1 d_Ma_go_102 (lv_at hl 0 rfl) ?_
                        refine uqald G hP (kdp h_a0 rfl) (typ h_a0 rfl) rfl h d_Ma_go_104 (fun b_32 n_33 h => ?_)
                        refine ucVi (As := []) (rest := []) G hP hD hS (cu_Ru_on l D g ad y_h76 _ s_h76 b_32 H.size (oa_4 h_a0 n_33) h) w9_Ru_on q1769 ⟨Nat.le_of_ble_eq_true rfl, Nat.le_of_ble_eq_true rfl⟩ rfl rfl (oa_4 h_a0 n_33) (q := (RRu, TRu, 19)) rfl rfl hl.1 rfl (Nat.le_of_ble_eq_true rfl) rfl hd d_Ma_go_105 (fun r_34 s_35 H locs h hP hD hS => ?_)
                        have J_121 : ∀ (y_j121 : Ly) (s_j121 : St) (d_j121 e_j121 : Nat) (x1j121 : Int32) (x2j121 : Int32) (x3j121 : Int32) (x5j121 : Int32) (x6j121 : Int32) (z0j121 : Int32) (H : Heap) (locs : List Loc), wja_Ma_go_121 mc ms Post K_7 K_76 a0 y_j121 s_j121 d_j121 e_j121 x1j121 x2j121 x3j121 x5j121 x6j121 z0j121 → va_P D CL (ws g ad y_j121 s_j121) H → va_D A (ws g ad y_j121 s_j121) → va_S A s.heap H locs → ∀ ls, lv_has ls 7 [(0, .ref (ad a0)), (1, .int x1j121), (2, .int x2j121), (3, .int x3j121), (5, .int x5j121), (6, .int x6j121)] → W p l e (ra_Ma_go mc ms) s m args below meth c H locs d_j121 e_j121 Q (F0 m 121 ls [.int z0j121]) := by
                          intro y_j121 s_j121 d_j121 e_j121 x1j121 x2j121 x3j121 x5j121 x6j121 z0j121 H locs h hP hD hS ls hl
                          unfold wja_Ma_go_121 at h
                          obtain ⟨hd, h⟩ := h
                          refine lv_istore (lv' := [(4, .int z0j121), (0, .ref (ad a0)), (1, .int x1j121), (2, .int x2j121), (3, .int x3j121), (5, .int x5j121), (6, .int x6j121)]) G.1 G.2.1 d_Ma_go_121 hl (by decide) rfl (fun ls hl => ?_)
                          refine lv_iload G.1 G.2.1 d_Ma_go_123 (lv_at hl 0 rfl) ?_
                          refine lv_iconst (v := 1) G.1 G.2.1 d_Ma_go_125 (by decide) ?_
                          have J_153 : ∀ (y_j153 : Ly) (s_j153 : St) (d_j153 e_j153 : Nat) (x1j153 : Int32) (x2j153 : Int32) (x3j153 : Int32) (x4j153 : Int32) (x5j153 : Int32) (x6j153 : Int32) (H : Heap) (locs : List Loc), wja_Ma_go_153 mc ms Post K_7 K_76 a0 y_j153 s_j153 d_j153 e_j153 x1j153 x2j153 x3j153 x4j153 x5j153 x6j153 → va_P D CL (ws g ad y_j153 s_j153) H → va_D A (ws g ad y_j153 s_j153) → va_S A s.heap H locs → ∀ ls, lv_has ls 7 [(0, .ref (ad a0)), (1, .int x1j153), (2, .int x2j153), (3, .int x3j153), (4, .int x4j153), (5, .int x5j153), (6, .int x6j153)] → W p l e (ra_Ma_go mc ms) s m args below meth c H locs d_j153 e_j153 Q (F0 m 153 ls []) := by
                            intro y_j153 s_j153 d_j153 e_j153 x1j153 x2j153 x3j153 x4j153 x5j153 x6j153 H locs h hP hD hS ls hl
                            unfold wja_Ma_go_153 at h
                            obtain ⟨hd, h⟩ := h
                            refine lv_aload_n G.1 G.2.1 d_Ma_go_153 rfl (lv_at hl 0 rfl) ?_
                            refine ugf (v := .ref (yP y_j153 a0 2)) G hP h_a0 iMa rfl 2 (by decide) rfl q1069 rfl rfl d_Ma_go_154 ?_
                            refine lv_iload G.1 G.2.1 d_Ma_go_157 (lv_at hl 5 rfl) ?_
                            refine uqald G hP (kdp h_a0 rfl) (typ h_a0 rfl) rfl h d_Ma_go_159 (fun b_36 n_37 h => ?_)
                            refine lv_iload G.1 G.2.1 d_Ma_go_160 (lv_at hl 4 rfl) ?_
                            have J_170 : ∀ (y_j170 : Ly) (s_j170 : St) (d_j170 e_j170 : Nat) (x1j170 : Int32) (x2j170 : Int32) (x3j170 : Int32) (x4j170 : Int32) (x5j170 : Int32) (x6j170 : Int32) (z0j170 : Nat) (z1j170 : Int32) (H : Heap) (locs : List Loc), wja_Ma_go_170 mc ms Post K_7 K_76 a0 y_j170 s_j170 d_j170 e_j170 x1j170 x2j170 x3j170 x4j170 x5j170 x6j170 z0j170 z1j170 → va_P D CL (ws g ad y_j170 s_j170) H → va_D A (ws g ad y_j170 s_j170) → va_S A s.heap H locs → ∀ ls, lv_has ls 7 [(0, .ref (ad a0)), (1, .int x1j170), (2, .int x2j170), (3, .int x3j170), (4, .int x4j170), (5, .int x5j170), (6, .int x6j170)] → W p l e (ra_Ma_go mc ms) s m args below meth c H locs d_j170 e_j170 Q (F0 m 170 ls [.int z1j170, .ref (ad z0j170)]) := by
                              intro y_j170 s_j170 d_j170 e_j170 x1j170 x2j170 x3j170 x4j170 x5j170 x6j170 z0j170 z1j170 H locs h hP hD hS ls hl
                              unfold wja_Ma_go_170 at h
                              obtain ⟨hd, h⟩ := h
                              obtain ⟨c_z0j170, h⟩ := h
                              obtain ⟨n_38, h⟩ := h
                              refine upf G hP hD hS h 5 putV c_z0j170 iRu tRu tRu_ok nRu rfl (by decide) rfl q992 rfl rfl fV (nb_n n_38) (nb_f n_38) d_Ma_go_170 (fun s_39 H locs h hP hD hS => ?_)
                              refine lv_iload_n G.1 G.2.1 d_Ma_go_173 rfl (lv_at hl 3 rfl) ?_
                              have J_187 : ∀ (y_j187 : Ly) (s_j187 : St) (d_j187 e_j187 : Nat) (x1j187 : Int32) (x2j187 : Int32) (x4j187 : Int32) (x5j187 : Int32) (x6j187 : Int32) (z0j187 : Int32) (H : Heap) (locs : List Loc), wja_Ma_go_187 mc ms Post K_7 K_76 a0 y_j187 s_j187 d_j187 e_j187 x1j187 x2j187 x4j187 x5j187 x6j187 z0j187 → va_P D CL (ws g ad y_j187 s_j187) H → va_D A (ws g ad y_j187 s_j187) → va_S A s.heap H locs → ∀ ls, lv_has ls 7 [(0, .ref (ad a0)), (1, .int x1j187), (2, .int x2j187), (4, .int x4j187), (5, .int x5j187), (6, .int x6j187)] → W p l e (ra_Ma_go mc ms) s m args below meth c H locs d_j187 e_j187 Q (F0 m 187 ls [.int z0j187]) := by
                                intro y_j187 s_j187 d_j187 e_j187 x1j187 x2j187 x4j187 x5j187 x6j187 z0j187 H locs h hP hD hS ls hl
                                unfold wja_Ma_go_187 at h
                                obtain ⟨hd, h⟩ := h
                                refine lv_istore_n (lv' := [(3, .int z0j187), (0, .ref (ad a0)), (1, .int x1j187), (2, .int x2j187), (4, .int x4j187), (5, .int x5j187), (6, .int x6j187)]) G.1 G.2.1 d_Ma_go_187 rfl hl (by decide) rfl (fun ls hl => ?_)
                                refine lv_iinc (v := x6j187 + 1) (lv' := [(6, .int (x6j187 + 1)), (3, .int z0j187), (0, .ref (ad a0)), (1, .int x1j187), (2, .int x2j187), (4, .int x4j187), (5, .int x5j187)]) G.1 G.2.1 d_Ma_go_188 hl (k := 6) rfl rfl (by decide) rfl (fun ls hl => ?_)
                                refine lv_goto (tgt := 76) G.1 G.2.1 d_Ma_go_191 (by decide) ?_
                                have h := hK_76 y_j187 s_j187 d_j187 e_j187 x1j187 x2j187 z0j187 x4j187 x5j187 (x6j187 + 1) h
                                exact ih_76 y_j187 s_j187 d_j187 e_j187 x1j187 x2j187 z0j187 x4j187 x5j187 (x6j187 + 1) (Nat.lt_of_lt_of_le h.2 (Nat.le_of_lt_succ hμ_76)) h.1 H locs hP hD hS ls (lv_sub hl [2, 3, 4, 1, 5, 6, 0] rfl)
                              have J_182 : ∀ (y_j182 : Ly) (s_j182 : St) (d_j182 e_j182 : Nat) (x1j182 : Int32) (x2j182 : Int32) (x4j182 : Int32) (x5j182 : Int32) (x6j182 : Int32) (H : Heap) (locs : List Loc), wja_Ma_go_182 mc ms Post K_7 K_76 a0 y_j182 s_j182 d_j182 e_j182 x1j182 x2j182 x4j182 x5j182 x6j182 → va_P D CL (ws g ad y_j182 s_j182) H → va_D A (ws g ad y_j182 s_j182) → va_S A s.heap H locs → ∀ ls, lv_has ls 7 [(0, .ref (ad a0)), (1, .int x1j182), (2, .int x2j182), (4, .int x4j182), (5, .int x5j182), (6, .int x6j182)] → W p l e (ra_Ma_go mc ms) s m args below meth c H locs d_j182 e_j182 Q (F0 m 182 ls []) := by
                                intro y_j182 s_j182 d_j182 e_j182 x1j182 x2j182 x4j182 x5j182 x6j182 H locs h hP hD hS ls hl
                                unfold wja_Ma_go_182 at h
                                obtain ⟨hd, h⟩ := h
                                refine lv_iconst (v := 1) G.1 G.2.1 d_Ma_go_182 (by decide) ?_
                                refine lv_goto (tgt := 187) G.1 G.2.1 d_Ma_go_183 (by decide) ?_
                                exact J_187 y_j182 s_j182 d_j182 e_j182 x1j182 x2j182 x4j182 x5j182 x6j182 1 H locs h hP hD hS ls (lv_sub hl [0, 1, 2, 3, 4, 5] rfl)
                              refine lv_if_ne (tgt := 182) G.1 G.2.1 d_Ma_go_174 (by decide) (fun c174 => ?_) (fun c174 => ?_)
                              · skip
                                have h := h.1 c174
                                exact J_182 y_j170 s_39 d_j170 e_j170 x1j170 x2j170 x4j170 x5j170 x6j170 H locs h hP hD hS ls (lv_sub hl [0, 1, 2, 4, 5, 6] rfl)
                              · skip
                                have h := h.2 c174
                                refine lv_iload G.1 G.2.1 d_Ma_go_177 (lv_at hl 6 rfl) ?_
                                refine lv_if_le (tgt := 186) G.1 G.2.1 d_Ma_go_179 (by decide) (fun c179 => ?_) (fun c179 => ?_)
                                · skip
                                  have h := h.1 c179
                                  refine lv_iconst (v := 0) G.1 G.2.1 d_Ma_go_186 (by decide) ?_
                                  exact J_187 y_j170 s_39 d_j170 e_j170 x1j170 x2j170 x4j170 x5j170 x6j170 0 H locs h hP hD hS ls (lv_sub hl [0, 1, 2, 4, 5, 6] rfl)
                                · skip
                                  have h := h.2 c179
                                  exact J_182 y_j170 s_39 d_j170 e_j170 x1j170 x2j170 x4j170 x5j170 x6j170 H locs h hP hD hS ls (lv_sub hl [0, 1, 2, 4, 5, 6] rfl)
                            refine lv_if_ne (tgt := 169) G.1 G.2.1 d_Ma_go_162 (by decide) (fun c162 => ?_) (fun c162 => ?_)
                            · skip
                              have h := h.1 c162
                              refine lv_iconst (v := 0) G.1 G.2.1 d_Ma_go_169 (by decide) ?_
                              exact J_170 y_j153 s_j153 d_j153 e_j153 x1j153 x2j153 x3j153 x4j153 x5j153 x6j153 b_36 0 H locs h hP hD hS ls (lv_sub hl [0, 1, 2, 3, 4, 5, 6] rfl)
                            · skip
                              have h := h.2 c162
                              refine lv_iconst (v := 1) G.1 G.2.1 d_Ma_go_165 (by decide) ?_
                              refine lv_goto (tgt := 170) G.1 G.2.1 d_Ma_go_166 (by decide) ?_
                              exact J_170 y_j153 s_j153 d_j153 e_j153 x1j153 x2j153 x3j153 x4j153 x5j153 x6j153 b_36 1 H locs h hP hD hS ls (lv_sub hl [0, 1, 2, 3, 4, 5, 6] rfl)
                          refine lv_icmp_ne (tgt := 153) G.1 G.2.1 d_Ma_go_126 (by decide) (fun c126 => ?_) (fun c126 => ?_)
                          · skip
                            have h := h.1 c126
                            exact J_153 y_j121 s_j121 d_j121 e_j121 x1j121 x2j121 x3j121 z0j121 x5j121 x6j121 H locs h hP hD hS ls (lv_sub hl [1, 2, 3, 4, 0, 5, 6] rfl)
                          · skip
                            have h := h.2 c126
                            refine lv_aload_n G.1 G.2.1 d_Ma_go_129 rfl (lv_at hl 1 rfl) ?_
                            refine ugf (v := .ref (ad (lk a0 14))) G hP h_a0 iMa rfl 14 (by decide) rfl q1090 rfl rfl d_Ma_go_130 ?_
                            refine lv_aload_n G.1 G.2.1 d_Ma_go_133 rfl (lv_at hl 1 rfl) ?_
                            refine ugf (v := .ref (ad (lk a0 0))) G hP h_a0 iMa rfl 0 (by decide) rfl q1065 rfl rfl d_Ma_go_134 ?_
                            refine lv_aload_n G.1 G.2.1 d_Ma_go_137 rfl (lv_at hl 1 rfl) ?_
                            refine ugf (v := .int (sV s_j121 a0 17)) G hP h_a0 iMa rfl 17 (by decide) rfl q1093 rfl rfl d_Ma_go_138 ?_
                            obtain ⟨mc_45, ms_46, hr_47, h⟩ := h
                            refine utVi (As := [.ref (ad (lk a0 0)), .int (sV s_j121 a0 17)]) (rest := []) G hP hD hS (ca_Fi_settle l D g F sl hF ad mc_45 ms_46 y_j121 _ s_j121 (lk a0 14) (lk a0 0) (sV s_j121 a0 17) H.size (us H) (lk_4_14 h_a0) (lk_4_0 h_a0) h) w9_Fi_settle q1867 ⟨Nat.le_of_ble_eq_true rfl, Nat.le_of_ble_eq_true rfl⟩ rfl rfl (lk_4_14 h_a0) (q := (RFi, TFi, 10)) rfl rfl hl.1 rfl (Nat.le_of_ble_eq_true rfl) rfl hr_47 d_Ma_go_141 (fun r_40 y_42 s_41 d_43 e_44 H locs h hP hD hS => ?_)
                            have hl := lv_sub (l' := [(0, .ref (ad a0)), (1, .int x1j121), (2, .int x2j121), (3, .int x3j121), (5, .int x5j121), (6, .int x6j121)]) hl [1, 2, 3, 4, 5, 6] rfl
                            obtain ⟨hd, h⟩ := h
                            refine W.eq (g2 := F0 m 144 ls [.int r_40]) rfl ?_
                            refine lv_pop G.1 G.2.1 d_Ma_go_144 rfl ?_
                            refine lv_aload_n G.1 G.2.1 d_Ma_go_145 rfl (lv_at hl 0 rfl) ?_
                            refine lv_iload G.1 G.2.1 d_Ma_go_146 (lv_at hl 4 rfl) ?_
                            refine ucVi (As := [.int x5j121]) (rest := []) G hP hD hS (cu_Ma_plan l D g ad y_42 _ s_41 a0 x5j121 H.size h_a0 h) w9_Ma_plan q1789 ⟨Nat.le_of_ble_eq_true rfl, Nat.le_of_ble_eq_true rfl⟩ rfl rfl h_a0 (q := (RMa, TMa, 19)) rfl rfl hl.1 rfl (Nat.le_of_ble_eq_true rfl) rfl hd d_Ma_go_148 (fun r_48 s_49 H locs h hP hD hS => ?_)
                            refine lv_istore (lv' := [(4, .int r_48), (0, .ref (ad a0)), (1, .int x1j121), (2, .int x2j121), (3, .int x3j121), (5, .int x5j121), (6, .int x6j121)]) G.1 G.2.1 d_Ma_go_151 hl (by decide) rfl (fun ls hl => ?_)
                            exact J_153 y_42 s_49 (d_j121 + d_43) (e_j121 + e_44) x1j121 x2j121 x3j121 r_48 x5j121 x6j121 H locs h hP hD hS ls (lv_sub hl [1, 2, 3, 4, 0, 5, 6] rfl)
                        refine lv_if_eq (tgt := 120) G.1 G.2.1 d_Ma_go_108 (by decide) (fun c108 => ?_) (fun c108 => ?_)
                        · skip
                          have h := h.1 c108
                          refine lv_iconst (v := 0) G.1 G.2.1 d_Ma_go_120 (by decide) ?_
                          exact J_121 y_h76 s_35 d_h76 e_h76 x1h76 x2h76 x3h76 (((sV s_h76 a0 8) + x6h76) - ((sV s_h76 a0 8) + x6h76) / 3 * 3) x6h76 0 H locs h hP hD hS ls (lv_sub hl [1, 2, 3, 4, 0, 6] rfl)
                        · skip
                          have h := h.2 c108
                          refine lv_aload_n G.1 G.2.1 d_Ma_go_111 rfl (lv_at hl 1 rfl) ?_
                          refine lv_iload G.1 G.2.1 d_Ma_go_112 (lv_at hl 0 rfl) ?_
                          refine ucVi (As := [.int (((sV s_h76 a0 8) + x6h76) - ((sV s_h76 a0 8) + x6h76) / 3 * 3)]) (rest := []) G hP hD hS (cu_Ma_plan l D g ad y_h76 _ s_35 a0 (((sV s_h76 a0 8) + x6h76) - ((sV s_h76 a0 8) + x6h76) / 3 * 3) H.size h_a0 h) w9_Ma_plan q1789 ⟨Nat.le_of_ble_eq_true rfl, Nat.le_of_ble_eq_true rfl⟩ rfl rfl h_a0 (q := (RMa, TMa, 19)) rfl rfl hl.1 rfl (Nat.le_of_ble_eq_true rfl) rfl hd d_Ma_go_114 (fun r_50 s_51 H locs h hP hD hS => ?_)
                          refine lv_goto (tgt := 121) G.1 G.2.1 d_Ma_go_117 (by decide) ?_
                          exact J_121 y_h76 s_51 d_h76 e_h76 x1h76 x2h76 x3h76 (((sV s_h76 a0 8) + x6h76) - ((sV s_h76 a0 8) + x6h76) / 3 * 3) x6h76 r_50 H locs h hP hD hS ls (lv_sub hl [1, 2, 3, 4, 0, 6] rfl)
                exact L_76 _ y_j74 s_j74 d_j74 e_j74 x1j74 x2j74 x3j74 x4j74 x5j74 z0j74 (Nat.lt_succ_self _) hI_76 H locs hP hD hS ls (lv_sub hl [1, 2, 3, 4, 5, 6, 0] rfl)
              refine lv_if_eq (tgt := 73) G.1 G.2.1 d_Ma_go_66 (by decide) (fun c66 => ?_) (fun c66 => ?_)
              · skip
                have h := h.1 c66
                refine lv_iconst (v := 0) G.1 G.2.1 d_Ma_go_73 (by decide) ?_
                exact J_74 y_j55 s_j55 d_j55 e_j55 x1j55 x2j55 z0j55 0 (sV s_j55 a0 8) 0 H locs h hP hD hS ls (lv_sub hl [3, 4, 5, 2, 1, 0] rfl)
              · skip
                have h := h.2 c66
                refine lv_iconst (v := 1) G.1 G.2.1 d_Ma_go_69 (by decide) ?_
                refine lv_goto (tgt := 74) G.1 G.2.1 d_Ma_go_70 (by decide) ?_
                exact J_74 y_j55 s_j55 d_j55 e_j55 x1j55 x2j55 z0j55 0 (sV s_j55 a0 8) 1 H locs h hP hD hS ls (lv_sub hl [3, 4, 5, 2, 1, 0] rfl)
            have J_50 : ∀ (y_j50 : Ly) (s_j50 : St) (d_j50 e_j50 : Nat) (x1j50 : Int32) (x2j50 : Int32) (H : Heap) (locs : List Loc), wja_Ma_go_50 mc ms Post K_7 a0 y_j50 s_j50 d_j50 e_j50 x1j50 x2j50 → va_P D CL (ws g ad y_j50 s_j50) H → va_D A (ws g ad y_j50 s_j50) → va_S A s.heap H locs → ∀ ls, lv_has ls 7 [(0, .ref (ad a0)), (1, .int x1j50), (2, .int x2j50)] → W p l e (ra_Ma_go mc ms) s m args below meth c H locs d_j50 e_j50 Q (F0 m 50 ls []) := by
              intro y_j50 s_j50 d_j50 e_j50 x1j50 x2j50 H locs h hP hD hS ls hl
              unfold wja_Ma_go_50 at h
              obtain ⟨hd, h⟩ := h
              refine lv_iconst (v := 1) G.1 G.2.1 d_Ma_go_50 (by decide) ?_
              refine lv_goto (tgt := 55) G.1 G.2.1 d_Ma_go_51 (by decide) ?_
              exact J_55 y_j50 s_j50 d_j50 e_j50 x1j50 x2j50 1 H locs h hP hD hS ls (lv_sub hl [0, 1, 2] rfl)
            refine lv_if_ne (tgt := 50) G.1 G.2.1 d_Ma_go_36 (by decide) (fun c36 => ?_) (fun c36 => ?_)
            · skip
              have h := h.1 c36
              exact J_50 y_h7 s_3 d_h7 e_h7 x1h7 x2h7 H locs h hP hD hS ls (lv_sub hl [0, 1, 2] rfl)
            · skip
              have h := h.2 c36
              refine lv_aload_n G.1 G.2.1 d_Ma_go_39 rfl (lv_at hl 0 rfl) ?_
              refine ugf (v := .int (sV s_3 a0 11)) G hP h_a0 iMa rfl 11 (by decide) rfl q1087 rfl rfl d_Ma_go_40 ?_
              refine lv_aload_n G.1 G.2.1 d_Ma_go_43 rfl (lv_at hl 0 rfl) ?_
              refine ugf (v := .int (sV s_3 a0 12)) G hP h_a0 iMa rfl 12 (by decide) rfl q1088 rfl rfl d_Ma_go_44 ?_
              refine lv_icmp_lt (tgt := 54) G.1 G.2.1 d_Ma_go_47 (by decide) (fun c47 => ?_) (fun c47 => ?_)
              · skip
                have h := h.1 c47
                refine lv_iconst (v := 0) G.1 G.2.1 d_Ma_go_54 (by decide) ?_
                exact J_55 y_h7 s_3 d_h7 e_h7 x1h7 x2h7 0 H locs h hP hD hS ls (lv_sub hl [0, 1, 2] rfl)
              · skip
                have h := h.2 c47
                exact J_50 y_h7 s_3 d_h7 e_h7 x1h7 x2h7 H locs h hP hD hS ls (lv_sub hl [0, 1, 2] rfl)
          · skip
            have h := h.2 c27
            refine lv_iconst (v := 1) G.1 G.2.1 d_Ma_go_30 (by decide) ?_
            refine W.eq (g2 := F0 m 31 ls [.int 1]) rfl ?_
            exact hret _ (y_h7, s_3, d_h7, e_h7) _ _ _ _ _ ls h hP hD hS (Nat.le_refl _) (Nat.le_refl _) hd.1 hd.2 d_Ma_go_31
        · skip
          have h := h.2 c17
          refine lv_iconst (v := 0) G.1 G.2.1 d_Ma_go_20 (by decide) ?_
          exact hret _ (y_h7, s_3, d_h7, e_h7) _ _ _ _ _ ls h hP hD hS (Nat.le_refl _) (Nat.le_refl _) hd.1 hd.2 d_Ma_go_21
  exact L_7 _ y s_1 0 0 v1 0 (Nat.lt_succ_self _) hI_7 H locs hP hD hS ls (lv_sub hl [1, 2, 0] rfl)
theorem q1779 : Cond.methodLink "ClassWorks" 233 y_Ma_anyRun ∈ lw_ok := lw_okmem (List.mem_of_getElem? (i := 1779) (by decide +kernel)) rfl
theorem q1782 : Cond.code y_Ma_anyRun b_Ma_anyRun 1 (some (.boolean)) ∈ lw_ok := lw_okmem (List.mem_of_getElem? (i := 1782) (by decide +kernel)) rfl
theorem q1780 : Cond.instanceMethod y_Ma_anyRun ∈ lw_ok := lw_okmem (List.mem_of_getElem? (i := 1780) (by decide +kernel)) rfl
theorem q1781 : Cond.selects y_Ma_anyRun.cls y_Ma_anyRun y_Ma_anyRun ∈ lw_ok := lw_okmem (List.mem_of_getElem? (i := 1781) (by decide +kernel)) rfl
theorem w9_Ma_anyRun : CWv y_Ma_anyRun b_Ma_anyRun 1 (some (.boolean)) 0 ∧ Cond.instanceMethod y_Ma_anyRun ∈ lw_ok ∧ Cond.selects y_Ma_anyRun.cls y_Ma_anyRun y_Ma_anyRun ∈ lw_ok := ⟨⟨q1782, q344, by decide +kernel, by decide +kernel, by decide +kernel⟩, q1780, q1781⟩
theorem q1783 : Cond.methodLink "ClassWorks" 236 y_Ma_howManyOn ∈ lw_ok := lw_okmem (List.mem_of_getElem? (i := 1783) (by decide +kernel)) rfl
theorem q1784 : Cond.methodLink "ClassWorks" 239 y_Ma_go ∈ lw_ok := lw_okmem (List.mem_of_getElem? (i := 1784) (by decide +kernel)) rfl
theorem q1787 : Cond.code y_Ma_go b_Ma_go 7 (some .int) ∈ lw_ok := lw_okmem (List.mem_of_getElem? (i := 1787) (by decide +kernel)) rfl
theorem q1785 : Cond.instanceMethod y_Ma_go ∈ lw_ok := lw_okmem (List.mem_of_getElem? (i := 1785) (by decide +kernel)) rfl
theorem q1786 : Cond.selects y_Ma_go.cls y_Ma_go y_Ma_go ∈ lw_ok := lw_okmem (List.mem_of_getElem? (i := 1786) (by decide +kernel)) rfl
theorem w9_Ma_go : CWv y_Ma_go b_Ma_go 7 (some .int) 1 ∧ Cond.instanceMethod y_Ma_go ∈ lw_ok ∧ Cond.selects y_Ma_go.cls y_Ma_go y_Ma_go ∈ lw_ok := ⟨⟨q1787, q344, by decide +kernel, by decide +kernel, by decide +kernel⟩, q1785, q1786⟩
def y_Cw_step : MethodName := ⟨"ClassWorks", "step", "(II)I"⟩
abbrev b_Cw_step : ByteArray := prog_1_method_23_code
theorem q1086 : Cond.fieldLink "ClassWorks" 242 "ClassWorks$Machine" "stepsDone" "I" ∈ lw_ok := lw_okmem (List.mem_of_getElem? (i := 1086) (by decide +kernel)) rfl
theorem d_Cw_step_0 : decode b_Cw_step 0 = .ok (.aload_n 0, 1) := by decide +kernel
theorem d_Cw_step_1 : decode b_Cw_step 1 = .ok (.iload_n 1, 1) := by decide +kernel
theorem d_Cw_step_2 : decode b_Cw_step 2 = .ok (.invokevirtual 129, 3) := by decide +kernel
theorem d_Cw_step_5 : decode b_Cw_step 5 = .ok (.astore_n 3, 1) := by decide +kernel
theorem d_Cw_step_6 : decode b_Cw_step 6 = .ok (.aload_n 3, 1) := by decide +kernel
theorem d_Cw_step_7 : decode b_Cw_step 7 = .ok (.ifnull 15, 3) := by decide +kernel
theorem d_Cw_step_10 : decode b_Cw_step 10 = .ok (.iload_n 2, 1) := by decide +kernel
theorem d_Cw_step_11 : decode b_Cw_step 11 = .ok (.iconst 1, 1) := by decide +kernel
theorem d_Cw_step_12 : decode b_Cw_step 12 = .ok (.if_icmp .lt 10, 3) := by decide +kernel
theorem d_Cw_step_15 : decode b_Cw_step 15 = .ok (.iload_n 2, 1) := by decide +kernel
theorem d_Cw_step_16 : decode b_Cw_step 16 = .ok (.sipush 4000, 3) := by decide +kernel
theorem d_Cw_step_19 : decode b_Cw_step 19 = .ok (.if_icmp .le 5, 3) := by decide +kernel
theorem d_Cw_step_22 : decode b_Cw_step 22 = .ok (.iconst (-1), 1) := by decide +kernel
theorem d_Cw_step_23 : decode b_Cw_step 23 = .ok (.ireturn, 1) := by decide +kernel
theorem d_Cw_step_24 : decode b_Cw_step 24 = .ok (.aload_n 3, 1) := by decide +kernel
theorem d_Cw_step_25 : decode b_Cw_step 25 = .ok (.invokevirtual 233, 3) := by decide +kernel
theorem d_Cw_step_28 : decode b_Cw_step 28 = .ok (.ifCond .ne 6, 3) := by decide +kernel
theorem d_Cw_step_31 : decode b_Cw_step 31 = .ok (.bipush (-2), 2) := by decide +kernel
theorem d_Cw_step_33 : decode b_Cw_step 33 = .ok (.ireturn, 1) := by decide +kernel
theorem d_Cw_step_34 : decode b_Cw_step 34 = .ok (.aload_n 3, 1) := by decide +kernel
theorem d_Cw_step_35 : decode b_Cw_step 35 = .ok (.invokevirtual 236, 3) := by decide +kernel
theorem d_Cw_step_38 : decode b_Cw_step 38 = .ok (.ifCond .le 14, 3) := by decide +kernel
theorem d_Cw_step_41 : decode b_Cw_step 41 = .ok (.aload_n 0, 1) := by decide +kernel
theorem d_Cw_step_42 : decode b_Cw_step 42 = .ok (.getfield 29, 3) := by decide +kernel
theorem d_Cw_step_45 : decode b_Cw_step 45 = .ok (.iload_n 2, 1) := by decide +kernel
theorem d_Cw_step_46 : decode b_Cw_step 46 = .ok (.if_icmp .ge 6, 3) := by decide +kernel
theorem d_Cw_step_49 : decode b_Cw_step 49 = .ok (.bipush (-3), 2) := by decide +kernel
theorem d_Cw_step_51 : decode b_Cw_step 51 = .ok (.ireturn, 1) := by decide +kernel
theorem d_Cw_step_52 : decode b_Cw_step 52 = .ok (.aload_n 3, 1) := by decide +kernel
theorem d_Cw_step_53 : decode b_Cw_step 53 = .ok (.iload_n 2, 1) := by decide +kernel
theorem d_Cw_step_54 : decode b_Cw_step 54 = .ok (.invokevirtual 239, 3) := by decide +kernel
theorem d_Cw_step_57 : decode b_Cw_step 57 = .ok (.istore 4, 2) := by decide +kernel
theorem d_Cw_step_59 : decode b_Cw_step 59 = .ok (.aload_n 0, 1) := by decide +kernel
theorem d_Cw_step_60 : decode b_Cw_step 60 = .ok (.dup, 1) := by decide +kernel
theorem d_Cw_step_61 : decode b_Cw_step 61 = .ok (.getfield 29, 3) := by decide +kernel
theorem d_Cw_step_64 : decode b_Cw_step 64 = .ok (.aload_n 3, 1) := by decide +kernel
theorem d_Cw_step_65 : decode b_Cw_step 65 = .ok (.getfield 242, 3) := by decide +kernel
theorem d_Cw_step_68 : decode b_Cw_step 68 = .ok (.isub, 1) := by decide +kernel
theorem d_Cw_step_69 : decode b_Cw_step 69 = .ok (.putfield 29, 3) := by decide +kernel
theorem d_Cw_step_72 : decode b_Cw_step 72 = .ok (.iload 4, 2) := by decide +kernel
theorem d_Cw_step_74 : decode b_Cw_step 74 = .ok (.ireturn, 1) := by decide +kernel
abbrev ra_Cw_step (mc ms : Nat) : Room := { frames := 9, cells := mc, slots := ms, locals := 526 }
def wja_Cw_step_22 (mc ms : Nat) (Post : Ly → St → Int32 → Nat → Nat → Prop) (a0 : Nat) (y_j22 : Ly) (s_j22 : St) (d_j22 e_j22 : Nat) : Prop := (d_j22 ≤ mc ∧ e_j22 ≤ ms) ∧ Post y_j22 s_j22 (-1) d_j22 e_j22
def wja_Cw_step_52 (mc ms : Nat) (Post : Ly → St → Int32 → Nat → Nat → Prop) (a0 : Nat) (y_j52 : Ly) (s_j52 : St) (d_j52 e_j52 : Nat) (x2j52 : Int32) (x3j52 : Nat) : Prop := (d_j52 ≤ mc ∧ e_j52 ≤ ms) ∧ cl x3j52 = 4 ∧ ∃ mc_12 ms_13 : Nat, (d_j52 + mc_12 ≤ mc ∧ e_j52 + ms_13 ≤ ms) ∧ wa_Ma_go mc_12 ms_13 y_j52 (fun (y_9 : Ly) (s_8 : St) (r_7 : Int32) (d_10 e_11 : Nat) => (d_j52 + d_10 ≤ mc ∧ e_j52 + e_11 ≤ ms) ∧ xP (uV s_8 a0 9 ((sV s_8 a0 9) - (sV s_8 x3j52 10))) (fun s_15 : St => Post y_9 s_15 r_7 (d_j52 + d_10) (e_j52 + e_11))) s_j52 x3j52 x2j52
def wa_Cw_step (mc ms : Nat) (y : Ly) (Post : Ly → St → Int32 → Nat → Nat → Prop) (σ : St) (a0 : Nat) (v1 : Int32) (v2 : Int32) : Prop := wu_Cw_machine y (fun (s_2 : St) (r_1 : Option Nat) => ((r_1 = none → wja_Cw_step_22 mc ms Post a0 y s_2 0 0) ∧ (∀ r_1b : Nat, r_1 = some r_1b → (cl r_1b = 4 ∧ ((v2 < 1 → wja_Cw_step_22 mc ms Post a0 y s_2 0 0) ∧ (¬ (v2 < 1) → ((v2 ≤ 4000 → wu_Ma_anyRun y (fun (s_4 : St) (r_3 : Int32) => ((¬ r_3 = 0 → wu_Ma_howManyOn y (fun (s_6 : St) (r_5 : Int32) => ((r_5 ≤ 0 → wja_Cw_step_52 mc ms Post a0 y s_6 0 0 v2 r_1b) ∧ (¬ (r_5 ≤ 0) → ((v2 ≤ (sV s_6 a0 9) → wja_Cw_step_52 mc ms Post a0 y s_6 0 0 v2 r_1b) ∧ (¬ (v2 ≤ (sV s_6 a0 9)) → Post y s_6 (-3) 0 0))))) s_4 r_1b) ∧ (r_3 = 0 → Post y s_4 (-2) 0 0))) s_2 r_1b) ∧ (¬ (v2 ≤ 4000) → wja_Cw_step_22 mc ms Post a0 y s_2 0 0)))))))) σ a0 v1
set_option maxHeartbeats 4000000 in
set_option maxRecDepth 100000 in
theorem ca_Cw_step (l : Launch) (D : va_G) (g : Nat → ClassId) (F : Nat → SL) (sl : List SL) (hF : SOK F sl) (ad : Nat → Nat) (mc ms : Nat) (y : Ly) (Post : Ly → St → Int32 → Nat → Nat → Prop) (σ : St) (a0 : Nat) (v1 : Int32) (v2 : Int32) (sz uz : Nat) (h_a0 : cl a0 = 11) (h : wa_Cw_step mc ms y Post σ a0 v1 v2) : Met l y_Cw_step (mw y_Cw_step b_Cw_step 5 (some .int)) (ra_Cw_step mc ms) (PCu g D sl [.ref (ad a0), .int v1, .int v2] sz uz (ws g ad y σ)) (va_Qi (fun (r : Int32) (u : Ly × St × Nat × Nat) => Post u.1 u.2.1 r u.2.2.1 u.2.2.2) (QU D (va_A (ws g ad y σ) sz) (fun u => ws g ad u.1 u.2.1) sz uz (fun u => u.2.2.1) (fun u => u.2.2.2)) (va_A (ws g ad y σ) sz)) mc ms (va_A (ws g ad y σ) sz) := by
  refine ofIu (by decide +kernel) (Nat.le_of_ble_eq_true rfl) ?_
  intro p e s m args below meth c A Q ls H locs G hsz hP hD hS hl hret
  subst hsz
  have hl : lv_has ls 5 [(0, .ref (ad a0)), (1, .int v1), (2, .int v2)] := hl
  have hd : 0 ≤ mc ∧ 0 ≤ ms := ⟨Nat.zero_le _, Nat.zero_le _⟩
  unfold wa_Cw_step at h
  refine lv_aload_n G.1 G.2.1 d_Cw_step_0 rfl (lv_at hl 0 rfl) ?_
  refine lv_iload_n G.1 G.2.1 d_Cw_step_1 rfl (lv_at hl 1 rfl) ?_
  refine ucVq (As := [.int v1]) (rest := []) G hP hD hS (cu_Cw_machine l D g ad y _ σ a0 v1 H.size h_a0 h) w9_Cw_machine q1248 ⟨Nat.le_of_ble_eq_true rfl, Nat.le_of_ble_eq_true rfl⟩ rfl rfl h_a0 (q := (RCw, TCw, 20)) rfl rfl hl.1 rfl (Nat.le_of_ble_eq_true rfl) rfl hd d_Cw_step_2 (fun r_1 s_2 H locs h hP hD hS => ?_)
  rcases r_1 with _ | r_1b
  · skip
    have h := h.1 rfl
    show W p l e (ra_Cw_step mc ms) s m args below meth c H locs 0 0 Q (F0 m 5 ls [.null])
    refine lv_astore_nN (lv' := [(3, .null), (0, .ref (ad a0)), (1, .int v1), (2, .int v2)]) G.1 G.2.1 d_Cw_step_5 rfl hl (by decide) rfl (fun ls hl => ?_)
    refine lv_aload_nN G.1 G.2.1 d_Cw_step_6 rfl (lv_at hl 0 rfl) ?_
    have J_22 : ∀ (y_j22 : Ly) (s_j22 : St) (d_j22 e_j22 : Nat) (H : Heap) (locs : List Loc), wja_Cw_step_22 mc ms Post a0 y_j22 s_j22 d_j22 e_j22 → va_P D CL (ws g ad y_j22 s_j22) H → va_D A (ws g ad y_j22 s_j22) → va_S A s.heap H locs → ∀ ls, lv_has ls 5 [] → W p l e (ra_Cw_step mc ms) s m args below meth c H locs d_j22 e_j22 Q (F0 m 22 ls []) := by
      intro y_j22 s_j22 d_j22 e_j22 H locs h hP hD hS ls hl
      unfold wja_Cw_step_22 at h
      obtain ⟨hd, h⟩ := h
      refine lv_iconst (v := (-1)) G.1 G.2.1 d_Cw_step_22 (by decide) ?_
      exact hret _ (y_j22, s_j22, d_j22, e_j22) _ _ _ _ _ ls h hP hD hS (Nat.le_refl _) (Nat.le_refl _) hd.1 hd.2 d_Cw_step_23
    refine lv_ifnullN (tgt := 22) G.1 G.2.1 d_Cw_step_7 (by decide) ?_
    exact J_22 y s_2 0 0 H locs h hP hD hS ls (lv_sub hl [] rfl)
  · skip
    obtain ⟨c_r_1b, h⟩ := h.2 _ rfl
    show W p l e (ra_Cw_step mc ms) s m args below meth c H locs 0 0 Q (F0 m 5 ls [.ref (ad r_1b)])
    refine lv_astore_n (lv' := [(3, .ref (ad r_1b)), (0, .ref (ad a0)), (1, .int v1), (2, .int v2)]) G.1 G.2.1 d_Cw_step_5 rfl hl (by decide) rfl (fun ls hl => ?_)
    refine lv_aload_n G.1 G.2.1 d_Cw_step_6 rfl (lv_at hl 0 rfl) ?_
    have J_22 : ∀ (y_j22 : Ly) (s_j22 : St) (d_j22 e_j22 : Nat) (H : Heap) (locs : List Loc), wja_Cw_step_22 mc ms Post a0 y_j22 s_j22 d_j22 e_j22 → va_P D CL (ws g ad y_j22 s_j22) H → va_D A (ws g ad y_j22 s_j22) → va_S A s.heap H locs → ∀ ls, lv_has ls 5 [] → W p l e (ra_Cw_step mc ms) s m args below meth c H locs d_j22 e_j22 Q (F0 m 22 ls []) := by
      intro y_j22 s_j22 d_j22 e_j22 H locs h hP hD hS ls hl
      unfold wja_Cw_step_22 at h
      obtain ⟨hd, h⟩ := h
      refine lv_iconst (v := (-1)) G.1 G.2.1 d_Cw_step_22 (by decide) ?_
      exact hret _ (y_j22, s_j22, d_j22, e_j22) _ _ _ _ _ ls h hP hD hS (Nat.le_refl _) (Nat.le_refl _) hd.1 hd.2 d_Cw_step_23
    refine lv_ifnull G.1 G.2.1 d_Cw_step_7 ?_
    refine lv_iload_n G.1 G.2.1 d_Cw_step_10 rfl (lv_at hl 3 rfl) ?_
    refine lv_iconst (v := 1) G.1 G.2.1 d_Cw_step_11 (by decide) ?_
    refine lv_icmp_lt (tgt := 22) G.1 G.2.1 d_Cw_step_12 (by decide) (fun c12 => ?_) (fun c12 => ?_)
    · skip
      have h := h.1 c12
      exact J_22 y s_2 0 0 H locs h hP hD hS ls (lv_sub hl [] rfl)
    · skip
      have h := h.2 c12
      refine lv_iload_n G.1 G.2.1 d_Cw_step_15 rfl (lv_at hl 3 rfl) ?_
      refine lv_sipush (v := 4000) G.1 G.2.1 d_Cw_step_16 (by decide) ?_
      refine W.eq (g2 := F0 m 19 ls [.int 4000, .int v2]) rfl ?_
      refine lv_icmp_le (tgt := 24) G.1 G.2.1 d_Cw_step_19 (by decide) (fun c19 => ?_) (fun c19 => ?_)
      · skip
        have h := h.1 c19
        refine lv_aload_n G.1 G.2.1 d_Cw_step_24 rfl (lv_at hl 0 rfl) ?_
        refine ucVi (As := []) (rest := []) G hP hD hS (cu_Ma_anyRun l D g ad y _ s_2 r_1b H.size c_r_1b h) w9_Ma_anyRun q1779 ⟨Nat.le_of_ble_eq_true rfl, Nat.le_of_ble_eq_true rfl⟩ rfl rfl c_r_1b (q := (RMa, TMa, 19)) rfl rfl hl.1 rfl (Nat.le_of_ble_eq_true rfl) rfl hd d_Cw_step_25 (fun r_3 s_4 H locs h hP hD hS => ?_)
        refine lv_if_ne (tgt := 34) G.1 G.2.1 d_Cw_step_28 (by decide) (fun c28 => ?_) (fun c28 => ?_)
        · skip
          have h := h.1 c28
          refine lv_aload_n G.1 G.2.1 d_Cw_step_34 rfl (lv_at hl 0 rfl) ?_
          refine ucVi (As := []) (rest := []) G hP hD hS (cu_Ma_howManyOn l D g ad y _ s_4 r_1b H.size c_r_1b h) w9_Ma_howManyOn q1783 ⟨Nat.le_of_ble_eq_true rfl, Nat.le_of_ble_eq_true rfl⟩ rfl rfl c_r_1b (q := (RMa, TMa, 19)) rfl rfl hl.1 rfl (Nat.le_of_ble_eq_true rfl) rfl hd d_Cw_step_35 (fun r_5 s_6 H locs h hP hD hS => ?_)
          have J_52 : ∀ (y_j52 : Ly) (s_j52 : St) (d_j52 e_j52 : Nat) (x2j52 : Int32) (x3j52 : Nat) (H : Heap) (locs : List Loc), wja_Cw_step_52 mc ms Post a0 y_j52 s_j52 d_j52 e_j52 x2j52 x3j52 → va_P D CL (ws g ad y_j52 s_j52) H → va_D A (ws g ad y_j52 s_j52) → va_S A s.heap H locs → ∀ ls, lv_has ls 5 [(0, .ref (ad a0)), (2, .int x2j52), (3, .ref (ad x3j52))] → W p l e (ra_Cw_step mc ms) s m args below meth c H locs d_j52 e_j52 Q (F0 m 52 ls []) := by
            intro y_j52 s_j52 d_j52 e_j52 x2j52 x3j52 H locs h hP hD hS ls hl
            unfold wja_Cw_step_52 at h
            obtain ⟨hd, h⟩ := h
            obtain ⟨c_x3j52, h⟩ := h
            refine lv_aload_n G.1 G.2.1 d_Cw_step_52 rfl (lv_at hl 2 rfl) ?_
            refine lv_iload_n G.1 G.2.1 d_Cw_step_53 rfl (lv_at hl 1 rfl) ?_
            obtain ⟨mc_12, ms_13, hr_14, h⟩ := h
            refine utVi (As := [.int x2j52]) (rest := []) G hP hD hS (ca_Ma_go l D g F sl hF ad mc_12 ms_13 y_j52 _ s_j52 x3j52 x2j52 H.size (us H) c_x3j52 h) w9_Ma_go q1784 ⟨Nat.le_of_ble_eq_true rfl, Nat.le_of_ble_eq_true rfl⟩ rfl rfl c_x3j52 (q := (RMa, TMa, 19)) rfl rfl hl.1 rfl (Nat.le_of_ble_eq_true rfl) rfl hr_14 d_Cw_step_54 (fun r_7 y_9 s_8 d_10 e_11 H locs h hP hD hS => ?_)
            have hl := lv_sub (l' := [(0, .ref (ad a0)), (3, .ref (ad x3j52))]) hl [0, 2] rfl
            obtain ⟨hd, h⟩ := h
            refine lv_istore (lv' := [(4, .int r_7), (0, .ref (ad a0)), (3, .ref (ad x3j52))]) G.1 G.2.1 d_Cw_step_57 hl (by decide) rfl (fun ls hl => ?_)
            refine lv_aload_n G.1 G.2.1 d_Cw_step_59 rfl (lv_at hl 1 rfl) ?_
            refine lv_dup G.1 G.2.1 d_Cw_step_60 rfl ?_
            refine ugf (v := .int (sV s_8 a0 9)) G hP h_a0 iCw rfl 9 (by decide) rfl q1143 rfl rfl d_Cw_step_61 ?_
            refine lv_aload_n G.1 G.2.1 d_Cw_step_64 rfl (lv_at hl 2 rfl) ?_
            refine ugf (v := .int (sV s_8 x3j52 10)) G hP c_x3j52 iMa rfl 10 (by decide) rfl q1086 rfl rfl d_Cw_step_65 ?_
            refine lv_isub G.1 G.2.1 d_Cw_step_68 ?_
            refine upf G hP hD hS h 9 putV h_a0 iCw tCw tCw_ok nCw rfl (by decide) rfl q1143 rfl rfl fV rfl rfl d_Cw_step_69 (fun s_15 H locs h hP hD hS => ?_)
            refine W.eq (g2 := F0 m 72 ls []) rfl ?_
            refine lv_iload G.1 G.2.1 d_Cw_step_72 (lv_at hl 0 rfl) ?_
            exact hret _ (y_9, s_15, d_j52 + d_10, e_j52 + e_11) _ _ _ _ _ ls h hP hD hS (Nat.le_refl _) (Nat.le_refl _) hd.1 hd.2 d_Cw_step_74
          refine lv_if_le (tgt := 52) G.1 G.2.1 d_Cw_step_38 (by decide) (fun c38 => ?_) (fun c38 => ?_)
          · skip
            have h := h.1 c38
            exact J_52 y s_6 0 0 v2 r_1b H locs h hP hD hS ls (lv_sub hl [1, 3, 0] rfl)
          · skip
            have h := h.2 c38
            refine lv_aload_n G.1 G.2.1 d_Cw_step_41 rfl (lv_at hl 1 rfl) ?_
            refine ugf (v := .int (sV s_6 a0 9)) G hP h_a0 iCw rfl 9 (by decide) rfl q1143 rfl rfl d_Cw_step_42 ?_
            refine lv_iload_n G.1 G.2.1 d_Cw_step_45 rfl (lv_at hl 3 rfl) ?_
            refine lv_icmp_ge (tgt := 52) G.1 G.2.1 d_Cw_step_46 (by decide) (fun c46 => ?_) (fun c46 => ?_)
            · skip
              have h := h.1 c46
              exact J_52 y s_6 0 0 v2 r_1b H locs h hP hD hS ls (lv_sub hl [1, 3, 0] rfl)
            · skip
              have h := h.2 c46
              refine lv_bipush (v := (-3)) G.1 G.2.1 d_Cw_step_49 (by decide) ?_
              refine W.eq (g2 := F0 m 51 ls [.int (-3)]) rfl ?_
              exact hret _ (y, s_6, 0, 0) _ _ _ _ _ ls h hP hD hS (Nat.le_refl _) (Nat.le_refl _) hd.1 hd.2 d_Cw_step_51
        · skip
          have h := h.2 c28
          refine lv_bipush (v := (-2)) G.1 G.2.1 d_Cw_step_31 (by decide) ?_
          exact hret _ (y, s_4, 0, 0) _ _ _ _ _ ls h hP hD hS (Nat.le_refl _) (Nat.le_refl _) hd.1 hd.2 d_Cw_step_33
      · skip
        have h := h.2 c19
        exact J_22 y s_2 0 0 H locs h hP hD hS ls (lv_sub hl [] rfl)
def y_Wr_beginLine : MethodName := ⟨"ClassWorks$Writer", "beginLine", "(I)V"⟩
abbrev b_Wr_beginLine : ByteArray := prog_12_method_3_code
theorem q777 : Cond.fieldLink "ClassWorks$Writer" 27 "ClassWorks$Writer" "open" "Z" ∈ lw_ok := lw_okmem (List.mem_of_getElem? (i := 777) (by decide +kernel)) rfl
theorem q771 : Cond.fieldLink "ClassWorks$Writer" 14 "ClassWorks$Writer" "out" "LClassWorks$Ints;" ∈ lw_ok := lw_okmem (List.mem_of_getElem? (i := 771) (by decide +kernel)) rfl
theorem q2159 : Cond.methodLink "ClassWorks$Writer" 70 y_In_add ∈ lw_ok := lw_okmem (List.mem_of_getElem? (i := 2159) (by decide +kernel)) rfl
theorem d_Wr_beginLine_0 : decode b_Wr_beginLine 0 = .ok (.iconst 0, 1) := by decide +kernel
theorem d_Wr_beginLine_1 : decode b_Wr_beginLine 1 = .ok (.istore_n 2, 1) := by decide +kernel
theorem d_Wr_beginLine_2 : decode b_Wr_beginLine 2 = .ok (.iload_n 2, 1) := by decide +kernel
theorem d_Wr_beginLine_3 : decode b_Wr_beginLine 3 = .ok (.iload_n 1, 1) := by decide +kernel
theorem d_Wr_beginLine_4 : decode b_Wr_beginLine 4 = .ok (.if_icmp .ge 19, 3) := by decide +kernel
theorem d_Wr_beginLine_7 : decode b_Wr_beginLine 7 = .ok (.aload_n 0, 1) := by decide +kernel
theorem d_Wr_beginLine_8 : decode b_Wr_beginLine 8 = .ok (.getfield 14, 3) := by decide +kernel
theorem d_Wr_beginLine_11 : decode b_Wr_beginLine 11 = .ok (.bipush 32, 2) := by decide +kernel
theorem d_Wr_beginLine_13 : decode b_Wr_beginLine 13 = .ok (.invokevirtual 70, 3) := by decide +kernel
theorem d_Wr_beginLine_16 : decode b_Wr_beginLine 16 = .ok (.pop, 1) := by decide +kernel
theorem d_Wr_beginLine_17 : decode b_Wr_beginLine 17 = .ok (.iinc 2 1, 3) := by decide +kernel
theorem d_Wr_beginLine_20 : decode b_Wr_beginLine 20 = .ok (.goto (-18), 3) := by decide +kernel
theorem d_Wr_beginLine_23 : decode b_Wr_beginLine 23 = .ok (.aload_n 0, 1) := by decide +kernel
theorem d_Wr_beginLine_24 : decode b_Wr_beginLine 24 = .ok (.iconst 0, 1) := by decide +kernel
theorem d_Wr_beginLine_25 : decode b_Wr_beginLine 25 = .ok (.putfield 27, 3) := by decide +kernel
theorem d_Wr_beginLine_28 : decode b_Wr_beginLine 28 = .ok (.return_, 1) := by decide +kernel
abbrev ra_Wr_beginLine (mc ms : Nat) : Room := { frames := 5, cells := mc, slots := ms, locals := 421 }
def wba_Wr_beginLine_2 (mc ms : Nat) (Post : Ly → St → Nat → Nat → Prop) (K_2 : Ly → St → Nat → Nat → Int32 → Int32 → Prop) (a0 : Nat) (y_h2 : Ly) (s_h2 : St) (d_h2 e_h2 : Nat) (x1h2 : Int32) (x2h2 : Int32) : Prop := (d_h2 ≤ mc ∧ e_h2 ≤ ms) ∧ ((x1h2 ≤ x2h2 → nb 0 ∧ xP (uV s_h2 a0 5 0) (fun s_2 : St => Post y_h2 s_2 d_h2 e_h2)) ∧ (¬ (x1h2 ≤ x2h2) → ∃ mc_8 ms_9 : Nat, (d_h2 + mc_8 ≤ mc ∧ e_h2 + ms_9 ≤ ms) ∧ wa_In_add mc_8 ms_9 y_h2 (fun (y_5 : Ly) (s_4 : St) (r_3 : Int32) (d_6 e_7 : Nat) => (d_h2 + d_6 ≤ mc ∧ e_h2 + e_7 ≤ ms) ∧ K_2 y_5 s_4 (d_h2 + d_6) (e_h2 + e_7) x1h2 (x2h2 + 1)) s_h2 (lk a0 0) 32))
def wla_Wr_beginLine_2 (mc ms : Nat) (Post : Ly → St → Nat → Nat → Prop) (a0 : Nat) (y_h2 : Ly) (s_h2 : St) (d_h2 e_h2 : Nat) (x1h2 : Int32) (x2h2 : Int32) : Prop := ∃ (I : Ly → St → Nat → Nat → Int32 → Int32 → Prop) (μ : Ly → St → Nat → Nat → Int32 → Int32 → Nat), I y_h2 s_h2 d_h2 e_h2 x1h2 x2h2 ∧ ∀ (u1 : Ly) (u2 : St) (u3 u4 : Nat) (t0 : Int32) (t1 : Int32), I u1 u2 u3 u4 t0 t1 → wba_Wr_beginLine_2 mc ms Post (fun z1 z2 z3 z4 t0q t1q => I z1 z2 z3 z4 t0q t1q ∧ μ z1 z2 z3 z4 t0q t1q < μ u1 u2 u3 u4 t0 t1) a0 u1 u2 u3 u4 t0 t1
def wa_Wr_beginLine (mc ms : Nat) (y : Ly) (Post : Ly → St → Nat → Nat → Prop) (σ : St) (a0 : Nat) (v1 : Int32) : Prop := wla_Wr_beginLine_2 mc ms Post a0 y σ 0 0 v1 0
set_option maxHeartbeats 4000000 in
set_option maxRecDepth 100000 in
theorem ca_Wr_beginLine (l : Launch) (D : va_G) (g : Nat → ClassId) (ad : Nat → Nat) (mc ms : Nat) (y : Ly) (Post : Ly → St → Nat → Nat → Prop) (σ : St) (a0 : Nat) (v1 : Int32) (sz uz : Nat) (h_a0 : cl a0 = 10) (h : wa_Wr_beginLine mc ms y Post σ a0 v1) : Met l y_Wr_beginLine (mw y_Wr_beginLine b_Wr_beginLine 3 (none)) (ra_Wr_beginLine mc ms) (PCu g D [] [.ref (ad a0), .int v1] sz uz (ws g ad y σ)) (va_Qv (fun (u : Ly × St × Nat × Nat) => Post u.1 u.2.1 u.2.2.1 u.2.2.2) (QU D (va_A (ws g ad y σ) sz) (fun u => ws g ad u.1 u.2.1) sz uz (fun u => u.2.2.1) (fun u => u.2.2.2)) (va_A (ws g ad y σ) sz)) mc ms (va_A (ws g ad y σ) sz) := by
  refine ofVu (by decide +kernel) (Nat.le_of_ble_eq_true rfl) ?_
  intro p e s m args below meth c A Q ls H locs G hsz hP hD hS hl hret
  subst hsz
  have hl : lv_has ls 3 [(0, .ref (ad a0)), (1, .int v1)] := hl
  have hd : 0 ≤ mc ∧ 0 ≤ ms := ⟨Nat.zero_le _, Nat.zero_le _⟩
  unfold wa_Wr_beginLine at h
  refine lv_iconst (v := 0) G.1 G.2.1 d_Wr_beginLine_0 (by decide) ?_
  refine lv_istore_n (lv' := [(2, .int 0), (0, .ref (ad a0)), (1, .int v1)]) G.1 G.2.1 d_Wr_beginLine_1 rfl hl (by decide) rfl (fun ls hl => ?_)
  unfold wla_Wr_beginLine_2 at h
  obtain ⟨I_2, μ_2, hI_2, hB_2⟩ := h
  have L_2 : ∀ (n_2 : Nat) (y_h2 : Ly) (s_h2 : St) (d_h2 e_h2 : Nat) (x1h2 : Int32) (x2h2 : Int32), μ_2 y_h2 s_h2 d_h2 e_h2 x1h2 x2h2 < n_2 → I_2 y_h2 s_h2 d_h2 e_h2 x1h2 x2h2 → ∀ (H : Heap) (locs : List Loc), va_P D CL (ws g ad y_h2 s_h2) H → va_D A (ws g ad y_h2 s_h2) → va_S A s.heap H locs → ∀ ls, lv_has ls 3 [(0, .ref (ad a0)), (1, .int x1h2), (2, .int x2h2)] → W p l e (ra_Wr_beginLine mc ms) s m args below meth c H locs d_h2 e_h2 Q (F0 m 2 ls []) := by
    intro n_2
    induction n_2 with
    | zero => intro y_h2 s_h2 d_h2 e_h2 x1h2 x2h2 hμ; exact absurd hμ (Nat.not_lt_zero _)
    | succ n_2 ih_2 =>
      intro y_h2 s_h2 d_h2 e_h2 x1h2 x2h2 hμ_2 hJ H locs hP hD hS ls hl
      obtain ⟨K_2, hK_2, h⟩ : ∃ K : Ly → St → Nat → Nat → Int32 → Int32 → Prop, (∀ z1 z2 z3 z4 (t0 : Int32) (t1 : Int32), K z1 z2 z3 z4 t0 t1 → I_2 z1 z2 z3 z4 t0 t1 ∧ μ_2 z1 z2 z3 z4 t0 t1 < μ_2 y_h2 s_h2 d_h2 e_h2 x1h2 x2h2) ∧ wba_Wr_beginLine_2 mc ms Post K a0 y_h2 s_h2 d_h2 e_h2 x1h2 x2h2 := ⟨_, fun _ _ _ _ _ _ h => h, hB_2 y_h2 s_h2 d_h2 e_h2 x1h2 x2h2 hJ⟩
      unfold wba_Wr_beginLine_2 at h
      obtain ⟨hd, h⟩ := h
      refine lv_iload_n G.1 G.2.1 d_Wr_beginLine_2 rfl (lv_at hl 2 rfl) ?_
      refine lv_iload_n G.1 G.2.1 d_Wr_beginLine_3 rfl (lv_at hl 1 rfl) ?_
      refine lv_icmp_ge (tgt := 23) G.1 G.2.1 d_Wr_beginLine_4 (by decide) (fun c4 => ?_) (fun c4 => ?_)
      · skip
        have h := h.1 c4
        refine lv_aload_n G.1 G.2.1 d_Wr_beginLine_23 rfl (lv_at hl 0 rfl) ?_
        refine lv_iconst (v := 0) G.1 G.2.1 d_Wr_beginLine_24 (by decide) ?_
        obtain ⟨n_1, h⟩ := h
        refine upf G hP hD hS h 5 putV h_a0 iWr tWr tWr_ok nWr rfl (by decide) rfl q777 rfl rfl fV (nb_n n_1) (nb_f n_1) d_Wr_beginLine_25 (fun s_2 H locs h hP hD hS => ?_)
        exact hret (y_h2, s_2, d_h2, e_h2) _ _ _ _ _ ls h hP hD hS (Nat.le_refl _) (Nat.le_refl _) hd.1 hd.2 d_Wr_beginLine_28
      · skip
        have h := h.2 c4
        refine lv_aload_n G.1 G.2.1 d_Wr_beginLine_7 rfl (lv_at hl 0 rfl) ?_
        refine ugf (v := .ref (ad (lk a0 0))) G hP h_a0 iWr rfl 0 (by decide) rfl q771 rfl rfl d_Wr_beginLine_8 ?_
        refine lv_bipush (v := 32) G.1 G.2.1 d_Wr_beginLine_11 (by decide) ?_
        obtain ⟨mc_8, ms_9, hr_10, h⟩ := h
        refine uaVi (As := [.int 32]) (rest := []) G hP hD hS (ca_In_add l D g [] ad mc_8 ms_9 y_h2 _ s_h2 (lk a0 0) 32 H.size (us H) (lk_10_0 h_a0) h) w9_In_add q2159 ⟨Nat.le_of_ble_eq_true rfl, Nat.le_of_ble_eq_true rfl⟩ rfl rfl (lk_10_0 h_a0) (q := (RIn, TIn, 2)) rfl rfl hl.1 rfl (Nat.le_of_ble_eq_true rfl) rfl hr_10 d_Wr_beginLine_13 (fun r_3 y_5 s_4 d_6 e_7 H locs h hP hD hS => ?_)
        obtain ⟨hd, h⟩ := h
        refine lv_pop G.1 G.2.1 d_Wr_beginLine_16 rfl ?_
        refine lv_iinc (v := x2h2 + 1) (lv' := [(2, .int (x2h2 + 1)), (0, .ref (ad a0)), (1, .int x1h2)]) G.1 G.2.1 d_Wr_beginLine_17 hl (k := 2) rfl rfl (by decide) rfl (fun ls hl => ?_)
        refine lv_goto (tgt := 2) G.1 G.2.1 d_Wr_beginLine_20 (by decide) ?_
        have h := hK_2 y_5 s_4 (d_h2 + d_6) (e_h2 + e_7) x1h2 (x2h2 + 1) h
        exact ih_2 y_5 s_4 (d_h2 + d_6) (e_h2 + e_7) x1h2 (x2h2 + 1) (Nat.lt_of_lt_of_le h.2 (Nat.le_of_lt_succ hμ_2)) h.1 H locs hP hD hS ls (lv_sub hl [1, 2, 0] rfl)
  exact L_2 _ y σ 0 0 v1 0 (Nat.lt_succ_self _) hI_2 H locs hP hD hS ls (lv_sub hl [1, 2, 0] rfl)
