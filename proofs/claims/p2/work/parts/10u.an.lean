theorem q3721 : Cond.methodLink "ClassWorksModel" 786 y_Mo_fitState ∈ lw_ok := lw_okmem (List.mem_of_getElem? (i := 3721) (by decide +kernel)) rfl
theorem q3724 : Cond.code y_Mo_fitState b_Mo_fitState 4 (some .int) ∈ lw_ok := lw_okmem (List.mem_of_getElem? (i := 3724) (by decide +kernel)) rfl
theorem q3723 : Cond.instanceMethod y_Mo_fitState ∈ lw_ok := lw_okmem (List.mem_of_getElem? (i := 3723) (by decide +kernel)) rfl
theorem q227 : Cond.selects y_Mo_fitState.cls y_Mo_fitState y_Mo_fitState ∈ lw_ok := lw_okmem (List.mem_of_getElem? (i := 227) (by decide +kernel)) rfl
theorem w9_Mo_fitState : CWv y_Mo_fitState b_Mo_fitState 4 (some .int) 1 ∧ Cond.instanceMethod y_Mo_fitState ∈ lw_ok ∧ Cond.selects y_Mo_fitState.cls y_Mo_fitState y_Mo_fitState ∈ lw_ok := ⟨⟨q3724, q348, by decide +kernel, by decide +kernel, by decide +kernel⟩, q3723, q227⟩
def y_Mo_goesTo : MethodName := ⟨"ClassWorksModel", "goesTo", "(I)I"⟩
abbrev b_Mo_goesTo : ByteArray := prog_14_method_68_code
theorem d_Mo_goesTo_0 : decode b_Mo_goesTo 0 = .ok (.aload_n 0, 1) := by decide +kernel
theorem d_Mo_goesTo_1 : decode b_Mo_goesTo 1 = .ok (.getfield 522, 3) := by decide +kernel
theorem d_Mo_goesTo_4 : decode b_Mo_goesTo 4 = .ok (.getfield 686, 3) := by decide +kernel
theorem d_Mo_goesTo_7 : decode b_Mo_goesTo 7 = .ok (.aload_n 0, 1) := by decide +kernel
theorem d_Mo_goesTo_8 : decode b_Mo_goesTo 8 = .ok (.getfield 522, 3) := by decide +kernel
theorem d_Mo_goesTo_11 : decode b_Mo_goesTo 11 = .ok (.getfield 462, 3) := by decide +kernel
theorem d_Mo_goesTo_14 : decode b_Mo_goesTo 14 = .ok (.aload_n 0, 1) := by decide +kernel
theorem d_Mo_goesTo_15 : decode b_Mo_goesTo 15 = .ok (.getfield 768, 3) := by decide +kernel
theorem d_Mo_goesTo_18 : decode b_Mo_goesTo 18 = .ok (.iaload, 1) := by decide +kernel
theorem d_Mo_goesTo_19 : decode b_Mo_goesTo 19 = .ok (.iload_n 1, 1) := by decide +kernel
theorem d_Mo_goesTo_20 : decode b_Mo_goesTo 20 = .ok (.iadd, 1) := by decide +kernel
theorem d_Mo_goesTo_21 : decode b_Mo_goesTo 21 = .ok (.iaload, 1) := by decide +kernel
theorem d_Mo_goesTo_22 : decode b_Mo_goesTo 22 = .ok (.iconst 1, 1) := by decide +kernel
theorem d_Mo_goesTo_23 : decode b_Mo_goesTo 23 = .ok (.isub, 1) := by decide +kernel
theorem d_Mo_goesTo_24 : decode b_Mo_goesTo 24 = .ok (.istore_n 2, 1) := by decide +kernel
theorem d_Mo_goesTo_25 : decode b_Mo_goesTo 25 = .ok (.iload_n 2, 1) := by decide +kernel
theorem d_Mo_goesTo_26 : decode b_Mo_goesTo 26 = .ok (.ifCond .ge 8, 3) := by decide +kernel
theorem d_Mo_goesTo_29 : decode b_Mo_goesTo 29 = .ok (.bipush 36, 2) := by decide +kernel
theorem d_Mo_goesTo_31 : decode b_Mo_goesTo 31 = .ok (.goto 21, 3) := by decide +kernel
theorem d_Mo_goesTo_34 : decode b_Mo_goesTo 34 = .ok (.aload_n 0, 1) := by decide +kernel
theorem d_Mo_goesTo_35 : decode b_Mo_goesTo 35 = .ok (.iload_n 2, 1) := by decide +kernel
theorem d_Mo_goesTo_36 : decode b_Mo_goesTo 36 = .ok (.invokevirtual 783, 3) := by decide +kernel
theorem d_Mo_goesTo_39 : decode b_Mo_goesTo 39 = .ok (.ifCond .eq 8, 3) := by decide +kernel
theorem d_Mo_goesTo_42 : decode b_Mo_goesTo 42 = .ok (.bipush 38, 2) := by decide +kernel
theorem d_Mo_goesTo_44 : decode b_Mo_goesTo 44 = .ok (.goto 8, 3) := by decide +kernel
theorem d_Mo_goesTo_47 : decode b_Mo_goesTo 47 = .ok (.aload_n 0, 1) := by decide +kernel
theorem d_Mo_goesTo_48 : decode b_Mo_goesTo 48 = .ok (.iload_n 2, 1) := by decide +kernel
theorem d_Mo_goesTo_49 : decode b_Mo_goesTo 49 = .ok (.invokevirtual 786, 3) := by decide +kernel
theorem d_Mo_goesTo_52 : decode b_Mo_goesTo 52 = .ok (.ireturn, 1) := by decide +kernel
abbrev ru_Mo_goesTo : Room := { frames := 5, cells := 0, slots := 0, locals := 116 }
def wj_Mo_goesTo_52 (y : Ly) (Post : St → Int32 → Prop) (a0 : Nat) (s_j52 : St) (z0j52 : Int32) : Prop := Post s_j52 z0j52
def wu_Mo_goesTo (y : Ly) (Post : St → Int32 → Prop) (σ : St) (a0 : Nat) (v1 : Int32) : Prop := ∃ b_1 : Nat, sO σ a0 45 = some b_1 ∧ cl b_1 = 13 ∧ ∃ b_4 : Nat, sO σ a0 45 = some b_4 ∧ cl b_4 = 13 ∧ xA y σ b_4 23 (sV σ a0 75) (fun x_7 : Int32 => xA y σ b_1 34 (x_7 + v1) (fun x_8 : Int32 => ((0 ≤ (x_8 - 1) → wu_Mo_isWrongFrame y (fun (s_10 : St) (r_9 : Int32) => ((r_9 = 0 → wu_Mo_fitState y (fun (s_12 : St) (r_11 : Int32) => wj_Mo_goesTo_52 y Post a0 s_12 r_11) s_10 a0 (x_8 - 1)) ∧ (¬ (r_9 = 0) → wj_Mo_goesTo_52 y Post a0 s_10 38))) σ a0 (x_8 - 1)) ∧ (¬ (0 ≤ (x_8 - 1)) → wj_Mo_goesTo_52 y Post a0 σ 36))))
set_option maxHeartbeats 4000000 in
set_option maxRecDepth 100000 in
theorem cu_Mo_goesTo (l : Launch) (D : va_G) (g : Nat → ClassId) (ad : Nat → Nat) (y : Ly) (Post : St → Int32 → Prop) (σ : St) (a0 : Nat) (v1 : Int32) (sz : Nat) (h_a0 : cl a0 = 14) (h : wu_Mo_goesTo y Post σ a0 v1) : Met l y_Mo_goesTo (mw y_Mo_goesTo b_Mo_goesTo 3 (some .int)) ru_Mo_goesTo (PC g D [] [.ref (ad a0), .int v1] sz (ws g ad y σ)) (va_Qi (fun (r : Int32) (u : St) => Post u r) (QW D (va_A (ws g ad y σ) sz) (fun u => ws g ad y u)) (va_A (ws g ad y σ) sz)) 0 0 (va_A (ws g ad y σ) sz) := by
  refine ofI (by decide +kernel) (Nat.le_of_ble_eq_true rfl) ?_
  intro p e s m args below meth c A Q ls H locs G hsz hP hD hS hl hret
  subst hsz
  have hl : lv_has ls 3 [(0, .ref (ad a0)), (1, .int v1)] := hl
  unfold wu_Mo_goesTo at h
  refine lv_aload_n G.1 G.2.1 d_Mo_goesTo_0 rfl (lv_at hl 0 rfl) ?_
  obtain ⟨b_1, e_2, c_3, h⟩ := h
  refine ugf (v := .ref (ad b_1)) G hP h_a0 iMo rfl 45 (by decide) rfl q3109 rfl (by show va_rf ((sO σ a0 45).map ad) = _; rw [e_2]; rfl) d_Mo_goesTo_1 ?_
  refine ugfN (v := .ref (yP y b_1 34)) G hP c_3 iMw rfl 34 (by decide) rfl q2772 rfl rfl d_Mo_goesTo_4 ?_
  refine lv_aload_n G.1 G.2.1 d_Mo_goesTo_7 rfl (lv_at hl 0 rfl) ?_
  obtain ⟨b_4, e_5, c_6, h⟩ := h
  refine ugf (v := .ref (ad b_4)) G hP h_a0 iMo rfl 45 (by decide) rfl q3109 rfl (by show va_rf ((sO σ a0 45).map ad) = _; rw [e_5]; rfl) d_Mo_goesTo_8 ?_
  refine ugfN (v := .ref (yP y b_4 23)) G hP c_6 iMw rfl 23 (by decide) rfl q2750 rfl rfl d_Mo_goesTo_11 ?_
  refine lv_aload_n G.1 G.2.1 d_Mo_goesTo_14 rfl (lv_at hl 0 rfl) ?_
  refine ugf (v := .int (sV σ a0 75)) G hP h_a0 iMo rfl 75 (by decide) rfl q3139 rfl rfl d_Mo_goesTo_15 ?_
  refine uiald G hP (kdp c_6 rfl) (typ c_6 rfl) h d_Mo_goesTo_18 (fun x_7 h => ?_)
  refine lv_iload_n G.1 G.2.1 d_Mo_goesTo_19 rfl (lv_at hl 1 rfl) ?_
  refine lv_iadd G.1 G.2.1 d_Mo_goesTo_20 ?_
  refine W.eq (g2 := F0 m 21 ls [.int (x_7 + v1), .ref (yP y b_1 34)]) rfl ?_
  refine uiald G hP (kdp c_3 rfl) (typ c_3 rfl) h d_Mo_goesTo_21 (fun x_8 h => ?_)
  refine lv_iconst (v := 1) G.1 G.2.1 d_Mo_goesTo_22 (by decide) ?_
  refine lv_isub G.1 G.2.1 d_Mo_goesTo_23 ?_
  refine lv_istore_n (lv' := [(2, .int (x_8 - 1)), (0, .ref (ad a0)), (1, .int v1)]) G.1 G.2.1 d_Mo_goesTo_24 rfl hl (by decide) rfl (fun ls hl => ?_)
  refine lv_iload_n G.1 G.2.1 d_Mo_goesTo_25 rfl (lv_at hl 0 rfl) ?_
  have J_52 : ∀ (s_j52 : St) (z0j52 : Int32) (H : Heap) (locs : List Loc), wj_Mo_goesTo_52 y Post a0 s_j52 z0j52 → va_P D CL (ws g ad y s_j52) H → va_D A (ws g ad y s_j52) → va_S A s.heap H locs → ∀ ls, lv_has ls 3 [] → W p l e ru_Mo_goesTo s m args below meth c H locs 0 0 Q (F0 m 52 ls [.int z0j52]) := by
    intro s_j52 z0j52 H locs h hP hD hS ls hl
    unfold wj_Mo_goesTo_52 at h
    exact hret _ _ _ _ _ _ _ ls h hP hD hS (Nat.le_refl _) (Nat.le_refl _) d_Mo_goesTo_52
  refine lv_if_ge (tgt := 34) G.1 G.2.1 d_Mo_goesTo_26 (by decide) (fun c26 => ?_) (fun c26 => ?_)
  · skip
    have h := h.1 c26
    refine lv_aload_n G.1 G.2.1 d_Mo_goesTo_34 rfl (lv_at hl 1 rfl) ?_
    refine lv_iload_n G.1 G.2.1 d_Mo_goesTo_35 rfl (lv_at hl 0 rfl) ?_
    refine ucVi (As := [.int (x_8 - 1)]) (rest := []) G hP hD hS (cu_Mo_isWrongFrame l D g ad y _ σ a0 (x_8 - 1) H.size h_a0 h) w9_Mo_isWrongFrame q3713 ⟨Nat.le_of_ble_eq_true rfl, Nat.le_of_ble_eq_true rfl⟩ rfl rfl h_a0 (q := (RMo, TMo, 131)) rfl rfl hl.1 rfl (Nat.le_of_ble_eq_true rfl) rfl ⟨Nat.le_refl _, Nat.le_refl _⟩ d_Mo_goesTo_36 (fun r_9 s_10 H locs h hP hD hS => ?_)
    refine lv_if_eq (tgt := 47) G.1 G.2.1 d_Mo_goesTo_39 (by decide) (fun c39 => ?_) (fun c39 => ?_)
    · skip
      have h := h.1 c39
      refine lv_aload_n G.1 G.2.1 d_Mo_goesTo_47 rfl (lv_at hl 1 rfl) ?_
      refine lv_iload_n G.1 G.2.1 d_Mo_goesTo_48 rfl (lv_at hl 0 rfl) ?_
      refine W.eq (g2 := F0 m 49 ls [.int (x_8 - 1), .ref (ad a0)]) rfl ?_
      refine ucVi (As := [.int (x_8 - 1)]) (rest := []) G hP hD hS (cu_Mo_fitState l D g ad y _ s_10 a0 (x_8 - 1) H.size h_a0 h) w9_Mo_fitState q3721 ⟨Nat.le_of_ble_eq_true rfl, Nat.le_of_ble_eq_true rfl⟩ rfl rfl h_a0 (q := (RMo, TMo, 131)) rfl rfl hl.1 rfl (Nat.le_of_ble_eq_true rfl) rfl ⟨Nat.le_refl _, Nat.le_refl _⟩ d_Mo_goesTo_49 (fun r_11 s_12 H locs h hP hD hS => ?_)
      exact J_52 s_12 r_11 H locs h hP hD hS ls (lv_sub hl [] rfl)
    · skip
      have h := h.2 c39
      refine lv_bipush (v := 38) G.1 G.2.1 d_Mo_goesTo_42 (by decide) ?_
      refine lv_goto (tgt := 52) G.1 G.2.1 d_Mo_goesTo_44 (by decide) ?_
      exact J_52 s_10 38 H locs h hP hD hS ls (lv_sub hl [] rfl)
  · skip
    have h := h.2 c26
    refine lv_bipush (v := 36) G.1 G.2.1 d_Mo_goesTo_29 (by decide) ?_
    refine lv_goto (tgt := 52) G.1 G.2.1 d_Mo_goesTo_31 (by decide) ?_
    exact J_52 σ 36 H locs h hP hD hS ls (lv_sub hl [] rfl)
theorem q3141 : Cond.fieldLink "ClassWorksModel" 802 "ClassWorksModel" "records" "Z" ∈ lw_ok := lw_okmem (List.mem_of_getElem? (i := 3141) (by decide +kernel)) rfl
theorem q3745 : Cond.methodLink "ClassWorksModel" 808 y_Mo_askHandlers ∈ lw_ok := lw_okmem (List.mem_of_getElem? (i := 3745) (by decide +kernel)) rfl
theorem q3748 : Cond.code y_Mo_askHandlers b_Mo_askHandlers 6 (some .int) ∈ lw_ok := lw_okmem (List.mem_of_getElem? (i := 3748) (by decide +kernel)) rfl
theorem q3747 : Cond.instanceMethod y_Mo_askHandlers ∈ lw_ok := lw_okmem (List.mem_of_getElem? (i := 3747) (by decide +kernel)) rfl
theorem q233 : Cond.selects y_Mo_askHandlers.cls y_Mo_askHandlers y_Mo_askHandlers ∈ lw_ok := lw_okmem (List.mem_of_getElem? (i := 233) (by decide +kernel)) rfl
theorem w9_Mo_askHandlers : CWv y_Mo_askHandlers b_Mo_askHandlers 6 (some .int) 1 ∧ Cond.instanceMethod y_Mo_askHandlers ∈ lw_ok ∧ Cond.selects y_Mo_askHandlers.cls y_Mo_askHandlers y_Mo_askHandlers ∈ lw_ok := ⟨⟨q3748, q348, by decide +kernel, by decide +kernel, by decide +kernel⟩, q3747, q233⟩
theorem q2764 : Cond.fieldLinkNest "ClassWorksModel" 674 "ClassWorksModel$World" "ops" "[B" "ClassWorksModel" ∈ lw_nest := lw_nestmem (List.mem_of_getElem? (i := 2764) (by decide +kernel)) rfl
theorem q3749 : Cond.methodLink "ClassWorksModel" 811 y_Mo_checkTaken ∈ lw_ok := lw_okmem (List.mem_of_getElem? (i := 3749) (by decide +kernel)) rfl
theorem q3752 : Cond.code y_Mo_checkTaken b_Mo_checkTaken 10 (some .int) ∈ lw_ok := lw_okmem (List.mem_of_getElem? (i := 3752) (by decide +kernel)) rfl
theorem q3751 : Cond.instanceMethod y_Mo_checkTaken ∈ lw_ok := lw_okmem (List.mem_of_getElem? (i := 3751) (by decide +kernel)) rfl
theorem q234 : Cond.selects y_Mo_checkTaken.cls y_Mo_checkTaken y_Mo_checkTaken ∈ lw_ok := lw_okmem (List.mem_of_getElem? (i := 234) (by decide +kernel)) rfl
theorem w9_Mo_checkTaken : CWv y_Mo_checkTaken b_Mo_checkTaken 10 (some .int) 2 ∧ Cond.instanceMethod y_Mo_checkTaken ∈ lw_ok ∧ Cond.selects y_Mo_checkTaken.cls y_Mo_checkTaken y_Mo_checkTaken ∈ lw_ok := ⟨⟨q3752, q348, by decide +kernel, by decide +kernel, by decide +kernel⟩, q3751, q234⟩
theorem q3767 : Cond.methodLink "ClassWorksModel" 814 y_Mo_checkOwn ∈ lw_ok := lw_okmem (List.mem_of_getElem? (i := 3767) (by decide +kernel)) rfl
theorem q3770 : Cond.code y_Mo_checkOwn b_Mo_checkOwn 6 (some .int) ∈ lw_ok := lw_okmem (List.mem_of_getElem? (i := 3770) (by decide +kernel)) rfl
theorem q3769 : Cond.instanceMethod y_Mo_checkOwn ∈ lw_ok := lw_okmem (List.mem_of_getElem? (i := 3769) (by decide +kernel)) rfl
theorem q237 : Cond.selects y_Mo_checkOwn.cls y_Mo_checkOwn y_Mo_checkOwn ∈ lw_ok := lw_okmem (List.mem_of_getElem? (i := 237) (by decide +kernel)) rfl
theorem w9_Mo_checkOwn : CWv y_Mo_checkOwn b_Mo_checkOwn 6 (some .int) 2 ∧ Cond.instanceMethod y_Mo_checkOwn ∈ lw_ok ∧ Cond.selects y_Mo_checkOwn.cls y_Mo_checkOwn y_Mo_checkOwn ∈ lw_ok := ⟨⟨q3770, q348, by decide +kernel, by decide +kernel, by decide +kernel⟩, q3769, q237⟩
theorem q3775 : Cond.methodLink "ClassWorksModel" 817 y_Mo_act ∈ lw_ok := lw_okmem (List.mem_of_getElem? (i := 3775) (by decide +kernel)) rfl
set_option maxRecDepth 100000 in
theorem q3778 : Cond.code y_Mo_act b_Mo_act 10 (none) ∈ lw_ok := lw_okmem (List.mem_of_getElem? (i := 3778) (by rfl)) rfl
theorem q3777 : Cond.instanceMethod y_Mo_act ∈ lw_ok := lw_okmem (List.mem_of_getElem? (i := 3777) (by decide +kernel)) rfl
theorem q239 : Cond.selects y_Mo_act.cls y_Mo_act y_Mo_act ∈ lw_ok := lw_okmem (List.mem_of_getElem? (i := 239) (by decide +kernel)) rfl
theorem w9_Mo_act : CWv y_Mo_act b_Mo_act 10 (none) 3 ∧ Cond.instanceMethod y_Mo_act ∈ lw_ok ∧ Cond.selects y_Mo_act.cls y_Mo_act y_Mo_act ∈ lw_ok := ⟨⟨q3778, q348, by decide +kernel, by decide +kernel, by decide +kernel⟩, q3777, q239⟩
theorem q2775 : Cond.fieldLinkNest "ClassWorksModel" 689 "ClassWorksModel$World" "lists" "[I" "ClassWorksModel" ∈ lw_nest := lw_nestmem (List.mem_of_getElem? (i := 2775) (by decide +kernel)) rfl
theorem q3783 : Cond.methodLink "ClassWorksModel" 820 y_Mo_goesTo ∈ lw_ok := lw_okmem (List.mem_of_getElem? (i := 3783) (by decide +kernel)) rfl
theorem q3786 : Cond.code y_Mo_goesTo b_Mo_goesTo 3 (some .int) ∈ lw_ok := lw_okmem (List.mem_of_getElem? (i := 3786) (by decide +kernel)) rfl
theorem q3785 : Cond.instanceMethod y_Mo_goesTo ∈ lw_ok := lw_okmem (List.mem_of_getElem? (i := 3785) (by decide +kernel)) rfl
theorem q241 : Cond.selects y_Mo_goesTo.cls y_Mo_goesTo y_Mo_goesTo ∈ lw_ok := lw_okmem (List.mem_of_getElem? (i := 241) (by decide +kernel)) rfl
theorem w9_Mo_goesTo : CWv y_Mo_goesTo b_Mo_goesTo 3 (some .int) 1 ∧ Cond.instanceMethod y_Mo_goesTo ∈ lw_ok ∧ Cond.selects y_Mo_goesTo.cls y_Mo_goesTo y_Mo_goesTo ∈ lw_ok := ⟨⟨q3786, q348, by decide +kernel, by decide +kernel, by decide +kernel⟩, q3785, q241⟩
theorem q3741 : Cond.methodLink "ClassWorksModel" 805 y_Mo_record ∈ lw_ok := lw_okmem (List.mem_of_getElem? (i := 3741) (by decide +kernel)) rfl
theorem q3744 : Cond.code y_Mo_record b_Mo_record 2 (none) ∈ lw_ok := lw_okmem (List.mem_of_getElem? (i := 3744) (by decide +kernel)) rfl
theorem q3743 : Cond.instanceMethod y_Mo_record ∈ lw_ok := lw_okmem (List.mem_of_getElem? (i := 3743) (by decide +kernel)) rfl
theorem q232 : Cond.selects y_Mo_record.cls y_Mo_record y_Mo_record ∈ lw_ok := lw_okmem (List.mem_of_getElem? (i := 232) (by decide +kernel)) rfl
theorem w9_Mo_record : CWv y_Mo_record b_Mo_record 2 (none) 1 ∧ Cond.instanceMethod y_Mo_record ∈ lw_ok ∧ Cond.selects y_Mo_record.cls y_Mo_record y_Mo_record ∈ lw_ok := ⟨⟨q3744, q348, by decide +kernel, by decide +kernel, by decide +kernel⟩, q3743, q232⟩
def y_Mo_checkOne : MethodName := ⟨"ClassWorksModel", "checkOne", "(IZ)I"⟩
abbrev b_Mo_checkOne : ByteArray := prog_14_method_72_code
theorem d_Mo_checkOne_0 : decode b_Mo_checkOne 0 = .ok (.aload_n 0, 1) := by decide +kernel
theorem d_Mo_checkOne_1 : decode b_Mo_checkOne 1 = .ok (.getfield 522, 3) := by decide +kernel
theorem d_Mo_checkOne_4 : decode b_Mo_checkOne 4 = .ok (.getfield 462, 3) := by decide +kernel
theorem d_Mo_checkOne_7 : decode b_Mo_checkOne 7 = .ok (.aload_n 0, 1) := by decide +kernel
theorem d_Mo_checkOne_8 : decode b_Mo_checkOne 8 = .ok (.getfield 768, 3) := by decide +kernel
theorem d_Mo_checkOne_11 : decode b_Mo_checkOne 11 = .ok (.iaload, 1) := by decide +kernel
theorem d_Mo_checkOne_12 : decode b_Mo_checkOne 12 = .ok (.iload_n 1, 1) := by decide +kernel
theorem d_Mo_checkOne_13 : decode b_Mo_checkOne 13 = .ok (.iadd, 1) := by decide +kernel
theorem d_Mo_checkOne_14 : decode b_Mo_checkOne 14 = .ok (.istore_n 3, 1) := by decide +kernel
theorem d_Mo_checkOne_15 : decode b_Mo_checkOne 15 = .ok (.aload_n 0, 1) := by decide +kernel
theorem d_Mo_checkOne_16 : decode b_Mo_checkOne 16 = .ok (.getfield 522, 3) := by decide +kernel
theorem d_Mo_checkOne_19 : decode b_Mo_checkOne 19 = .ok (.getfield 686, 3) := by decide +kernel
theorem d_Mo_checkOne_22 : decode b_Mo_checkOne 22 = .ok (.iload_n 3, 1) := by decide +kernel
theorem d_Mo_checkOne_23 : decode b_Mo_checkOne 23 = .ok (.iaload, 1) := by decide +kernel
theorem d_Mo_checkOne_24 : decode b_Mo_checkOne 24 = .ok (.iconst 1, 1) := by decide +kernel
theorem d_Mo_checkOne_25 : decode b_Mo_checkOne 25 = .ok (.isub, 1) := by decide +kernel
theorem d_Mo_checkOne_26 : decode b_Mo_checkOne 26 = .ok (.istore 4, 2) := by decide +kernel
theorem d_Mo_checkOne_28 : decode b_Mo_checkOne 28 = .ok (.iload 4, 2) := by decide +kernel
theorem d_Mo_checkOne_30 : decode b_Mo_checkOne 30 = .ok (.ifCond .lt 167, 3) := by decide +kernel
theorem d_Mo_checkOne_33 : decode b_Mo_checkOne 33 = .ok (.aload_n 0, 1) := by decide +kernel
theorem d_Mo_checkOne_34 : decode b_Mo_checkOne 34 = .ok (.iload 4, 2) := by decide +kernel
theorem d_Mo_checkOne_36 : decode b_Mo_checkOne 36 = .ok (.invokevirtual 783, 3) := by decide +kernel
theorem d_Mo_checkOne_39 : decode b_Mo_checkOne 39 = .ok (.ifCond .eq 8, 3) := by decide +kernel
theorem d_Mo_checkOne_42 : decode b_Mo_checkOne 42 = .ok (.bipush 38, 2) := by decide +kernel
theorem d_Mo_checkOne_44 : decode b_Mo_checkOne 44 = .ok (.goto 20, 3) := by decide +kernel
theorem d_Mo_checkOne_47 : decode b_Mo_checkOne 47 = .ok (.aload_n 0, 1) := by decide +kernel
theorem d_Mo_checkOne_48 : decode b_Mo_checkOne 48 = .ok (.getfield 792, 3) := by decide +kernel
theorem d_Mo_checkOne_51 : decode b_Mo_checkOne 51 = .ok (.ifCond .eq 12, 3) := by decide +kernel
theorem d_Mo_checkOne_54 : decode b_Mo_checkOne 54 = .ok (.aload_n 0, 1) := by decide +kernel
theorem d_Mo_checkOne_55 : decode b_Mo_checkOne 55 = .ok (.iload 4, 2) := by decide +kernel
theorem d_Mo_checkOne_57 : decode b_Mo_checkOne 57 = .ok (.invokevirtual 786, 3) := by decide +kernel
theorem d_Mo_checkOne_60 : decode b_Mo_checkOne 60 = .ok (.goto 4, 3) := by decide +kernel
theorem d_Mo_checkOne_63 : decode b_Mo_checkOne 63 = .ok (.iconst 0, 1) := by decide +kernel
theorem d_Mo_checkOne_64 : decode b_Mo_checkOne 64 = .ok (.istore 5, 2) := by decide +kernel
theorem d_Mo_checkOne_66 : decode b_Mo_checkOne 66 = .ok (.iload 5, 2) := by decide +kernel
theorem d_Mo_checkOne_68 : decode b_Mo_checkOne 68 = .ok (.ifCond .le 6, 3) := by decide +kernel
theorem d_Mo_checkOne_71 : decode b_Mo_checkOne 71 = .ok (.iload 5, 2) := by decide +kernel
theorem d_Mo_checkOne_73 : decode b_Mo_checkOne 73 = .ok (.ireturn, 1) := by decide +kernel
theorem d_Mo_checkOne_74 : decode b_Mo_checkOne 74 = .ok (.iconst 0, 1) := by decide +kernel
theorem d_Mo_checkOne_75 : decode b_Mo_checkOne 75 = .ok (.istore 6, 2) := by decide +kernel
theorem d_Mo_checkOne_77 : decode b_Mo_checkOne 77 = .ok (.iload 6, 2) := by decide +kernel
theorem d_Mo_checkOne_79 : decode b_Mo_checkOne 79 = .ok (.aload_n 0, 1) := by decide +kernel
theorem d_Mo_checkOne_80 : decode b_Mo_checkOne 80 = .ok (.getfield 522, 3) := by decide +kernel
theorem d_Mo_checkOne_83 : decode b_Mo_checkOne 83 = .ok (.getfield 459, 3) := by decide +kernel
theorem d_Mo_checkOne_86 : decode b_Mo_checkOne 86 = .ok (.aload_n 0, 1) := by decide +kernel
theorem d_Mo_checkOne_87 : decode b_Mo_checkOne 87 = .ok (.getfield 768, 3) := by decide +kernel
theorem d_Mo_checkOne_90 : decode b_Mo_checkOne 90 = .ok (.iaload, 1) := by decide +kernel
theorem d_Mo_checkOne_91 : decode b_Mo_checkOne 91 = .ok (.if_icmp .ge 43, 3) := by decide +kernel
theorem d_Mo_checkOne_94 : decode b_Mo_checkOne 94 = .ok (.aload_n 0, 1) := by decide +kernel
theorem d_Mo_checkOne_95 : decode b_Mo_checkOne 95 = .ok (.getfield 305, 3) := by decide +kernel
theorem d_Mo_checkOne_98 : decode b_Mo_checkOne 98 = .ok (.iload 6, 2) := by decide +kernel
theorem d_Mo_checkOne_100 : decode b_Mo_checkOne 100 = .ok (.iload 6, 2) := by decide +kernel
theorem d_Mo_checkOne_102 : decode b_Mo_checkOne 102 = .ok (.aload_n 0, 1) := by decide +kernel
theorem d_Mo_checkOne_103 : decode b_Mo_checkOne 103 = .ok (.getfield 522, 3) := by decide +kernel
theorem d_Mo_checkOne_106 : decode b_Mo_checkOne 106 = .ok (.getfield 701, 3) := by decide +kernel
theorem d_Mo_checkOne_109 : decode b_Mo_checkOne 109 = .ok (.iload 4, 2) := by decide +kernel
theorem d_Mo_checkOne_111 : decode b_Mo_checkOne 111 = .ok (.iaload, 1) := by decide +kernel
theorem d_Mo_checkOne_112 : decode b_Mo_checkOne 112 = .ok (.if_icmp .ge 14, 3) := by decide +kernel
theorem d_Mo_checkOne_115 : decode b_Mo_checkOne 115 = .ok (.aload_n 0, 1) := by decide +kernel
theorem d_Mo_checkOne_116 : decode b_Mo_checkOne 116 = .ok (.iload 4, 2) := by decide +kernel
theorem d_Mo_checkOne_118 : decode b_Mo_checkOne 118 = .ok (.iload 6, 2) := by decide +kernel
theorem d_Mo_checkOne_120 : decode b_Mo_checkOne 120 = .ok (.invokevirtual 771, 3) := by decide +kernel
theorem d_Mo_checkOne_123 : decode b_Mo_checkOne 123 = .ok (.goto 4, 3) := by decide +kernel
theorem d_Mo_checkOne_126 : decode b_Mo_checkOne 126 = .ok (.iconst 4, 1) := by decide +kernel
theorem d_Mo_checkOne_127 : decode b_Mo_checkOne 127 = .ok (.iastore, 1) := by decide +kernel
theorem d_Mo_checkOne_128 : decode b_Mo_checkOne 128 = .ok (.iinc 6 1, 3) := by decide +kernel
theorem d_Mo_checkOne_131 : decode b_Mo_checkOne 131 = .ok (.goto (-54), 3) := by decide +kernel
theorem d_Mo_checkOne_134 : decode b_Mo_checkOne 134 = .ok (.aload_n 0, 1) := by decide +kernel
theorem d_Mo_checkOne_135 : decode b_Mo_checkOne 135 = .ok (.aload_n 0, 1) := by decide +kernel
theorem d_Mo_checkOne_136 : decode b_Mo_checkOne 136 = .ok (.getfield 522, 3) := by decide +kernel
theorem d_Mo_checkOne_139 : decode b_Mo_checkOne 139 = .ok (.getfield 704, 3) := by decide +kernel
theorem d_Mo_checkOne_142 : decode b_Mo_checkOne 142 = .ok (.iload 4, 2) := by decide +kernel
theorem d_Mo_checkOne_144 : decode b_Mo_checkOne 144 = .ok (.iaload, 1) := by decide +kernel
theorem d_Mo_checkOne_145 : decode b_Mo_checkOne 145 = .ok (.putfield 780, 3) := by decide +kernel
theorem d_Mo_checkOne_148 : decode b_Mo_checkOne 148 = .ok (.iconst 0, 1) := by decide +kernel
theorem d_Mo_checkOne_149 : decode b_Mo_checkOne 149 = .ok (.istore 6, 2) := by decide +kernel
theorem d_Mo_checkOne_151 : decode b_Mo_checkOne 151 = .ok (.iload 6, 2) := by decide +kernel
theorem d_Mo_checkOne_153 : decode b_Mo_checkOne 153 = .ok (.aload_n 0, 1) := by decide +kernel
theorem d_Mo_checkOne_154 : decode b_Mo_checkOne 154 = .ok (.getfield 780, 3) := by decide +kernel
theorem d_Mo_checkOne_157 : decode b_Mo_checkOne 157 = .ok (.if_icmp .ge 35, 3) := by decide +kernel
theorem d_Mo_checkOne_160 : decode b_Mo_checkOne 160 = .ok (.aload_n 0, 1) := by decide +kernel
theorem d_Mo_checkOne_161 : decode b_Mo_checkOne 161 = .ok (.getfield 308, 3) := by decide +kernel
theorem d_Mo_checkOne_164 : decode b_Mo_checkOne 164 = .ok (.iload 6, 2) := by decide +kernel
theorem d_Mo_checkOne_166 : decode b_Mo_checkOne 166 = .ok (.aload_n 0, 1) := by decide +kernel
theorem d_Mo_checkOne_167 : decode b_Mo_checkOne 167 = .ok (.iload 4, 2) := by decide +kernel
theorem d_Mo_checkOne_169 : decode b_Mo_checkOne 169 = .ok (.aload_n 0, 1) := by decide +kernel
theorem d_Mo_checkOne_170 : decode b_Mo_checkOne 170 = .ok (.getfield 522, 3) := by decide +kernel
theorem d_Mo_checkOne_173 : decode b_Mo_checkOne 173 = .ok (.getfield 701, 3) := by decide +kernel
theorem d_Mo_checkOne_176 : decode b_Mo_checkOne 176 = .ok (.iload 4, 2) := by decide +kernel
theorem d_Mo_checkOne_178 : decode b_Mo_checkOne 178 = .ok (.iaload, 1) := by decide +kernel
theorem d_Mo_checkOne_179 : decode b_Mo_checkOne 179 = .ok (.iload 6, 2) := by decide +kernel
theorem d_Mo_checkOne_181 : decode b_Mo_checkOne 181 = .ok (.iadd, 1) := by decide +kernel
theorem d_Mo_checkOne_182 : decode b_Mo_checkOne 182 = .ok (.invokevirtual 771, 3) := by decide +kernel
theorem d_Mo_checkOne_185 : decode b_Mo_checkOne 185 = .ok (.iastore, 1) := by decide +kernel
theorem d_Mo_checkOne_186 : decode b_Mo_checkOne 186 = .ok (.iinc 6 1, 3) := by decide +kernel
theorem d_Mo_checkOne_189 : decode b_Mo_checkOne 189 = .ok (.goto (-38), 3) := by decide +kernel
theorem d_Mo_checkOne_192 : decode b_Mo_checkOne 192 = .ok (.aload_n 0, 1) := by decide +kernel
theorem d_Mo_checkOne_193 : decode b_Mo_checkOne 193 = .ok (.iconst 1, 1) := by decide +kernel
theorem d_Mo_checkOne_194 : decode b_Mo_checkOne 194 = .ok (.putfield 792, 3) := by decide +kernel
theorem d_Mo_checkOne_197 : decode b_Mo_checkOne 197 = .ok (.aload_n 0, 1) := by decide +kernel
theorem d_Mo_checkOne_198 : decode b_Mo_checkOne 198 = .ok (.getfield 792, 3) := by decide +kernel
theorem d_Mo_checkOne_201 : decode b_Mo_checkOne 201 = .ok (.ifCond .ne 6, 3) := by decide +kernel
theorem d_Mo_checkOne_204 : decode b_Mo_checkOne 204 = .ok (.bipush 36, 2) := by decide +kernel
theorem d_Mo_checkOne_206 : decode b_Mo_checkOne 206 = .ok (.ireturn, 1) := by decide +kernel
theorem d_Mo_checkOne_207 : decode b_Mo_checkOne 207 = .ok (.aload_n 0, 1) := by decide +kernel
theorem d_Mo_checkOne_208 : decode b_Mo_checkOne 208 = .ok (.getfield 802, 3) := by decide +kernel
theorem d_Mo_checkOne_211 : decode b_Mo_checkOne 211 = .ok (.ifCond .eq 8, 3) := by decide +kernel
theorem d_Mo_checkOne_214 : decode b_Mo_checkOne 214 = .ok (.aload_n 0, 1) := by decide +kernel
theorem d_Mo_checkOne_215 : decode b_Mo_checkOne 215 = .ok (.iload_n 1, 1) := by decide +kernel
theorem d_Mo_checkOne_216 : decode b_Mo_checkOne 216 = .ok (.invokevirtual 805, 3) := by decide +kernel
theorem d_Mo_checkOne_219 : decode b_Mo_checkOne 219 = .ok (.aload_n 0, 1) := by decide +kernel
theorem d_Mo_checkOne_220 : decode b_Mo_checkOne 220 = .ok (.iload_n 1, 1) := by decide +kernel
theorem d_Mo_checkOne_221 : decode b_Mo_checkOne 221 = .ok (.invokevirtual 808, 3) := by decide +kernel
theorem d_Mo_checkOne_224 : decode b_Mo_checkOne 224 = .ok (.istore 5, 2) := by decide +kernel
theorem d_Mo_checkOne_226 : decode b_Mo_checkOne 226 = .ok (.iload 5, 2) := by decide +kernel
theorem d_Mo_checkOne_228 : decode b_Mo_checkOne 228 = .ok (.ifCond .le 6, 3) := by decide +kernel
theorem d_Mo_checkOne_231 : decode b_Mo_checkOne 231 = .ok (.iload 5, 2) := by decide +kernel
theorem d_Mo_checkOne_233 : decode b_Mo_checkOne 233 = .ok (.ireturn, 1) := by decide +kernel
theorem d_Mo_checkOne_234 : decode b_Mo_checkOne 234 = .ok (.aload_n 0, 1) := by decide +kernel
theorem d_Mo_checkOne_235 : decode b_Mo_checkOne 235 = .ok (.getfield 522, 3) := by decide +kernel
theorem d_Mo_checkOne_238 : decode b_Mo_checkOne 238 = .ok (.getfield 674, 3) := by decide +kernel
theorem d_Mo_checkOne_241 : decode b_Mo_checkOne 241 = .ok (.iload_n 3, 1) := by decide +kernel
theorem d_Mo_checkOne_242 : decode b_Mo_checkOne 242 = .ok (.baload, 1) := by decide +kernel
theorem d_Mo_checkOne_243 : decode b_Mo_checkOne 243 = .ok (.istore 6, 2) := by decide +kernel
theorem d_Mo_checkOne_245 : decode b_Mo_checkOne 245 = .ok (.aload_n 0, 1) := by decide +kernel
theorem d_Mo_checkOne_246 : decode b_Mo_checkOne 246 = .ok (.iload 6, 2) := by decide +kernel
theorem d_Mo_checkOne_248 : decode b_Mo_checkOne 248 = .ok (.iload_n 3, 1) := by decide +kernel
theorem d_Mo_checkOne_249 : decode b_Mo_checkOne 249 = .ok (.invokevirtual 811, 3) := by decide +kernel
theorem d_Mo_checkOne_252 : decode b_Mo_checkOne 252 = .ok (.istore 5, 2) := by decide +kernel
theorem d_Mo_checkOne_254 : decode b_Mo_checkOne 254 = .ok (.iload 5, 2) := by decide +kernel
theorem d_Mo_checkOne_256 : decode b_Mo_checkOne 256 = .ok (.ifCond .le 6, 3) := by decide +kernel
theorem d_Mo_checkOne_259 : decode b_Mo_checkOne 259 = .ok (.iload 5, 2) := by decide +kernel
theorem d_Mo_checkOne_261 : decode b_Mo_checkOne 261 = .ok (.ireturn, 1) := by decide +kernel
theorem d_Mo_checkOne_262 : decode b_Mo_checkOne 262 = .ok (.aload_n 0, 1) := by decide +kernel
theorem d_Mo_checkOne_263 : decode b_Mo_checkOne 263 = .ok (.iload 6, 2) := by decide +kernel
theorem d_Mo_checkOne_265 : decode b_Mo_checkOne 265 = .ok (.iload_n 3, 1) := by decide +kernel
theorem d_Mo_checkOne_266 : decode b_Mo_checkOne 266 = .ok (.invokevirtual 814, 3) := by decide +kernel
theorem d_Mo_checkOne_269 : decode b_Mo_checkOne 269 = .ok (.istore 5, 2) := by decide +kernel
theorem d_Mo_checkOne_271 : decode b_Mo_checkOne 271 = .ok (.iload 5, 2) := by decide +kernel
theorem d_Mo_checkOne_273 : decode b_Mo_checkOne 273 = .ok (.ifCond .le 6, 3) := by decide +kernel
theorem d_Mo_checkOne_276 : decode b_Mo_checkOne 276 = .ok (.iload 5, 2) := by decide +kernel
theorem d_Mo_checkOne_278 : decode b_Mo_checkOne 278 = .ok (.ireturn, 1) := by decide +kernel
theorem d_Mo_checkOne_279 : decode b_Mo_checkOne 279 = .ok (.aload_n 0, 1) := by decide +kernel
theorem d_Mo_checkOne_280 : decode b_Mo_checkOne 280 = .ok (.iload 6, 2) := by decide +kernel
theorem d_Mo_checkOne_282 : decode b_Mo_checkOne 282 = .ok (.iload_n 3, 1) := by decide +kernel
theorem d_Mo_checkOne_283 : decode b_Mo_checkOne 283 = .ok (.iload_n 1, 1) := by decide +kernel
theorem d_Mo_checkOne_284 : decode b_Mo_checkOne 284 = .ok (.invokevirtual 817, 3) := by decide +kernel
theorem d_Mo_checkOne_287 : decode b_Mo_checkOne 287 = .ok (.aload_n 0, 1) := by decide +kernel
theorem d_Mo_checkOne_288 : decode b_Mo_checkOne 288 = .ok (.getfield 780, 3) := by decide +kernel
theorem d_Mo_checkOne_291 : decode b_Mo_checkOne 291 = .ok (.aload_n 0, 1) := by decide +kernel
theorem d_Mo_checkOne_292 : decode b_Mo_checkOne 292 = .ok (.getfield 522, 3) := by decide +kernel
theorem d_Mo_checkOne_295 : decode b_Mo_checkOne 295 = .ok (.getfield 456, 3) := by decide +kernel
theorem d_Mo_checkOne_298 : decode b_Mo_checkOne 298 = .ok (.aload_n 0, 1) := by decide +kernel
theorem d_Mo_checkOne_299 : decode b_Mo_checkOne 299 = .ok (.getfield 768, 3) := by decide +kernel
theorem d_Mo_checkOne_302 : decode b_Mo_checkOne 302 = .ok (.iaload, 1) := by decide +kernel
theorem d_Mo_checkOne_303 : decode b_Mo_checkOne 303 = .ok (.if_icmp .le 6, 3) := by decide +kernel
theorem d_Mo_checkOne_306 : decode b_Mo_checkOne 306 = .ok (.bipush 30, 2) := by decide +kernel
theorem d_Mo_checkOne_308 : decode b_Mo_checkOne 308 = .ok (.ireturn, 1) := by decide +kernel
theorem d_Mo_checkOne_309 : decode b_Mo_checkOne 309 = .ok (.iload 6, 2) := by decide +kernel
theorem d_Mo_checkOne_311 : decode b_Mo_checkOne 311 = .ok (.iconst 5, 1) := by decide +kernel
theorem d_Mo_checkOne_312 : decode b_Mo_checkOne 312 = .ok (.if_icmp .eq 33, 3) := by decide +kernel
theorem d_Mo_checkOne_315 : decode b_Mo_checkOne 315 = .ok (.iload 6, 2) := by decide +kernel
theorem d_Mo_checkOne_317 : decode b_Mo_checkOne 317 = .ok (.bipush 6, 2) := by decide +kernel
theorem d_Mo_checkOne_319 : decode b_Mo_checkOne 319 = .ok (.if_icmp .eq 26, 3) := by decide +kernel
theorem d_Mo_checkOne_322 : decode b_Mo_checkOne 322 = .ok (.iload 6, 2) := by decide +kernel
theorem d_Mo_checkOne_324 : decode b_Mo_checkOne 324 = .ok (.bipush 51, 2) := by decide +kernel
theorem d_Mo_checkOne_326 : decode b_Mo_checkOne 326 = .ok (.if_icmp .ne 29, 3) := by decide +kernel
theorem d_Mo_checkOne_329 : decode b_Mo_checkOne 329 = .ok (.aload_n 0, 1) := by decide +kernel
theorem d_Mo_checkOne_330 : decode b_Mo_checkOne 330 = .ok (.getfield 522, 3) := by decide +kernel
theorem d_Mo_checkOne_333 : decode b_Mo_checkOne 333 = .ok (.getfield 680, 3) := by decide +kernel
theorem d_Mo_checkOne_336 : decode b_Mo_checkOne 336 = .ok (.iload_n 3, 1) := by decide +kernel
theorem d_Mo_checkOne_337 : decode b_Mo_checkOne 337 = .ok (.iaload, 1) := by decide +kernel
theorem d_Mo_checkOne_338 : decode b_Mo_checkOne 338 = .ok (.aload_n 0, 1) := by decide +kernel
theorem d_Mo_checkOne_339 : decode b_Mo_checkOne 339 = .ok (.getfield 121, 3) := by decide +kernel
theorem d_Mo_checkOne_342 : decode b_Mo_checkOne 342 = .ok (.if_icmp .ne 13, 3) := by decide +kernel
theorem d_Mo_checkOne_345 : decode b_Mo_checkOne 345 = .ok (.aload_n 0, 1) := by decide +kernel
theorem d_Mo_checkOne_346 : decode b_Mo_checkOne 346 = .ok (.iload_n 1, 1) := by decide +kernel
theorem d_Mo_checkOne_347 : decode b_Mo_checkOne 347 = .ok (.invokevirtual 808, 3) := by decide +kernel
theorem d_Mo_checkOne_350 : decode b_Mo_checkOne 350 = .ok (.istore 5, 2) := by decide +kernel
theorem d_Mo_checkOne_352 : decode b_Mo_checkOne 352 = .ok (.goto 106, 3) := by decide +kernel
theorem d_Mo_checkOne_355 : decode b_Mo_checkOne 355 = .ok (.iload 6, 2) := by decide +kernel
theorem d_Mo_checkOne_357 : decode b_Mo_checkOne 357 = .ok (.bipush 23, 2) := by decide +kernel
theorem d_Mo_checkOne_359 : decode b_Mo_checkOne 359 = .ok (.if_icmp .lt 28, 3) := by decide +kernel
theorem d_Mo_checkOne_362 : decode b_Mo_checkOne 362 = .ok (.iload 6, 2) := by decide +kernel
theorem d_Mo_checkOne_364 : decode b_Mo_checkOne 364 = .ok (.bipush 39, 2) := by decide +kernel
theorem d_Mo_checkOne_366 : decode b_Mo_checkOne 366 = .ok (.if_icmp .gt 21, 3) := by decide +kernel
theorem d_Mo_checkOne_369 : decode b_Mo_checkOne 369 = .ok (.aload_n 0, 1) := by decide +kernel
theorem d_Mo_checkOne_370 : decode b_Mo_checkOne 370 = .ok (.aload_n 0, 1) := by decide +kernel
theorem d_Mo_checkOne_371 : decode b_Mo_checkOne 371 = .ok (.getfield 522, 3) := by decide +kernel
theorem d_Mo_checkOne_374 : decode b_Mo_checkOne 374 = .ok (.getfield 677, 3) := by decide +kernel
theorem d_Mo_checkOne_377 : decode b_Mo_checkOne 377 = .ok (.iload_n 3, 1) := by decide +kernel
theorem d_Mo_checkOne_378 : decode b_Mo_checkOne 378 = .ok (.iaload, 1) := by decide +kernel
theorem d_Mo_checkOne_379 : decode b_Mo_checkOne 379 = .ok (.invokevirtual 820, 3) := by decide +kernel
theorem d_Mo_checkOne_382 : decode b_Mo_checkOne 382 = .ok (.istore 5, 2) := by decide +kernel
theorem d_Mo_checkOne_384 : decode b_Mo_checkOne 384 = .ok (.goto 74, 3) := by decide +kernel
theorem d_Mo_checkOne_387 : decode b_Mo_checkOne 387 = .ok (.iload 6, 2) := by decide +kernel
theorem d_Mo_checkOne_389 : decode b_Mo_checkOne 389 = .ok (.bipush 40, 2) := by decide +kernel
theorem d_Mo_checkOne_391 : decode b_Mo_checkOne 391 = .ok (.if_icmp .ne 67, 3) := by decide +kernel
theorem d_Mo_checkOne_394 : decode b_Mo_checkOne 394 = .ok (.iconst 1, 1) := by decide +kernel
theorem d_Mo_checkOne_395 : decode b_Mo_checkOne 395 = .ok (.istore 7, 2) := by decide +kernel
theorem d_Mo_checkOne_397 : decode b_Mo_checkOne 397 = .ok (.iload 7, 2) := by decide +kernel
theorem d_Mo_checkOne_399 : decode b_Mo_checkOne 399 = .ok (.aload_n 0, 1) := by decide +kernel
theorem d_Mo_checkOne_400 : decode b_Mo_checkOne 400 = .ok (.getfield 522, 3) := by decide +kernel
theorem d_Mo_checkOne_403 : decode b_Mo_checkOne 403 = .ok (.getfield 683, 3) := by decide +kernel
theorem d_Mo_checkOne_406 : decode b_Mo_checkOne 406 = .ok (.iload_n 3, 1) := by decide +kernel
theorem d_Mo_checkOne_407 : decode b_Mo_checkOne 407 = .ok (.iaload, 1) := by decide +kernel
theorem d_Mo_checkOne_408 : decode b_Mo_checkOne 408 = .ok (.if_icmp .gt 50, 3) := by decide +kernel
theorem d_Mo_checkOne_411 : decode b_Mo_checkOne 411 = .ok (.iload 5, 2) := by decide +kernel
theorem d_Mo_checkOne_413 : decode b_Mo_checkOne 413 = .ok (.ifCond .ne 45, 3) := by decide +kernel
theorem d_Mo_checkOne_416 : decode b_Mo_checkOne 416 = .ok (.aload_n 0, 1) := by decide +kernel
theorem d_Mo_checkOne_417 : decode b_Mo_checkOne 417 = .ok (.aload_n 0, 1) := by decide +kernel
theorem d_Mo_checkOne_418 : decode b_Mo_checkOne 418 = .ok (.getfield 522, 3) := by decide +kernel
theorem d_Mo_checkOne_421 : decode b_Mo_checkOne 421 = .ok (.getfield 689, 3) := by decide +kernel
theorem d_Mo_checkOne_424 : decode b_Mo_checkOne 424 = .ok (.aload_n 0, 1) := by decide +kernel
theorem d_Mo_checkOne_425 : decode b_Mo_checkOne 425 = .ok (.getfield 522, 3) := by decide +kernel
theorem d_Mo_checkOne_428 : decode b_Mo_checkOne 428 = .ok (.getfield 680, 3) := by decide +kernel
theorem d_Mo_checkOne_431 : decode b_Mo_checkOne 431 = .ok (.iload_n 3, 1) := by decide +kernel
theorem d_Mo_checkOne_432 : decode b_Mo_checkOne 432 = .ok (.iaload, 1) := by decide +kernel
theorem d_Mo_checkOne_433 : decode b_Mo_checkOne 433 = .ok (.iload 7, 2) := by decide +kernel
theorem d_Mo_checkOne_435 : decode b_Mo_checkOne 435 = .ok (.aload_n 0, 1) := by decide +kernel
theorem d_Mo_checkOne_436 : decode b_Mo_checkOne 436 = .ok (.getfield 522, 3) := by decide +kernel
theorem d_Mo_checkOne_439 : decode b_Mo_checkOne 439 = .ok (.getfield 683, 3) := by decide +kernel
theorem d_Mo_checkOne_442 : decode b_Mo_checkOne 442 = .ok (.iload_n 3, 1) := by decide +kernel
theorem d_Mo_checkOne_443 : decode b_Mo_checkOne 443 = .ok (.iaload, 1) := by decide +kernel
theorem d_Mo_checkOne_444 : decode b_Mo_checkOne 444 = .ok (.irem, 1) := by decide +kernel
theorem d_Mo_checkOne_445 : decode b_Mo_checkOne 445 = .ok (.iadd, 1) := by decide +kernel
theorem d_Mo_checkOne_446 : decode b_Mo_checkOne 446 = .ok (.iaload, 1) := by decide +kernel
theorem d_Mo_checkOne_447 : decode b_Mo_checkOne 447 = .ok (.invokevirtual 820, 3) := by decide +kernel
theorem d_Mo_checkOne_450 : decode b_Mo_checkOne 450 = .ok (.istore 5, 2) := by decide +kernel
theorem d_Mo_checkOne_452 : decode b_Mo_checkOne 452 = .ok (.iinc 7 1, 3) := by decide +kernel
theorem d_Mo_checkOne_455 : decode b_Mo_checkOne 455 = .ok (.goto (-58), 3) := by decide +kernel
theorem d_Mo_checkOne_458 : decode b_Mo_checkOne 458 = .ok (.iload 5, 2) := by decide +kernel
theorem d_Mo_checkOne_460 : decode b_Mo_checkOne 460 = .ok (.ifCond .le 6, 3) := by decide +kernel
theorem d_Mo_checkOne_463 : decode b_Mo_checkOne 463 = .ok (.iload 5, 2) := by decide +kernel
theorem d_Mo_checkOne_465 : decode b_Mo_checkOne 465 = .ok (.ireturn, 1) := by decide +kernel
theorem d_Mo_checkOne_466 : decode b_Mo_checkOne 466 = .ok (.aload_n 0, 1) := by decide +kernel
theorem d_Mo_checkOne_467 : decode b_Mo_checkOne 467 = .ok (.iload 6, 2) := by decide +kernel
theorem d_Mo_checkOne_469 : decode b_Mo_checkOne 469 = .ok (.bipush 23, 2) := by decide +kernel
theorem d_Mo_checkOne_471 : decode b_Mo_checkOne 471 = .ok (.if_icmp .eq 42, 3) := by decide +kernel
theorem d_Mo_checkOne_474 : decode b_Mo_checkOne 474 = .ok (.iload 6, 2) := by decide +kernel
theorem d_Mo_checkOne_476 : decode b_Mo_checkOne 476 = .ok (.bipush 40, 2) := by decide +kernel
theorem d_Mo_checkOne_478 : decode b_Mo_checkOne 478 = .ok (.if_icmp .eq 35, 3) := by decide +kernel
theorem d_Mo_checkOne_481 : decode b_Mo_checkOne 481 = .ok (.iload 6, 2) := by decide +kernel
theorem d_Mo_checkOne_483 : decode b_Mo_checkOne 483 = .ok (.bipush 56, 2) := by decide +kernel
theorem d_Mo_checkOne_485 : decode b_Mo_checkOne 485 = .ok (.if_icmp .eq 28, 3) := by decide +kernel
theorem d_Mo_checkOne_488 : decode b_Mo_checkOne 488 = .ok (.iload 6, 2) := by decide +kernel
theorem d_Mo_checkOne_490 : decode b_Mo_checkOne 490 = .ok (.bipush 57, 2) := by decide +kernel
theorem d_Mo_checkOne_492 : decode b_Mo_checkOne 492 = .ok (.if_icmp .eq 21, 3) := by decide +kernel
theorem d_Mo_checkOne_495 : decode b_Mo_checkOne 495 = .ok (.iload 6, 2) := by decide +kernel
theorem d_Mo_checkOne_497 : decode b_Mo_checkOne 497 = .ok (.bipush 58, 2) := by decide +kernel
theorem d_Mo_checkOne_499 : decode b_Mo_checkOne 499 = .ok (.if_icmp .eq 14, 3) := by decide +kernel
theorem d_Mo_checkOne_502 : decode b_Mo_checkOne 502 = .ok (.iload 6, 2) := by decide +kernel
theorem d_Mo_checkOne_504 : decode b_Mo_checkOne 504 = .ok (.bipush 59, 2) := by decide +kernel
theorem d_Mo_checkOne_506 : decode b_Mo_checkOne 506 = .ok (.if_icmp .eq 7, 3) := by decide +kernel
theorem d_Mo_checkOne_509 : decode b_Mo_checkOne 509 = .ok (.iconst 1, 1) := by decide +kernel
theorem d_Mo_checkOne_510 : decode b_Mo_checkOne 510 = .ok (.goto 4, 3) := by decide +kernel
theorem d_Mo_checkOne_513 : decode b_Mo_checkOne 513 = .ok (.iconst 0, 1) := by decide +kernel
theorem d_Mo_checkOne_514 : decode b_Mo_checkOne 514 = .ok (.putfield 792, 3) := by decide +kernel
theorem d_Mo_checkOne_517 : decode b_Mo_checkOne 517 = .ok (.aload_n 0, 1) := by decide +kernel
theorem d_Mo_checkOne_518 : decode b_Mo_checkOne 518 = .ok (.getfield 792, 3) := by decide +kernel
theorem d_Mo_checkOne_521 : decode b_Mo_checkOne 521 = .ok (.ifCond .eq 12, 3) := by decide +kernel
theorem d_Mo_checkOne_524 : decode b_Mo_checkOne 524 = .ok (.iload_n 2, 1) := by decide +kernel
theorem d_Mo_checkOne_525 : decode b_Mo_checkOne 525 = .ok (.ifCond .eq 8, 3) := by decide +kernel
theorem d_Mo_checkOne_528 : decode b_Mo_checkOne 528 = .ok (.bipush 35, 2) := by decide +kernel
theorem d_Mo_checkOne_530 : decode b_Mo_checkOne 530 = .ok (.goto 4, 3) := by decide +kernel
theorem d_Mo_checkOne_533 : decode b_Mo_checkOne 533 = .ok (.iconst 0, 1) := by decide +kernel
theorem d_Mo_checkOne_534 : decode b_Mo_checkOne 534 = .ok (.ireturn, 1) := by decide +kernel
abbrev ru_Mo_checkOne : Room := { frames := 6, cells := 0, slots := 0, locals := 141 }
def wj_Mo_checkOne_534 (y : Ly) (Post : St → Int32 → Prop) (a0 : Nat) (s_j534 : St) (z0j534 : Int32) : Prop := Post s_j534 z0j534
def wj_Mo_checkOne_533 (y : Ly) (Post : St → Int32 → Prop) (a0 : Nat) (s_j533 : St) : Prop := wj_Mo_checkOne_534 y Post a0 s_j533 0
def wj_Mo_checkOne_514 (y : Ly) (Post : St → Int32 → Prop) (a0 : Nat) (s_j514 : St) (x2j514 : Int32) (z1j514 : Int32) : Prop := nb z1j514 ∧ xP (uV s_j514 a0 73 z1j514) (fun s_26 : St => (((sV s_26 a0 73) = 0 → wj_Mo_checkOne_533 y Post a0 s_26) ∧ (¬ ((sV s_26 a0 73) = 0) → ((x2j514 = 0 → wj_Mo_checkOne_533 y Post a0 s_26) ∧ (¬ (x2j514 = 0) → wj_Mo_checkOne_534 y Post a0 s_26 35)))))
def wj_Mo_checkOne_513 (y : Ly) (Post : St → Int32 → Prop) (a0 : Nat) (s_j513 : St) (x2j513 : Int32) : Prop := wj_Mo_checkOne_514 y Post a0 s_j513 x2j513 0
def wj_Mo_checkOne_458 (y : Ly) (Post : St → Int32 → Prop) (a0 : Nat) (s_j458 : St) (x2j458 : Int32) (x5j458 : Int32) (x6j458 : Int32) : Prop := ((x5j458 ≤ 0 → ((x6j458 = 23 → wj_Mo_checkOne_513 y Post a0 s_j458 x2j458) ∧ (¬ (x6j458 = 23) → ((x6j458 = 40 → wj_Mo_checkOne_513 y Post a0 s_j458 x2j458) ∧ (¬ (x6j458 = 40) → ((x6j458 = 56 → wj_Mo_checkOne_513 y Post a0 s_j458 x2j458) ∧ (¬ (x6j458 = 56) → ((x6j458 = 57 → wj_Mo_checkOne_513 y Post a0 s_j458 x2j458) ∧ (¬ (x6j458 = 57) → ((x6j458 = 58 → wj_Mo_checkOne_513 y Post a0 s_j458 x2j458) ∧ (¬ (x6j458 = 58) → ((x6j458 = 59 → wj_Mo_checkOne_513 y Post a0 s_j458 x2j458) ∧ (¬ (x6j458 = 59) → wj_Mo_checkOne_514 y Post a0 s_j458 x2j458 1))))))))))))) ∧ (¬ (x5j458 ≤ 0) → Post s_j458 x5j458))
def wj_Mo_checkOne_345 (y : Ly) (Post : St → Int32 → Prop) (a0 : Nat) (s_j345 : St) (x1j345 : Int32) (x2j345 : Int32) (x6j345 : Int32) : Prop := wu_Mo_askHandlers y (fun (s_28 : St) (r_27 : Int32) => wj_Mo_checkOne_458 y Post a0 s_28 x2j345 r_27 x6j345) s_j345 a0 x1j345
def wb_Mo_checkOne_397 (y : Ly) (Post : St → Int32 → Prop) (K_397 : St → Int32 → Int32 → Int32 → Int32 → Int32 → Prop) (a0 : Nat) (s_h397 : St) (x2h397 : Int32) (x3h397 : Int32) (x5h397 : Int32) (x6h397 : Int32) (x7h397 : Int32) : Prop := ∃ b_29 : Nat, sO s_h397 a0 45 = some b_29 ∧ cl b_29 = 13 ∧ xA y s_h397 b_29 33 x3h397 (fun x_32 : Int32 => ((x_32 < x7h397 → wj_Mo_checkOne_458 y Post a0 s_h397 x2h397 x5h397 x6h397) ∧ (¬ (x_32 < x7h397) → ((¬ x5h397 = 0 → wj_Mo_checkOne_458 y Post a0 s_h397 x2h397 x5h397 x6h397) ∧ (x5h397 = 0 → ∃ b_33 : Nat, sO s_h397 a0 45 = some b_33 ∧ cl b_33 = 13 ∧ ∃ b_36 : Nat, sO s_h397 a0 45 = some b_36 ∧ cl b_36 = 13 ∧ xA y s_h397 b_36 32 x3h397 (fun x_39 : Int32 => ∃ b_40 : Nat, sO s_h397 a0 45 = some b_40 ∧ cl b_40 = 13 ∧ xA y s_h397 b_40 33 x3h397 (fun x_43 : Int32 => ¬ x_43 = 0 ∧ xA y s_h397 b_33 36 (x_39 + (x7h397 - x7h397 / x_43 * x_43)) (fun x_45 : Int32 => wu_Mo_goesTo y (fun (s_47 : St) (r_46 : Int32) => K_397 s_47 x2h397 x3h397 r_46 x6h397 (x7h397 + 1)) s_h397 a0 x_45))))))))
def wl_Mo_checkOne_397 (y : Ly) (Post : St → Int32 → Prop) (a0 : Nat) (s_h397 : St) (x2h397 : Int32) (x3h397 : Int32) (x5h397 : Int32) (x6h397 : Int32) (x7h397 : Int32) : Prop := ∃ (I : St → Int32 → Int32 → Int32 → Int32 → Int32 → Prop) (μ : St → Int32 → Int32 → Int32 → Int32 → Int32 → Nat), I s_h397 x2h397 x3h397 x5h397 x6h397 x7h397 ∧ ∀ (u : St) (t0 : Int32) (t1 : Int32) (t2 : Int32) (t3 : Int32) (t4 : Int32), I u t0 t1 t2 t3 t4 → wb_Mo_checkOne_397 y Post (fun z t0q t1q t2q t3q t4q => I z t0q t1q t2q t3q t4q ∧ μ z t0q t1q t2q t3q t4q < μ u t0 t1 t2 t3 t4) a0 u t0 t1 t2 t3 t4
def wj_Mo_checkOne_387 (y : Ly) (Post : St → Int32 → Prop) (a0 : Nat) (s_j387 : St) (x2j387 : Int32) (x3j387 : Int32) (x5j387 : Int32) (x6j387 : Int32) : Prop := ((¬ x6j387 = 40 → wj_Mo_checkOne_458 y Post a0 s_j387 x2j387 x5j387 x6j387) ∧ (x6j387 = 40 → wl_Mo_checkOne_397 y Post a0 s_j387 x2j387 x3j387 x5j387 x6j387 1))
def wj_Mo_checkOne_355 (y : Ly) (Post : St → Int32 → Prop) (a0 : Nat) (s_j355 : St) (x2j355 : Int32) (x3j355 : Int32) (x5j355 : Int32) (x6j355 : Int32) : Prop := ((x6j355 < 23 → wj_Mo_checkOne_387 y Post a0 s_j355 x2j355 x3j355 x5j355 x6j355) ∧ (¬ (x6j355 < 23) → ((39 < x6j355 → wj_Mo_checkOne_387 y Post a0 s_j355 x2j355 x3j355 x5j355 x6j355) ∧ (¬ (39 < x6j355) → ∃ b_48 : Nat, sO s_j355 a0 45 = some b_48 ∧ cl b_48 = 13 ∧ xA y s_j355 b_48 31 x3j355 (fun x_51 : Int32 => wu_Mo_goesTo y (fun (s_53 : St) (r_52 : Int32) => wj_Mo_checkOne_458 y Post a0 s_53 x2j355 r_52 x6j355) s_j355 a0 x_51)))))
def wj_Mo_checkOne_219 (y : Ly) (Post : St → Int32 → Prop) (a0 : Nat) (s_j219 : St) (x1j219 : Int32) (x2j219 : Int32) (x3j219 : Int32) : Prop := wu_Mo_askHandlers y (fun (s_10 : St) (r_9 : Int32) => ((r_9 ≤ 0 → ∃ b_11 : Nat, sO s_10 a0 45 = some b_11 ∧ cl b_11 = 13 ∧ xA y s_10 b_11 30 x3j219 (fun x_14 : Int32 => wu_Mo_checkTaken y (fun (s_16 : St) (r_15 : Int32) => ((r_15 ≤ 0 → wu_Mo_checkOwn y (fun (s_18 : St) (r_17 : Int32) => ((r_17 ≤ 0 → wu_Mo_act y (fun (s_20 : St) => ∃ b_21 : Nat, sO s_20 a0 45 = some b_21 ∧ cl b_21 = 13 ∧ xA y s_20 b_21 21 (sV s_20 a0 75) (fun x_24 : Int32 => (((sV s_20 a0 72) ≤ x_24 → ((x_14 = 5 → wj_Mo_checkOne_345 y Post a0 s_20 x1j219 x2j219 x_14) ∧ (¬ (x_14 = 5) → ((x_14 = 6 → wj_Mo_checkOne_345 y Post a0 s_20 x1j219 x2j219 x_14) ∧ (¬ (x_14 = 6) → ((¬ x_14 = 51 → wj_Mo_checkOne_355 y Post a0 s_20 x2j219 x3j219 r_17 x_14) ∧ (x_14 = 51 → ∃ b_54 : Nat, sO s_20 a0 45 = some b_54 ∧ cl b_54 = 13 ∧ xA y s_20 b_54 32 x3j219 (fun x_57 : Int32 => ((¬ x_57 = (sV s_20 a0 6) → wj_Mo_checkOne_355 y Post a0 s_20 x2j219 x3j219 r_17 x_14) ∧ (x_57 = (sV s_20 a0 6) → wj_Mo_checkOne_345 y Post a0 s_20 x1j219 x2j219 x_14)))))))))) ∧ (¬ ((sV s_20 a0 72) ≤ x_24) → Post s_20 30)))) s_18 a0 x_14 x3j219 x1j219) ∧ (¬ (r_17 ≤ 0) → Post s_18 r_17))) s_16 a0 x_14 x3j219) ∧ (¬ (r_15 ≤ 0) → Post s_16 r_15))) s_10 a0 x_14 x3j219)) ∧ (¬ (r_9 ≤ 0) → Post s_10 r_9))) s_j219 a0 x1j219
def wj_Mo_checkOne_197 (y : Ly) (Post : St → Int32 → Prop) (a0 : Nat) (s_j197 : St) (x1j197 : Int32) (x2j197 : Int32) (x3j197 : Int32) : Prop := ((¬ (sV s_j197 a0 73) = 0 → (((sV s_j197 a0 77) = 0 → wj_Mo_checkOne_219 y Post a0 s_j197 x1j197 x2j197 x3j197) ∧ (¬ ((sV s_j197 a0 77) = 0) → wu_Mo_record y (fun (s_59 : St) => wj_Mo_checkOne_219 y Post a0 s_59 x1j197 x2j197 x3j197) s_j197 a0 x1j197))) ∧ ((sV s_j197 a0 73) = 0 → Post s_j197 36))
def wb_Mo_checkOne_151 (y : Ly) (Post : St → Int32 → Prop) (K_151 : St → Int32 → Int32 → Int32 → Int32 → Int32 → Prop) (a0 : Nat) (s_h151 : St) (x1h151 : Int32) (x2h151 : Int32) (x3h151 : Int32) (x4h151 : Int32) (x6h151 : Int32) : Prop := (((sV s_h151 a0 72) ≤ x6h151 → nb 1 ∧ xP (uV s_h151 a0 73 1) (fun s_72 : St => wj_Mo_checkOne_197 y Post a0 s_72 x1h151 x2h151 x3h151)) ∧ (¬ ((sV s_h151 a0 72) ≤ x6h151) → ∃ b_73 : Nat, sO s_h151 a0 45 = some b_73 ∧ cl b_73 = 13 ∧ xA y s_h151 b_73 38 x4h151 (fun x_76 : Int32 => wu_Mo_frameKind y (fun (s_78 : St) (r_77 : Int32) => xS y s_78 a0 71 x6h151 r_77 (fun s_79 : St => K_151 s_79 x1h151 x2h151 x3h151 x4h151 (x6h151 + 1))) s_h151 a0 x4h151 (x_76 + x6h151))))
def wl_Mo_checkOne_151 (y : Ly) (Post : St → Int32 → Prop) (a0 : Nat) (s_h151 : St) (x1h151 : Int32) (x2h151 : Int32) (x3h151 : Int32) (x4h151 : Int32) (x6h151 : Int32) : Prop := ∃ (I : St → Int32 → Int32 → Int32 → Int32 → Int32 → Prop) (μ : St → Int32 → Int32 → Int32 → Int32 → Int32 → Nat), I s_h151 x1h151 x2h151 x3h151 x4h151 x6h151 ∧ ∀ (u : St) (t0 : Int32) (t1 : Int32) (t2 : Int32) (t3 : Int32) (t4 : Int32), I u t0 t1 t2 t3 t4 → wb_Mo_checkOne_151 y Post (fun z t0q t1q t2q t3q t4q => I z t0q t1q t2q t3q t4q ∧ μ z t0q t1q t2q t3q t4q < μ u t0 t1 t2 t3 t4) a0 u t0 t1 t2 t3 t4
def wj_Mo_checkOne_127 (y : Ly) (Post : St → Int32 → Prop) (K_77 : St → Int32 → Int32 → Int32 → Int32 → Int32 → Prop) (a0 : Nat) (s_j127 : St) (x1j127 : Int32) (x2j127 : Int32) (x3j127 : Int32) (x4j127 : Int32) (x6j127 : Int32) (z1j127 : Int32) (z2j127 : Int32) : Prop := xS y s_j127 a0 70 z1j127 z2j127 (fun s_84 : St => K_77 s_84 x1j127 x2j127 x3j127 x4j127 (x6j127 + 1))
def wb_Mo_checkOne_77 (y : Ly) (Post : St → Int32 → Prop) (K_77 : St → Int32 → Int32 → Int32 → Int32 → Int32 → Prop) (a0 : Nat) (s_h77 : St) (x1h77 : Int32) (x2h77 : Int32) (x3h77 : Int32) (x4h77 : Int32) (x6h77 : Int32) : Prop := ∃ b_62 : Nat, sO s_h77 a0 45 = some b_62 ∧ cl b_62 = 13 ∧ xA y s_h77 b_62 22 (sV s_h77 a0 75) (fun x_65 : Int32 => ((x_65 ≤ x6h77 → ∃ b_66 : Nat, sO s_h77 a0 45 = some b_66 ∧ cl b_66 = 13 ∧ xA y s_h77 b_66 39 x4h77 (fun x_69 : Int32 => xP (uV s_h77 a0 72 x_69) (fun s_70 : St => wl_Mo_checkOne_151 y Post a0 s_70 x1h77 x2h77 x3h77 x4h77 0))) ∧ (¬ (x_65 ≤ x6h77) → ∃ b_80 : Nat, sO s_h77 a0 45 = some b_80 ∧ cl b_80 = 13 ∧ xA y s_h77 b_80 38 x4h77 (fun x_83 : Int32 => ((x_83 ≤ x6h77 → wj_Mo_checkOne_127 y Post K_77 a0 s_h77 x1h77 x2h77 x3h77 x4h77 x6h77 x6h77 4) ∧ (¬ (x_83 ≤ x6h77) → wu_Mo_frameKind y (fun (s_86 : St) (r_85 : Int32) => wj_Mo_checkOne_127 y Post K_77 a0 s_86 x1h77 x2h77 x3h77 x4h77 x6h77 x6h77 r_85) s_h77 a0 x4h77 x6h77))))))
def wl_Mo_checkOne_77 (y : Ly) (Post : St → Int32 → Prop) (a0 : Nat) (s_h77 : St) (x1h77 : Int32) (x2h77 : Int32) (x3h77 : Int32) (x4h77 : Int32) (x6h77 : Int32) : Prop := ∃ (I : St → Int32 → Int32 → Int32 → Int32 → Int32 → Prop) (μ : St → Int32 → Int32 → Int32 → Int32 → Int32 → Nat), I s_h77 x1h77 x2h77 x3h77 x4h77 x6h77 ∧ ∀ (u : St) (t0 : Int32) (t1 : Int32) (t2 : Int32) (t3 : Int32) (t4 : Int32), I u t0 t1 t2 t3 t4 → wb_Mo_checkOne_77 y Post (fun z t0q t1q t2q t3q t4q => I z t0q t1q t2q t3q t4q ∧ μ z t0q t1q t2q t3q t4q < μ u t0 t1 t2 t3 t4) a0 u t0 t1 t2 t3 t4
def wj_Mo_checkOne_64 (y : Ly) (Post : St → Int32 → Prop) (a0 : Nat) (s_j64 : St) (x1j64 : Int32) (x2j64 : Int32) (x3j64 : Int32) (x4j64 : Int32) (z0j64 : Int32) : Prop := ((z0j64 ≤ 0 → wl_Mo_checkOne_77 y Post a0 s_j64 x1j64 x2j64 x3j64 x4j64 0) ∧ (¬ (z0j64 ≤ 0) → Post s_j64 z0j64))
def wu_Mo_checkOne (y : Ly) (Post : St → Int32 → Prop) (σ : St) (a0 : Nat) (v1 : Int32) (v2 : Int32) : Prop := ∃ b_1 : Nat, sO σ a0 45 = some b_1 ∧ cl b_1 = 13 ∧ xA y σ b_1 23 (sV σ a0 75) (fun x_4 : Int32 => ∃ b_5 : Nat, sO σ a0 45 = some b_5 ∧ cl b_5 = 13 ∧ xA y σ b_5 34 (x_4 + v1) (fun x_8 : Int32 => (((x_8 - 1) < 0 → wj_Mo_checkOne_197 y Post a0 σ v1 v2 (x_4 + v1)) ∧ (¬ ((x_8 - 1) < 0) → wu_Mo_isWrongFrame y (fun (s_61 : St) (r_60 : Int32) => ((r_60 = 0 → (((sV s_61 a0 73) = 0 → wj_Mo_checkOne_64 y Post a0 s_61 v1 v2 (x_4 + v1) (x_8 - 1) 0) ∧ (¬ ((sV s_61 a0 73) = 0) → wu_Mo_fitState y (fun (s_88 : St) (r_87 : Int32) => wj_Mo_checkOne_64 y Post a0 s_88 v1 v2 (x_4 + v1) (x_8 - 1) r_87) s_61 a0 (x_8 - 1)))) ∧ (¬ (r_60 = 0) → wj_Mo_checkOne_64 y Post a0 s_61 v1 v2 (x_4 + v1) (x_8 - 1) 38))) σ a0 (x_8 - 1)))))
set_option maxHeartbeats 4000000 in
set_option maxRecDepth 100000 in
theorem cu_Mo_checkOne (l : Launch) (D : va_G) (g : Nat → ClassId) (ad : Nat → Nat) (y : Ly) (Post : St → Int32 → Prop) (σ : St) (a0 : Nat) (v1 : Int32) (v2 : Int32) (sz : Nat) (h_a0 : cl a0 = 14) (h : wu_Mo_checkOne y Post σ a0 v1 v2) : Met l y_Mo_checkOne (mw y_Mo_checkOne b_Mo_checkOne 8 (some .int)) ru_Mo_checkOne (PC g D [] [.ref (ad a0), .int v1, .int v2] sz (ws g ad y σ)) (va_Qi (fun (r : Int32) (u : St) => Post u r) (QW D (va_A (ws g ad y σ) sz) (fun u => ws g ad y u)) (va_A (ws g ad y σ) sz)) 0 0 (va_A (ws g ad y σ) sz) := by
  refine ofI (by decide +kernel) (Nat.le_of_ble_eq_true rfl) ?_
  intro p e s m args below meth c A Q ls H locs G hsz hP hD hS hl hret
  subst hsz
  have hl : lv_has ls 8 [(0, .ref (ad a0)), (1, .int v1), (2, .int v2)] := hl
  unfold wu_Mo_checkOne at h
  refine lv_aload_n G.1 G.2.1 d_Mo_checkOne_0 rfl (lv_at hl 0 rfl) ?_
  obtain ⟨b_1, e_2, c_3, h⟩ := h
  refine ugf (v := .ref (ad b_1)) G hP h_a0 iMo rfl 45 (by decide) rfl q3109 rfl (by show va_rf ((sO σ a0 45).map ad) = _; rw [e_2]; rfl) d_Mo_checkOne_1 ?_
  refine ugfN (v := .ref (yP y b_1 23)) G hP c_3 iMw rfl 23 (by decide) rfl q2750 rfl rfl d_Mo_checkOne_4 ?_
  refine lv_aload_n G.1 G.2.1 d_Mo_checkOne_7 rfl (lv_at hl 0 rfl) ?_
  refine ugf (v := .int (sV σ a0 75)) G hP h_a0 iMo rfl 75 (by decide) rfl q3139 rfl rfl d_Mo_checkOne_8 ?_
  refine uiald G hP (kdp c_3 rfl) (typ c_3 rfl) h d_Mo_checkOne_11 (fun x_4 h => ?_)
  refine lv_iload_n G.1 G.2.1 d_Mo_checkOne_12 rfl (lv_at hl 1 rfl) ?_
  refine lv_iadd G.1 G.2.1 d_Mo_checkOne_13 ?_
  refine lv_istore_n (lv' := [(3, .int (x_4 + v1)), (0, .ref (ad a0)), (1, .int v1), (2, .int v2)]) G.1 G.2.1 d_Mo_checkOne_14 rfl hl (by decide) rfl (fun ls hl => ?_)
  refine lv_aload_n G.1 G.2.1 d_Mo_checkOne_15 rfl (lv_at hl 1 rfl) ?_
  obtain ⟨b_5, e_6, c_7, h⟩ := h
  refine ugf (v := .ref (ad b_5)) G hP h_a0 iMo rfl 45 (by decide) rfl q3109 rfl (by show va_rf ((sO σ a0 45).map ad) = _; rw [e_6]; rfl) d_Mo_checkOne_16 ?_
  refine W.eq (g2 := F0 m 19 ls [.ref (ad b_5)]) rfl ?_
  refine ugfN (v := .ref (yP y b_5 34)) G hP c_7 iMw rfl 34 (by decide) rfl q2772 rfl rfl d_Mo_checkOne_19 ?_
  refine lv_iload_n G.1 G.2.1 d_Mo_checkOne_22 rfl (lv_at hl 0 rfl) ?_
  refine uiald G hP (kdp c_7 rfl) (typ c_7 rfl) h d_Mo_checkOne_23 (fun x_8 h => ?_)
  refine lv_iconst (v := 1) G.1 G.2.1 d_Mo_checkOne_24 (by decide) ?_
  refine lv_isub G.1 G.2.1 d_Mo_checkOne_25 ?_
  refine lv_istore (lv' := [(4, .int (x_8 - 1)), (3, .int (x_4 + v1)), (0, .ref (ad a0)), (1, .int v1), (2, .int v2)]) G.1 G.2.1 d_Mo_checkOne_26 hl (by decide) rfl (fun ls hl => ?_)
  refine lv_iload G.1 G.2.1 d_Mo_checkOne_28 (lv_at hl 0 rfl) ?_
  have J_197 : ∀ (s_j197 : St) (x1j197 : Int32) (x2j197 : Int32) (x3j197 : Int32) (H : Heap) (locs : List Loc), wj_Mo_checkOne_197 y Post a0 s_j197 x1j197 x2j197 x3j197 → va_P D CL (ws g ad y s_j197) H → va_D A (ws g ad y s_j197) → va_S A s.heap H locs → ∀ ls, lv_has ls 8 [(0, .ref (ad a0)), (1, .int x1j197), (2, .int x2j197), (3, .int x3j197)] → W p l e ru_Mo_checkOne s m args below meth c H locs 0 0 Q (F0 m 197 ls []) := by
    intro s_j197 x1j197 x2j197 x3j197 H locs h hP hD hS ls hl
    unfold wj_Mo_checkOne_197 at h
    refine lv_aload_n G.1 G.2.1 d_Mo_checkOne_197 rfl (lv_at hl 0 rfl) ?_
    refine ugf (v := .int (sV s_j197 a0 73)) G hP h_a0 iMo rfl 73 (by decide) rfl q3137 rfl rfl d_Mo_checkOne_198 ?_
    refine lv_if_ne (tgt := 207) G.1 G.2.1 d_Mo_checkOne_201 (by decide) (fun c201 => ?_) (fun c201 => ?_)
    · skip
      have h := h.1 c201
      refine lv_aload_n G.1 G.2.1 d_Mo_checkOne_207 rfl (lv_at hl 0 rfl) ?_
      refine ugf (v := .int (sV s_j197 a0 77)) G hP h_a0 iMo rfl 77 (by decide) rfl q3141 rfl rfl d_Mo_checkOne_208 ?_
      have J_219 : ∀ (s_j219 : St) (x1j219 : Int32) (x2j219 : Int32) (x3j219 : Int32) (H : Heap) (locs : List Loc), wj_Mo_checkOne_219 y Post a0 s_j219 x1j219 x2j219 x3j219 → va_P D CL (ws g ad y s_j219) H → va_D A (ws g ad y s_j219) → va_S A s.heap H locs → ∀ ls, lv_has ls 8 [(0, .ref (ad a0)), (1, .int x1j219), (2, .int x2j219), (3, .int x3j219)] → W p l e ru_Mo_checkOne s m args below meth c H locs 0 0 Q (F0 m 219 ls []) := by
        intro s_j219 x1j219 x2j219 x3j219 H locs h hP hD hS ls hl
        unfold wj_Mo_checkOne_219 at h
        refine lv_aload_n G.1 G.2.1 d_Mo_checkOne_219 rfl (lv_at hl 0 rfl) ?_
        refine lv_iload_n G.1 G.2.1 d_Mo_checkOne_220 rfl (lv_at hl 1 rfl) ?_
        refine ucVi (As := [.int x1j219]) (rest := []) G hP hD hS (cu_Mo_askHandlers l D g ad y _ s_j219 a0 x1j219 H.size h_a0 h) w9_Mo_askHandlers q3745 ⟨Nat.le_of_ble_eq_true rfl, Nat.le_of_ble_eq_true rfl⟩ rfl rfl h_a0 (q := (RMo, TMo, 131)) rfl rfl hl.1 rfl (Nat.le_of_ble_eq_true rfl) rfl ⟨Nat.le_refl _, Nat.le_refl _⟩ d_Mo_checkOne_221 (fun r_9 s_10 H locs h hP hD hS => ?_)
        refine lv_istore (lv' := [(5, .int r_9), (0, .ref (ad a0)), (1, .int x1j219), (2, .int x2j219), (3, .int x3j219)]) G.1 G.2.1 d_Mo_checkOne_224 hl (by decide) rfl (fun ls hl => ?_)
        refine lv_iload G.1 G.2.1 d_Mo_checkOne_226 (lv_at hl 0 rfl) ?_
        refine lv_if_le (tgt := 234) G.1 G.2.1 d_Mo_checkOne_228 (by decide) (fun c228 => ?_) (fun c228 => ?_)
        · skip
          have h := h.1 c228
          refine lv_aload_n G.1 G.2.1 d_Mo_checkOne_234 rfl (lv_at hl 1 rfl) ?_
          obtain ⟨b_11, e_12, c_13, h⟩ := h
          refine ugf (v := .ref (ad b_11)) G hP h_a0 iMo rfl 45 (by decide) rfl q3109 rfl (by show va_rf ((sO s_10 a0 45).map ad) = _; rw [e_12]; rfl) d_Mo_checkOne_235 ?_
          refine ugfN (v := .ref (yP y b_11 30)) G hP c_13 iMw rfl 30 (by decide) rfl q2764 rfl rfl d_Mo_checkOne_238 ?_
          refine lv_iload_n G.1 G.2.1 d_Mo_checkOne_241 rfl (lv_at hl 4 rfl) ?_
          refine ubald G hP (kdp c_13 rfl) (typ c_13 rfl) h d_Mo_checkOne_242 (fun x_14 h => ?_)
          refine W.eq (g2 := F0 m 243 ls [.int x_14]) rfl ?_
          refine lv_istore (lv' := [(6, .int x_14), (5, .int r_9), (0, .ref (ad a0)), (1, .int x1j219), (2, .int x2j219), (3, .int x3j219)]) G.1 G.2.1 d_Mo_checkOne_243 hl (by decide) rfl (fun ls hl => ?_)
          refine lv_aload_n G.1 G.2.1 d_Mo_checkOne_245 rfl (lv_at hl 2 rfl) ?_
          refine lv_iload G.1 G.2.1 d_Mo_checkOne_246 (lv_at hl 0 rfl) ?_
          refine lv_iload_n G.1 G.2.1 d_Mo_checkOne_248 rfl (lv_at hl 5 rfl) ?_
          refine ucVi (As := [.int x_14, .int x3j219]) (rest := []) G hP hD hS (cu_Mo_checkTaken l D g ad y _ s_10 a0 x_14 x3j219 H.size h_a0 h) w9_Mo_checkTaken q3749 ⟨Nat.le_of_ble_eq_true rfl, Nat.le_of_ble_eq_true rfl⟩ rfl rfl h_a0 (q := (RMo, TMo, 131)) rfl rfl hl.1 rfl (Nat.le_of_ble_eq_true rfl) rfl ⟨Nat.le_refl _, Nat.le_refl _⟩ d_Mo_checkOne_249 (fun r_15 s_16 H locs h hP hD hS => ?_)
          refine lv_istore (lv' := [(5, .int r_15), (6, .int x_14), (0, .ref (ad a0)), (1, .int x1j219), (2, .int x2j219), (3, .int x3j219)]) G.1 G.2.1 d_Mo_checkOne_252 hl (by decide) rfl (fun ls hl => ?_)
          refine lv_iload G.1 G.2.1 d_Mo_checkOne_254 (lv_at hl 0 rfl) ?_
          refine lv_if_le (tgt := 262) G.1 G.2.1 d_Mo_checkOne_256 (by decide) (fun c256 => ?_) (fun c256 => ?_)
          · skip
            have h := h.1 c256
            refine lv_aload_n G.1 G.2.1 d_Mo_checkOne_262 rfl (lv_at hl 2 rfl) ?_
            refine lv_iload G.1 G.2.1 d_Mo_checkOne_263 (lv_at hl 1 rfl) ?_
            refine lv_iload_n G.1 G.2.1 d_Mo_checkOne_265 rfl (lv_at hl 5 rfl) ?_
            refine ucVi (As := [.int x_14, .int x3j219]) (rest := []) G hP hD hS (cu_Mo_checkOwn l D g ad y _ s_16 a0 x_14 x3j219 H.size h_a0 h) w9_Mo_checkOwn q3767 ⟨Nat.le_of_ble_eq_true rfl, Nat.le_of_ble_eq_true rfl⟩ rfl rfl h_a0 (q := (RMo, TMo, 131)) rfl rfl hl.1 rfl (Nat.le_of_ble_eq_true rfl) rfl ⟨Nat.le_refl _, Nat.le_refl _⟩ d_Mo_checkOne_266 (fun r_17 s_18 H locs h hP hD hS => ?_)
            refine W.eq (g2 := F0 m 269 ls [.int r_17]) rfl ?_
            refine lv_istore (lv' := [(5, .int r_17), (6, .int x_14), (0, .ref (ad a0)), (1, .int x1j219), (2, .int x2j219), (3, .int x3j219)]) G.1 G.2.1 d_Mo_checkOne_269 hl (by decide) rfl (fun ls hl => ?_)
            refine lv_iload G.1 G.2.1 d_Mo_checkOne_271 (lv_at hl 0 rfl) ?_
            refine lv_if_le (tgt := 279) G.1 G.2.1 d_Mo_checkOne_273 (by decide) (fun c273 => ?_) (fun c273 => ?_)
            · skip
              have h := h.1 c273
              refine lv_aload_n G.1 G.2.1 d_Mo_checkOne_279 rfl (lv_at hl 2 rfl) ?_
              refine lv_iload G.1 G.2.1 d_Mo_checkOne_280 (lv_at hl 1 rfl) ?_
              refine lv_iload_n G.1 G.2.1 d_Mo_checkOne_282 rfl (lv_at hl 5 rfl) ?_
              refine lv_iload_n G.1 G.2.1 d_Mo_checkOne_283 rfl (lv_at hl 3 rfl) ?_
              refine ucVv (As := [.int x_14, .int x3j219, .int x1j219]) (rest := []) G hP hD hS (cu_Mo_act l D g ad y _ s_18 a0 x_14 x3j219 x1j219 H.size h_a0 h) w9_Mo_act q3775 ⟨Nat.le_of_ble_eq_true rfl, Nat.le_of_ble_eq_true rfl⟩ rfl rfl h_a0 (q := (RMo, TMo, 131)) rfl rfl hl.1 rfl (Nat.le_of_ble_eq_true rfl) rfl ⟨Nat.le_refl _, Nat.le_refl _⟩ d_Mo_checkOne_284 (fun s_20 H locs h hP hD hS => ?_)
              refine lv_aload_n G.1 G.2.1 d_Mo_checkOne_287 rfl (lv_at hl 2 rfl) ?_
              refine ugf (v := .int (sV s_20 a0 72)) G hP h_a0 iMo rfl 72 (by decide) rfl q3136 rfl rfl d_Mo_checkOne_288 ?_
              refine lv_aload_n G.1 G.2.1 d_Mo_checkOne_291 rfl (lv_at hl 2 rfl) ?_
              obtain ⟨b_21, e_22, c_23, h⟩ := h
              refine ugf (v := .ref (ad b_21)) G hP h_a0 iMo rfl 45 (by decide) rfl q3109 rfl (by show va_rf ((sO s_20 a0 45).map ad) = _; rw [e_22]; rfl) d_Mo_checkOne_292 ?_
              refine W.eq (g2 := F0 m 295 ls [.ref (ad b_21), .int (sV s_20 a0 72)]) rfl ?_
              refine ugfN (v := .ref (yP y b_21 21)) G hP c_23 iMw rfl 21 (by decide) rfl q2746 rfl rfl d_Mo_checkOne_295 ?_
              refine lv_aload_n G.1 G.2.1 d_Mo_checkOne_298 rfl (lv_at hl 2 rfl) ?_
              refine ugf (v := .int (sV s_20 a0 75)) G hP h_a0 iMo rfl 75 (by decide) rfl q3139 rfl rfl d_Mo_checkOne_299 ?_
              refine uiald G hP (kdp c_23 rfl) (typ c_23 rfl) h d_Mo_checkOne_302 (fun x_24 h => ?_)
              refine lv_icmp_le (tgt := 309) G.1 G.2.1 d_Mo_checkOne_303 (by decide) (fun c303 => ?_) (fun c303 => ?_)
              · skip
                have h := h.1 c303
                refine lv_iload G.1 G.2.1 d_Mo_checkOne_309 (lv_at hl 1 rfl) ?_
                refine lv_iconst (v := 5) G.1 G.2.1 d_Mo_checkOne_311 (by decide) ?_
                have J_458 : ∀ (s_j458 : St) (x2j458 : Int32) (x5j458 : Int32) (x6j458 : Int32) (H : Heap) (locs : List Loc), wj_Mo_checkOne_458 y Post a0 s_j458 x2j458 x5j458 x6j458 → va_P D CL (ws g ad y s_j458) H → va_D A (ws g ad y s_j458) → va_S A s.heap H locs → ∀ ls, lv_has ls 8 [(0, .ref (ad a0)), (2, .int x2j458), (5, .int x5j458), (6, .int x6j458)] → W p l e ru_Mo_checkOne s m args below meth c H locs 0 0 Q (F0 m 458 ls []) := by
                  intro s_j458 x2j458 x5j458 x6j458 H locs h hP hD hS ls hl
                  unfold wj_Mo_checkOne_458 at h
                  refine lv_iload G.1 G.2.1 d_Mo_checkOne_458 (lv_at hl 2 rfl) ?_
                  refine lv_if_le (tgt := 466) G.1 G.2.1 d_Mo_checkOne_460 (by decide) (fun c460 => ?_) (fun c460 => ?_)
                  · skip
                    have h := h.1 c460
                    refine lv_aload_n G.1 G.2.1 d_Mo_checkOne_466 rfl (lv_at hl 0 rfl) ?_
                    refine lv_iload G.1 G.2.1 d_Mo_checkOne_467 (lv_at hl 3 rfl) ?_
                    refine lv_bipush (v := 23) G.1 G.2.1 d_Mo_checkOne_469 (by decide) ?_
                    have J_514 : ∀ (s_j514 : St) (x2j514 : Int32) (z1j514 : Int32) (H : Heap) (locs : List Loc), wj_Mo_checkOne_514 y Post a0 s_j514 x2j514 z1j514 → va_P D CL (ws g ad y s_j514) H → va_D A (ws g ad y s_j514) → va_S A s.heap H locs → ∀ ls, lv_has ls 8 [(0, .ref (ad a0)), (2, .int x2j514)] → W p l e ru_Mo_checkOne s m args below meth c H locs 0 0 Q (F0 m 514 ls [.int z1j514, .ref (ad a0)]) := by
                      intro s_j514 x2j514 z1j514 H locs h hP hD hS ls hl
                      unfold wj_Mo_checkOne_514 at h
                      obtain ⟨n_25, h⟩ := h
                      refine upf G hP hD hS h 73 putV h_a0 iMo tMo tMo_ok nMo rfl (by decide) rfl q3137 rfl rfl fV (nb_n n_25) (nb_f n_25) d_Mo_checkOne_514 (fun s_26 H locs h hP hD hS => ?_)
                      refine lv_aload_n G.1 G.2.1 d_Mo_checkOne_517 rfl (lv_at hl 0 rfl) ?_
                      refine ugf (v := .int (sV s_26 a0 73)) G hP h_a0 iMo rfl 73 (by decide) rfl q3137 rfl rfl d_Mo_checkOne_518 ?_
                      have J_534 : ∀ (s_j534 : St) (z0j534 : Int32) (H : Heap) (locs : List Loc), wj_Mo_checkOne_534 y Post a0 s_j534 z0j534 → va_P D CL (ws g ad y s_j534) H → va_D A (ws g ad y s_j534) → va_S A s.heap H locs → ∀ ls, lv_has ls 8 [] → W p l e ru_Mo_checkOne s m args below meth c H locs 0 0 Q (F0 m 534 ls [.int z0j534]) := by
                        intro s_j534 z0j534 H locs h hP hD hS ls hl
                        unfold wj_Mo_checkOne_534 at h
                        exact hret _ _ _ _ _ _ _ ls h hP hD hS (Nat.le_refl _) (Nat.le_refl _) d_Mo_checkOne_534
                      have J_533 : ∀ (s_j533 : St) (H : Heap) (locs : List Loc), wj_Mo_checkOne_533 y Post a0 s_j533 → va_P D CL (ws g ad y s_j533) H → va_D A (ws g ad y s_j533) → va_S A s.heap H locs → ∀ ls, lv_has ls 8 [] → W p l e ru_Mo_checkOne s m args below meth c H locs 0 0 Q (F0 m 533 ls []) := by
                        intro s_j533 H locs h hP hD hS ls hl
                        unfold wj_Mo_checkOne_533 at h
                        refine lv_iconst (v := 0) G.1 G.2.1 d_Mo_checkOne_533 (by decide) ?_
                        exact J_534 s_j533 0 H locs h hP hD hS ls (lv_sub hl [] rfl)
                      refine lv_if_eq (tgt := 533) G.1 G.2.1 d_Mo_checkOne_521 (by decide) (fun c521 => ?_) (fun c521 => ?_)
                      · skip
                        have h := h.1 c521
                        exact J_533 s_26 H locs h hP hD hS ls (lv_sub hl [] rfl)
                      · skip
                        have h := h.2 c521
                        refine lv_iload_n G.1 G.2.1 d_Mo_checkOne_524 rfl (lv_at hl 1 rfl) ?_
                        refine lv_if_eq (tgt := 533) G.1 G.2.1 d_Mo_checkOne_525 (by decide) (fun c525 => ?_) (fun c525 => ?_)
                        · skip
                          have h := h.1 c525
                          exact J_533 s_26 H locs h hP hD hS ls (lv_sub hl [] rfl)
                        · skip
                          have h := h.2 c525
                          refine lv_bipush (v := 35) G.1 G.2.1 d_Mo_checkOne_528 (by decide) ?_
                          refine lv_goto (tgt := 534) G.1 G.2.1 d_Mo_checkOne_530 (by decide) ?_
                          exact J_534 s_26 35 H locs h hP hD hS ls (lv_sub hl [] rfl)
                    have J_513 : ∀ (s_j513 : St) (x2j513 : Int32) (H : Heap) (locs : List Loc), wj_Mo_checkOne_513 y Post a0 s_j513 x2j513 → va_P D CL (ws g ad y s_j513) H → va_D A (ws g ad y s_j513) → va_S A s.heap H locs → ∀ ls, lv_has ls 8 [(0, .ref (ad a0)), (2, .int x2j513)] → W p l e ru_Mo_checkOne s m args below meth c H locs 0 0 Q (F0 m 513 ls [.ref (ad a0)]) := by
                      intro s_j513 x2j513 H locs h hP hD hS ls hl
                      unfold wj_Mo_checkOne_513 at h
                      refine lv_iconst (v := 0) G.1 G.2.1 d_Mo_checkOne_513 (by decide) ?_
                      exact J_514 s_j513 x2j513 0 H locs h hP hD hS ls (lv_sub hl [0, 1] rfl)
                    refine lv_icmp_eq (tgt := 513) G.1 G.2.1 d_Mo_checkOne_471 (by decide) (fun c471 => ?_) (fun c471 => ?_)
                    · skip
                      have h := h.1 c471
                      exact J_513 s_j458 x2j458 H locs h hP hD hS ls (lv_sub hl [0, 1] rfl)
                    · skip
                      have h := h.2 c471
                      refine lv_iload G.1 G.2.1 d_Mo_checkOne_474 (lv_at hl 3 rfl) ?_
                      refine lv_bipush (v := 40) G.1 G.2.1 d_Mo_checkOne_476 (by decide) ?_
                      refine lv_icmp_eq (tgt := 513) G.1 G.2.1 d_Mo_checkOne_478 (by decide) (fun c478 => ?_) (fun c478 => ?_)
                      · skip
                        have h := h.1 c478
                        exact J_513 s_j458 x2j458 H locs h hP hD hS ls (lv_sub hl [0, 1] rfl)
                      · skip
                        have h := h.2 c478
                        refine lv_iload G.1 G.2.1 d_Mo_checkOne_481 (lv_at hl 3 rfl) ?_
                        refine lv_bipush (v := 56) G.1 G.2.1 d_Mo_checkOne_483 (by decide) ?_
                        refine W.eq (g2 := F0 m 485 ls [.int 56, .int x6j458, .ref (ad a0)]) rfl ?_
                        refine lv_icmp_eq (tgt := 513) G.1 G.2.1 d_Mo_checkOne_485 (by decide) (fun c485 => ?_) (fun c485 => ?_)
                        · skip
                          have h := h.1 c485
                          exact J_513 s_j458 x2j458 H locs h hP hD hS ls (lv_sub hl [0, 1] rfl)
                        · skip
                          have h := h.2 c485
                          refine lv_iload G.1 G.2.1 d_Mo_checkOne_488 (lv_at hl 3 rfl) ?_
                          refine lv_bipush (v := 57) G.1 G.2.1 d_Mo_checkOne_490 (by decide) ?_
                          refine lv_icmp_eq (tgt := 513) G.1 G.2.1 d_Mo_checkOne_492 (by decide) (fun c492 => ?_) (fun c492 => ?_)
                          · skip
                            have h := h.1 c492
                            exact J_513 s_j458 x2j458 H locs h hP hD hS ls (lv_sub hl [0, 1] rfl)
                          · skip
                            have h := h.2 c492
                            refine lv_iload G.1 G.2.1 d_Mo_checkOne_495 (lv_at hl 3 rfl) ?_
                            refine lv_bipush (v := 58) G.1 G.2.1 d_Mo_checkOne_497 (by decide) ?_
                            refine lv_icmp_eq (tgt := 513) G.1 G.2.1 d_Mo_checkOne_499 (by decide) (fun c499 => ?_) (fun c499 => ?_)
                            · skip
                              have h := h.1 c499
                              exact J_513 s_j458 x2j458 H locs h hP hD hS ls (lv_sub hl [0, 1] rfl)
                            · skip
                              have h := h.2 c499
                              refine lv_iload G.1 G.2.1 d_Mo_checkOne_502 (lv_at hl 3 rfl) ?_
                              refine lv_bipush (v := 59) G.1 G.2.1 d_Mo_checkOne_504 (by decide) ?_
                              refine lv_icmp_eq (tgt := 513) G.1 G.2.1 d_Mo_checkOne_506 (by decide) (fun c506 => ?_) (fun c506 => ?_)
                              · skip
                                have h := h.1 c506
                                exact J_513 s_j458 x2j458 H locs h hP hD hS ls (lv_sub hl [0, 1] rfl)
                              · skip
                                have h := h.2 c506
                                refine lv_iconst (v := 1) G.1 G.2.1 d_Mo_checkOne_509 (by decide) ?_
                                refine lv_goto (tgt := 514) G.1 G.2.1 d_Mo_checkOne_510 (by decide) ?_
                                exact J_514 s_j458 x2j458 1 H locs h hP hD hS ls (lv_sub hl [0, 1] rfl)
                  · skip
                    have h := h.2 c460
                    refine lv_iload G.1 G.2.1 d_Mo_checkOne_463 (lv_at hl 2 rfl) ?_
                    exact hret _ _ _ _ _ _ _ ls h hP hD hS (Nat.le_refl _) (Nat.le_refl _) d_Mo_checkOne_465
                have J_345 : ∀ (s_j345 : St) (x1j345 : Int32) (x2j345 : Int32) (x6j345 : Int32) (H : Heap) (locs : List Loc), wj_Mo_checkOne_345 y Post a0 s_j345 x1j345 x2j345 x6j345 → va_P D CL (ws g ad y s_j345) H → va_D A (ws g ad y s_j345) → va_S A s.heap H locs → ∀ ls, lv_has ls 8 [(0, .ref (ad a0)), (1, .int x1j345), (2, .int x2j345), (6, .int x6j345)] → W p l e ru_Mo_checkOne s m args below meth c H locs 0 0 Q (F0 m 345 ls []) := by
                  intro s_j345 x1j345 x2j345 x6j345 H locs h hP hD hS ls hl
                  unfold wj_Mo_checkOne_345 at h
                  refine lv_aload_n G.1 G.2.1 d_Mo_checkOne_345 rfl (lv_at hl 0 rfl) ?_
                  refine lv_iload_n G.1 G.2.1 d_Mo_checkOne_346 rfl (lv_at hl 1 rfl) ?_
                  refine ucVi (As := [.int x1j345]) (rest := []) G hP hD hS (cu_Mo_askHandlers l D g ad y _ s_j345 a0 x1j345 H.size h_a0 h) w9_Mo_askHandlers q3745 ⟨Nat.le_of_ble_eq_true rfl, Nat.le_of_ble_eq_true rfl⟩ rfl rfl h_a0 (q := (RMo, TMo, 131)) rfl rfl hl.1 rfl (Nat.le_of_ble_eq_true rfl) rfl ⟨Nat.le_refl _, Nat.le_refl _⟩ d_Mo_checkOne_347 (fun r_27 s_28 H locs h hP hD hS => ?_)
                  refine lv_istore (lv' := [(5, .int r_27), (0, .ref (ad a0)), (1, .int x1j345), (2, .int x2j345), (6, .int x6j345)]) G.1 G.2.1 d_Mo_checkOne_350 hl (by decide) rfl (fun ls hl => ?_)
                  refine lv_goto (tgt := 458) G.1 G.2.1 d_Mo_checkOne_352 (by decide) ?_
                  exact J_458 s_28 x2j345 r_27 x6j345 H locs h hP hD hS ls (lv_sub hl [1, 3, 0, 4] rfl)
                refine lv_icmp_eq (tgt := 345) G.1 G.2.1 d_Mo_checkOne_312 (by decide) (fun c312 => ?_) (fun c312 => ?_)
                · skip
                  have h := h.1 c312
                  exact J_345 s_20 x1j219 x2j219 x_14 H locs h hP hD hS ls (lv_sub hl [2, 3, 4, 1] rfl)
                · skip
                  have h := h.2 c312
                  refine lv_iload G.1 G.2.1 d_Mo_checkOne_315 (lv_at hl 1 rfl) ?_
                  refine lv_bipush (v := 6) G.1 G.2.1 d_Mo_checkOne_317 (by decide) ?_
                  refine lv_icmp_eq (tgt := 345) G.1 G.2.1 d_Mo_checkOne_319 (by decide) (fun c319 => ?_) (fun c319 => ?_)
                  · skip
                    have h := h.1 c319
                    exact J_345 s_20 x1j219 x2j219 x_14 H locs h hP hD hS ls (lv_sub hl [2, 3, 4, 1] rfl)
                  · skip
                    have h := h.2 c319
                    refine lv_iload G.1 G.2.1 d_Mo_checkOne_322 (lv_at hl 1 rfl) ?_
                    refine W.eq (g2 := F0 m 324 ls [.int x_14]) rfl ?_
                    refine lv_bipush (v := 51) G.1 G.2.1 d_Mo_checkOne_324 (by decide) ?_
                    have J_355 : ∀ (s_j355 : St) (x2j355 : Int32) (x3j355 : Int32) (x5j355 : Int32) (x6j355 : Int32) (H : Heap) (locs : List Loc), wj_Mo_checkOne_355 y Post a0 s_j355 x2j355 x3j355 x5j355 x6j355 → va_P D CL (ws g ad y s_j355) H → va_D A (ws g ad y s_j355) → va_S A s.heap H locs → ∀ ls, lv_has ls 8 [(0, .ref (ad a0)), (2, .int x2j355), (3, .int x3j355), (5, .int x5j355), (6, .int x6j355)] → W p l e ru_Mo_checkOne s m args below meth c H locs 0 0 Q (F0 m 355 ls []) := by
                      intro s_j355 x2j355 x3j355 x5j355 x6j355 H locs h hP hD hS ls hl
                      unfold wj_Mo_checkOne_355 at h
                      refine lv_iload G.1 G.2.1 d_Mo_checkOne_355 (lv_at hl 4 rfl) ?_
                      refine lv_bipush (v := 23) G.1 G.2.1 d_Mo_checkOne_357 (by decide) ?_
                      have J_387 : ∀ (s_j387 : St) (x2j387 : Int32) (x3j387 : Int32) (x5j387 : Int32) (x6j387 : Int32) (H : Heap) (locs : List Loc), wj_Mo_checkOne_387 y Post a0 s_j387 x2j387 x3j387 x5j387 x6j387 → va_P D CL (ws g ad y s_j387) H → va_D A (ws g ad y s_j387) → va_S A s.heap H locs → ∀ ls, lv_has ls 8 [(0, .ref (ad a0)), (2, .int x2j387), (3, .int x3j387), (5, .int x5j387), (6, .int x6j387)] → W p l e ru_Mo_checkOne s m args below meth c H locs 0 0 Q (F0 m 387 ls []) := by
                        intro s_j387 x2j387 x3j387 x5j387 x6j387 H locs h hP hD hS ls hl
                        unfold wj_Mo_checkOne_387 at h
                        refine lv_iload G.1 G.2.1 d_Mo_checkOne_387 (lv_at hl 4 rfl) ?_
                        refine lv_bipush (v := 40) G.1 G.2.1 d_Mo_checkOne_389 (by decide) ?_
                        refine lv_icmp_ne (tgt := 458) G.1 G.2.1 d_Mo_checkOne_391 (by decide) (fun c391 => ?_) (fun c391 => ?_)
                        · skip
                          have h := h.1 c391
                          exact J_458 s_j387 x2j387 x5j387 x6j387 H locs h hP hD hS ls (lv_sub hl [0, 1, 3, 4] rfl)
                        · skip
                          have h := h.2 c391
                          refine lv_iconst (v := 1) G.1 G.2.1 d_Mo_checkOne_394 (by decide) ?_
                          refine lv_istore (lv' := [(7, .int 1), (0, .ref (ad a0)), (2, .int x2j387), (3, .int x3j387), (5, .int x5j387), (6, .int x6j387)]) G.1 G.2.1 d_Mo_checkOne_395 hl (by decide) rfl (fun ls hl => ?_)
                          unfold wl_Mo_checkOne_397 at h
                          obtain ⟨I_397, μ_397, hI_397, hB_397⟩ := h
                          have L_397 : ∀ (n_397 : Nat) (s_h397 : St) (x2h397 : Int32) (x3h397 : Int32) (x5h397 : Int32) (x6h397 : Int32) (x7h397 : Int32), μ_397 s_h397 x2h397 x3h397 x5h397 x6h397 x7h397 < n_397 → I_397 s_h397 x2h397 x3h397 x5h397 x6h397 x7h397 → ∀ (H : Heap) (locs : List Loc), va_P D CL (ws g ad y s_h397) H → va_D A (ws g ad y s_h397) → va_S A s.heap H locs → ∀ ls, lv_has ls 8 [(0, .ref (ad a0)), (2, .int x2h397), (3, .int x3h397), (5, .int x5h397), (6, .int x6h397), (7, .int x7h397)] → W p l e ru_Mo_checkOne s m args below meth c H locs 0 0 Q (F0 m 397 ls []) := by
                            intro n_397
                            induction n_397 with
                            | zero => intro s_h397 x2h397 x3h397 x5h397 x6h397 x7h397 hμ; exact absurd hμ (Nat.not_lt_zero _)
                            | succ n_397 ih_397 =>
                              intro s_h397 x2h397 x3h397 x5h397 x6h397 x7h397 hμ_397 hJ H locs hP hD hS ls hl
                              obtain ⟨K_397, hK_397, h⟩ : ∃ K : St → Int32 → Int32 → Int32 → Int32 → Int32 → Prop, (∀ z (t0 : Int32) (t1 : Int32) (t2 : Int32) (t3 : Int32) (t4 : Int32), K z t0 t1 t2 t3 t4 → I_397 z t0 t1 t2 t3 t4 ∧ μ_397 z t0 t1 t2 t3 t4 < μ_397 s_h397 x2h397 x3h397 x5h397 x6h397 x7h397) ∧ wb_Mo_checkOne_397 y Post K a0 s_h397 x2h397 x3h397 x5h397 x6h397 x7h397 := ⟨_, fun _ _ _ _ _ _ h => h, hB_397 s_h397 x2h397 x3h397 x5h397 x6h397 x7h397 hJ⟩
                              unfold wb_Mo_checkOne_397 at h
                              refine lv_iload G.1 G.2.1 d_Mo_checkOne_397 (lv_at hl 5 rfl) ?_
                              refine lv_aload_n G.1 G.2.1 d_Mo_checkOne_399 rfl (lv_at hl 0 rfl) ?_
                              obtain ⟨b_29, e_30, c_31, h⟩ := h
                              refine ugf (v := .ref (ad b_29)) G hP h_a0 iMo rfl 45 (by decide) rfl q3109 rfl (by show va_rf ((sO s_h397 a0 45).map ad) = _; rw [e_30]; rfl) d_Mo_checkOne_400 ?_
                              refine ugfN (v := .ref (yP y b_29 33)) G hP c_31 iMw rfl 33 (by decide) rfl q2770 rfl rfl d_Mo_checkOne_403 ?_
                              refine lv_iload_n G.1 G.2.1 d_Mo_checkOne_406 rfl (lv_at hl 2 rfl) ?_
                              refine uiald G hP (kdp c_31 rfl) (typ c_31 rfl) h d_Mo_checkOne_407 (fun x_32 h => ?_)
                              refine lv_icmp_gt (tgt := 458) G.1 G.2.1 d_Mo_checkOne_408 (by decide) (fun c408 => ?_) (fun c408 => ?_)
                              · skip
                                have h := h.1 c408
                                exact J_458 s_h397 x2h397 x5h397 x6h397 H locs h hP hD hS ls (lv_sub hl [0, 1, 3, 4] rfl)
                              · skip
                                have h := h.2 c408
                                refine lv_iload G.1 G.2.1 d_Mo_checkOne_411 (lv_at hl 3 rfl) ?_
                                refine lv_if_ne (tgt := 458) G.1 G.2.1 d_Mo_checkOne_413 (by decide) (fun c413 => ?_) (fun c413 => ?_)
                                · skip
                                  have h := h.1 c413
                                  exact J_458 s_h397 x2h397 x5h397 x6h397 H locs h hP hD hS ls (lv_sub hl [0, 1, 3, 4] rfl)
                                · skip
                                  have h := h.2 c413
                                  refine lv_aload_n G.1 G.2.1 d_Mo_checkOne_416 rfl (lv_at hl 0 rfl) ?_
                                  refine lv_aload_n G.1 G.2.1 d_Mo_checkOne_417 rfl (lv_at hl 0 rfl) ?_
                                  refine W.eq (g2 := F0 m 418 ls [.ref (ad a0), .ref (ad a0)]) rfl ?_
                                  obtain ⟨b_33, e_34, c_35, h⟩ := h
                                  refine ugf (v := .ref (ad b_33)) G hP h_a0 iMo rfl 45 (by decide) rfl q3109 rfl (by show va_rf ((sO s_h397 a0 45).map ad) = _; rw [e_34]; rfl) d_Mo_checkOne_418 ?_
                                  refine ugfN (v := .ref (yP y b_33 36)) G hP c_35 iMw rfl 36 (by decide) rfl q2775 rfl rfl d_Mo_checkOne_421 ?_
                                  refine lv_aload_n G.1 G.2.1 d_Mo_checkOne_424 rfl (lv_at hl 0 rfl) ?_
                                  obtain ⟨b_36, e_37, c_38, h⟩ := h
                                  refine ugf (v := .ref (ad b_36)) G hP h_a0 iMo rfl 45 (by decide) rfl q3109 rfl (by show va_rf ((sO s_h397 a0 45).map ad) = _; rw [e_37]; rfl) d_Mo_checkOne_425 ?_
                                  refine ugfN (v := .ref (yP y b_36 32)) G hP c_38 iMw rfl 32 (by decide) rfl q2768 rfl rfl d_Mo_checkOne_428 ?_
                                  refine lv_iload_n G.1 G.2.1 d_Mo_checkOne_431 rfl (lv_at hl 2 rfl) ?_
                                  refine uiald G hP (kdp c_38 rfl) (typ c_38 rfl) h d_Mo_checkOne_432 (fun x_39 h => ?_)
                                  refine lv_iload G.1 G.2.1 d_Mo_checkOne_433 (lv_at hl 5 rfl) ?_
                                  refine lv_aload_n G.1 G.2.1 d_Mo_checkOne_435 rfl (lv_at hl 0 rfl) ?_
                                  obtain ⟨b_40, e_41, c_42, h⟩ := h
                                  refine ugf (v := .ref (ad b_40)) G hP h_a0 iMo rfl 45 (by decide) rfl q3109 rfl (by show va_rf ((sO s_h397 a0 45).map ad) = _; rw [e_41]; rfl) d_Mo_checkOne_436 ?_
                                  refine ugfN (v := .ref (yP y b_40 33)) G hP c_42 iMw rfl 33 (by decide) rfl q2770 rfl rfl d_Mo_checkOne_439 ?_
                                  refine lv_iload_n G.1 G.2.1 d_Mo_checkOne_442 rfl (lv_at hl 2 rfl) ?_
                                  refine W.eq (g2 := F0 m 443 ls [.int x3h397, .ref (yP y b_40 33), .int x7h397, .int x_39, .ref (yP y b_33 36), .ref (ad a0)]) rfl ?_
                                  refine uiald G hP (kdp c_42 rfl) (typ c_42 rfl) h d_Mo_checkOne_443 (fun x_43 h => ?_)
                                  obtain ⟨n_44, h⟩ := h
                                  refine lv_irem G.1 G.2.1 d_Mo_checkOne_444 n_44 ?_
                                  refine lv_iadd G.1 G.2.1 d_Mo_checkOne_445 ?_
                                  refine uiald G hP (kdp c_35 rfl) (typ c_35 rfl) h d_Mo_checkOne_446 (fun x_45 h => ?_)
                                  refine ucVi (As := [.int x_45]) (rest := []) G hP hD hS (cu_Mo_goesTo l D g ad y _ s_h397 a0 x_45 H.size h_a0 h) w9_Mo_goesTo q3783 ⟨Nat.le_of_ble_eq_true rfl, Nat.le_of_ble_eq_true rfl⟩ rfl rfl h_a0 (q := (RMo, TMo, 131)) rfl rfl hl.1 rfl (Nat.le_of_ble_eq_true rfl) rfl ⟨Nat.le_refl _, Nat.le_refl _⟩ d_Mo_checkOne_447 (fun r_46 s_47 H locs h hP hD hS => ?_)
                                  refine lv_istore (lv' := [(5, .int r_46), (0, .ref (ad a0)), (2, .int x2h397), (3, .int x3h397), (6, .int x6h397), (7, .int x7h397)]) G.1 G.2.1 d_Mo_checkOne_450 hl (by decide) rfl (fun ls hl => ?_)
                                  refine lv_iinc (v := x7h397 + 1) (lv' := [(7, .int (x7h397 + 1)), (5, .int r_46), (0, .ref (ad a0)), (2, .int x2h397), (3, .int x3h397), (6, .int x6h397)]) G.1 G.2.1 d_Mo_checkOne_452 hl (k := 5) rfl rfl (by decide) rfl (fun ls hl => ?_)
                                  refine lv_goto (tgt := 397) G.1 G.2.1 d_Mo_checkOne_455 (by decide) ?_
                                  have h := hK_397 s_47 x2h397 x3h397 r_46 x6h397 (x7h397 + 1) h
                                  exact ih_397 s_47 x2h397 x3h397 r_46 x6h397 (x7h397 + 1) (Nat.lt_of_lt_of_le h.2 (Nat.le_of_lt_succ hμ_397)) h.1 H locs hP hD hS ls (lv_sub hl [2, 3, 4, 1, 5, 0] rfl)
                          exact L_397 _ s_j387 x2j387 x3j387 x5j387 x6j387 1 (Nat.lt_succ_self _) hI_397 H locs hP hD hS ls (lv_sub hl [1, 2, 3, 4, 5, 0] rfl)
                      refine lv_icmp_lt (tgt := 387) G.1 G.2.1 d_Mo_checkOne_359 (by decide) (fun c359 => ?_) (fun c359 => ?_)
                      · skip
                        have h := h.1 c359
                        exact J_387 s_j355 x2j355 x3j355 x5j355 x6j355 H locs h hP hD hS ls (lv_sub hl [0, 1, 2, 3, 4] rfl)
                      · skip
                        have h := h.2 c359
                        refine lv_iload G.1 G.2.1 d_Mo_checkOne_362 (lv_at hl 4 rfl) ?_
                        refine lv_bipush (v := 39) G.1 G.2.1 d_Mo_checkOne_364 (by decide) ?_
                        refine lv_icmp_gt (tgt := 387) G.1 G.2.1 d_Mo_checkOne_366 (by decide) (fun c366 => ?_) (fun c366 => ?_)
                        · skip
                          have h := h.1 c366
                          exact J_387 s_j355 x2j355 x3j355 x5j355 x6j355 H locs h hP hD hS ls (lv_sub hl [0, 1, 2, 3, 4] rfl)
                        · skip
                          have h := h.2 c366
                          refine lv_aload_n G.1 G.2.1 d_Mo_checkOne_369 rfl (lv_at hl 0 rfl) ?_
                          refine lv_aload_n G.1 G.2.1 d_Mo_checkOne_370 rfl (lv_at hl 0 rfl) ?_
                          obtain ⟨b_48, e_49, c_50, h⟩ := h
                          refine ugf (v := .ref (ad b_48)) G hP h_a0 iMo rfl 45 (by decide) rfl q3109 rfl (by show va_rf ((sO s_j355 a0 45).map ad) = _; rw [e_49]; rfl) d_Mo_checkOne_371 ?_
                          refine ugfN (v := .ref (yP y b_48 31)) G hP c_50 iMw rfl 31 (by decide) rfl q2766 rfl rfl d_Mo_checkOne_374 ?_
                          refine lv_iload_n G.1 G.2.1 d_Mo_checkOne_377 rfl (lv_at hl 2 rfl) ?_
                          refine W.eq (g2 := F0 m 378 ls [.int x3j355, .ref (yP y b_48 31), .ref (ad a0)]) rfl ?_
                          refine uiald G hP (kdp c_50 rfl) (typ c_50 rfl) h d_Mo_checkOne_378 (fun x_51 h => ?_)
                          refine ucVi (As := [.int x_51]) (rest := []) G hP hD hS (cu_Mo_goesTo l D g ad y _ s_j355 a0 x_51 H.size h_a0 h) w9_Mo_goesTo q3783 ⟨Nat.le_of_ble_eq_true rfl, Nat.le_of_ble_eq_true rfl⟩ rfl rfl h_a0 (q := (RMo, TMo, 131)) rfl rfl hl.1 rfl (Nat.le_of_ble_eq_true rfl) rfl ⟨Nat.le_refl _, Nat.le_refl _⟩ d_Mo_checkOne_379 (fun r_52 s_53 H locs h hP hD hS => ?_)
                          refine lv_istore (lv' := [(5, .int r_52), (0, .ref (ad a0)), (2, .int x2j355), (3, .int x3j355), (6, .int x6j355)]) G.1 G.2.1 d_Mo_checkOne_382 hl (by decide) rfl (fun ls hl => ?_)
                          refine lv_goto (tgt := 458) G.1 G.2.1 d_Mo_checkOne_384 (by decide) ?_
                          exact J_458 s_53 x2j355 r_52 x6j355 H locs h hP hD hS ls (lv_sub hl [1, 2, 0, 4] rfl)
                    refine lv_icmp_ne (tgt := 355) G.1 G.2.1 d_Mo_checkOne_326 (by decide) (fun c326 => ?_) (fun c326 => ?_)
                    · skip
                      have h := h.1 c326
                      exact J_355 s_20 x2j219 x3j219 r_17 x_14 H locs h hP hD hS ls (lv_sub hl [2, 4, 5, 0, 1] rfl)
                    · skip
                      have h := h.2 c326
                      refine lv_aload_n G.1 G.2.1 d_Mo_checkOne_329 rfl (lv_at hl 2 rfl) ?_
                      obtain ⟨b_54, e_55, c_56, h⟩ := h
                      refine ugf (v := .ref (ad b_54)) G hP h_a0 iMo rfl 45 (by decide) rfl q3109 rfl (by show va_rf ((sO s_20 a0 45).map ad) = _; rw [e_55]; rfl) d_Mo_checkOne_330 ?_
                      refine ugfN (v := .ref (yP y b_54 32)) G hP c_56 iMw rfl 32 (by decide) rfl q2768 rfl rfl d_Mo_checkOne_333 ?_
                      refine lv_iload_n G.1 G.2.1 d_Mo_checkOne_336 rfl (lv_at hl 5 rfl) ?_
                      refine uiald G hP (kdp c_56 rfl) (typ c_56 rfl) h d_Mo_checkOne_337 (fun x_57 h => ?_)
                      refine lv_aload_n G.1 G.2.1 d_Mo_checkOne_338 rfl (lv_at hl 2 rfl) ?_
                      refine ugf (v := .int (sV s_20 a0 6)) G hP h_a0 iMo rfl 6 (by decide) rfl q3070 rfl rfl d_Mo_checkOne_339 ?_
                      refine lv_icmp_ne (tgt := 355) G.1 G.2.1 d_Mo_checkOne_342 (by decide) (fun c342 => ?_) (fun c342 => ?_)
                      · skip
                        have h := h.1 c342
                        exact J_355 s_20 x2j219 x3j219 r_17 x_14 H locs h hP hD hS ls (lv_sub hl [2, 4, 5, 0, 1] rfl)
                      · skip
                        have h := h.2 c342
                        exact J_345 s_20 x1j219 x2j219 x_14 H locs h hP hD hS ls (lv_sub hl [2, 3, 4, 1] rfl)
              · skip
                have h := h.2 c303
                refine lv_bipush (v := 30) G.1 G.2.1 d_Mo_checkOne_306 (by decide) ?_
                exact hret _ _ _ _ _ _ _ ls h hP hD hS (Nat.le_refl _) (Nat.le_refl _) d_Mo_checkOne_308
            · skip
              have h := h.2 c273
              refine lv_iload G.1 G.2.1 d_Mo_checkOne_276 (lv_at hl 0 rfl) ?_
              exact hret _ _ _ _ _ _ _ ls h hP hD hS (Nat.le_refl _) (Nat.le_refl _) d_Mo_checkOne_278
          · skip
            have h := h.2 c256
            refine lv_iload G.1 G.2.1 d_Mo_checkOne_259 (lv_at hl 0 rfl) ?_
            exact hret _ _ _ _ _ _ _ ls h hP hD hS (Nat.le_refl _) (Nat.le_refl _) d_Mo_checkOne_261
        · skip
          have h := h.2 c228
          refine lv_iload G.1 G.2.1 d_Mo_checkOne_231 (lv_at hl 0 rfl) ?_
          exact hret _ _ _ _ _ _ _ ls h hP hD hS (Nat.le_refl _) (Nat.le_refl _) d_Mo_checkOne_233
      refine lv_if_eq (tgt := 219) G.1 G.2.1 d_Mo_checkOne_211 (by decide) (fun c211 => ?_) (fun c211 => ?_)
      · skip
        have h := h.1 c211
        exact J_219 s_j197 x1j197 x2j197 x3j197 H locs h hP hD hS ls (lv_sub hl [0, 1, 2, 3] rfl)
      · skip
        have h := h.2 c211
        refine lv_aload_n G.1 G.2.1 d_Mo_checkOne_214 rfl (lv_at hl 0 rfl) ?_
        refine lv_iload_n G.1 G.2.1 d_Mo_checkOne_215 rfl (lv_at hl 1 rfl) ?_
        refine ucVv (As := [.int x1j197]) (rest := []) G hP hD hS (cu_Mo_record l D g ad y _ s_j197 a0 x1j197 H.size h_a0 h) w9_Mo_record q3741 ⟨Nat.le_of_ble_eq_true rfl, Nat.le_of_ble_eq_true rfl⟩ rfl rfl h_a0 (q := (RMo, TMo, 131)) rfl rfl hl.1 rfl (Nat.le_of_ble_eq_true rfl) rfl ⟨Nat.le_refl _, Nat.le_refl _⟩ d_Mo_checkOne_216 (fun s_59 H locs h hP hD hS => ?_)
        exact J_219 s_59 x1j197 x2j197 x3j197 H locs h hP hD hS ls (lv_sub hl [0, 1, 2, 3] rfl)
    · skip
      have h := h.2 c201
      refine lv_bipush (v := 36) G.1 G.2.1 d_Mo_checkOne_204 (by decide) ?_
      exact hret _ _ _ _ _ _ _ ls h hP hD hS (Nat.le_refl _) (Nat.le_refl _) d_Mo_checkOne_206
  refine lv_if_lt (tgt := 197) G.1 G.2.1 d_Mo_checkOne_30 (by decide) (fun c30 => ?_) (fun c30 => ?_)
  · skip
    have h := h.1 c30
    exact J_197 σ v1 v2 (x_4 + v1) H locs h hP hD hS ls (lv_sub hl [2, 3, 4, 1] rfl)
  · skip
    have h := h.2 c30
    refine lv_aload_n G.1 G.2.1 d_Mo_checkOne_33 rfl (lv_at hl 2 rfl) ?_
    refine lv_iload G.1 G.2.1 d_Mo_checkOne_34 (lv_at hl 0 rfl) ?_
    refine ucVi (As := [.int (x_8 - 1)]) (rest := []) G hP hD hS (cu_Mo_isWrongFrame l D g ad y _ σ a0 (x_8 - 1) H.size h_a0 h) w9_Mo_isWrongFrame q3713 ⟨Nat.le_of_ble_eq_true rfl, Nat.le_of_ble_eq_true rfl⟩ rfl rfl h_a0 (q := (RMo, TMo, 131)) rfl rfl hl.1 rfl (Nat.le_of_ble_eq_true rfl) rfl ⟨Nat.le_refl _, Nat.le_refl _⟩ d_Mo_checkOne_36 (fun r_60 s_61 H locs h hP hD hS => ?_)
    have J_64 : ∀ (s_j64 : St) (x1j64 : Int32) (x2j64 : Int32) (x3j64 : Int32) (x4j64 : Int32) (z0j64 : Int32) (H : Heap) (locs : List Loc), wj_Mo_checkOne_64 y Post a0 s_j64 x1j64 x2j64 x3j64 x4j64 z0j64 → va_P D CL (ws g ad y s_j64) H → va_D A (ws g ad y s_j64) → va_S A s.heap H locs → ∀ ls, lv_has ls 8 [(0, .ref (ad a0)), (1, .int x1j64), (2, .int x2j64), (3, .int x3j64), (4, .int x4j64)] → W p l e ru_Mo_checkOne s m args below meth c H locs 0 0 Q (F0 m 64 ls [.int z0j64]) := by
      intro s_j64 x1j64 x2j64 x3j64 x4j64 z0j64 H locs h hP hD hS ls hl
      unfold wj_Mo_checkOne_64 at h
      refine lv_istore (lv' := [(5, .int z0j64), (0, .ref (ad a0)), (1, .int x1j64), (2, .int x2j64), (3, .int x3j64), (4, .int x4j64)]) G.1 G.2.1 d_Mo_checkOne_64 hl (by decide) rfl (fun ls hl => ?_)
      refine lv_iload G.1 G.2.1 d_Mo_checkOne_66 (lv_at hl 0 rfl) ?_
      refine lv_if_le (tgt := 74) G.1 G.2.1 d_Mo_checkOne_68 (by decide) (fun c68 => ?_) (fun c68 => ?_)
      · skip
        have h := h.1 c68
        refine lv_iconst (v := 0) G.1 G.2.1 d_Mo_checkOne_74 (by decide) ?_
        refine lv_istore (lv' := [(6, .int 0), (5, .int z0j64), (0, .ref (ad a0)), (1, .int x1j64), (2, .int x2j64), (3, .int x3j64), (4, .int x4j64)]) G.1 G.2.1 d_Mo_checkOne_75 hl (by decide) rfl (fun ls hl => ?_)
        unfold wl_Mo_checkOne_77 at h
        obtain ⟨I_77, μ_77, hI_77, hB_77⟩ := h
        have L_77 : ∀ (n_77 : Nat) (s_h77 : St) (x1h77 : Int32) (x2h77 : Int32) (x3h77 : Int32) (x4h77 : Int32) (x6h77 : Int32), μ_77 s_h77 x1h77 x2h77 x3h77 x4h77 x6h77 < n_77 → I_77 s_h77 x1h77 x2h77 x3h77 x4h77 x6h77 → ∀ (H : Heap) (locs : List Loc), va_P D CL (ws g ad y s_h77) H → va_D A (ws g ad y s_h77) → va_S A s.heap H locs → ∀ ls, lv_has ls 8 [(0, .ref (ad a0)), (1, .int x1h77), (2, .int x2h77), (3, .int x3h77), (4, .int x4h77), (6, .int x6h77)] → W p l e ru_Mo_checkOne s m args below meth c H locs 0 0 Q (F0 m 77 ls []) := by
          intro n_77
          induction n_77 with
          | zero => intro s_h77 x1h77 x2h77 x3h77 x4h77 x6h77 hμ; exact absurd hμ (Nat.not_lt_zero _)
          | succ n_77 ih_77 =>
            intro s_h77 x1h77 x2h77 x3h77 x4h77 x6h77 hμ_77 hJ H locs hP hD hS ls hl
            obtain ⟨K_77, hK_77, h⟩ : ∃ K : St → Int32 → Int32 → Int32 → Int32 → Int32 → Prop, (∀ z (t0 : Int32) (t1 : Int32) (t2 : Int32) (t3 : Int32) (t4 : Int32), K z t0 t1 t2 t3 t4 → I_77 z t0 t1 t2 t3 t4 ∧ μ_77 z t0 t1 t2 t3 t4 < μ_77 s_h77 x1h77 x2h77 x3h77 x4h77 x6h77) ∧ wb_Mo_checkOne_77 y Post K a0 s_h77 x1h77 x2h77 x3h77 x4h77 x6h77 := ⟨_, fun _ _ _ _ _ _ h => h, hB_77 s_h77 x1h77 x2h77 x3h77 x4h77 x6h77 hJ⟩
            unfold wb_Mo_checkOne_77 at h
            refine lv_iload G.1 G.2.1 d_Mo_checkOne_77 (lv_at hl 5 rfl) ?_
            refine lv_aload_n G.1 G.2.1 d_Mo_checkOne_79 rfl (lv_at hl 0 rfl) ?_
            obtain ⟨b_62, e_63, c_64, h⟩ := h
            refine ugf (v := .ref (ad b_62)) G hP h_a0 iMo rfl 45 (by decide) rfl q3109 rfl (by show va_rf ((sO s_h77 a0 45).map ad) = _; rw [e_63]; rfl) d_Mo_checkOne_80 ?_
            refine ugfN (v := .ref (yP y b_62 22)) G hP c_64 iMw rfl 22 (by decide) rfl q2748 rfl rfl d_Mo_checkOne_83 ?_
            refine lv_aload_n G.1 G.2.1 d_Mo_checkOne_86 rfl (lv_at hl 0 rfl) ?_
            refine ugf (v := .int (sV s_h77 a0 75)) G hP h_a0 iMo rfl 75 (by decide) rfl q3139 rfl rfl d_Mo_checkOne_87 ?_
            refine uiald G hP (kdp c_64 rfl) (typ c_64 rfl) h d_Mo_checkOne_90 (fun x_65 h => ?_)
            refine lv_icmp_ge (tgt := 134) G.1 G.2.1 d_Mo_checkOne_91 (by decide) (fun c91 => ?_) (fun c91 => ?_)
            · skip
              have h := h.1 c91
              refine lv_aload_n G.1 G.2.1 d_Mo_checkOne_134 rfl (lv_at hl 0 rfl) ?_
              refine lv_aload_n G.1 G.2.1 d_Mo_checkOne_135 rfl (lv_at hl 0 rfl) ?_
              obtain ⟨b_66, e_67, c_68, h⟩ := h
              refine ugf (v := .ref (ad b_66)) G hP h_a0 iMo rfl 45 (by decide) rfl q3109 rfl (by show va_rf ((sO s_h77 a0 45).map ad) = _; rw [e_67]; rfl) d_Mo_checkOne_136 ?_
              refine W.eq (g2 := F0 m 139 ls [.ref (ad b_66), .ref (ad a0)]) rfl ?_
              refine ugfN (v := .ref (yP y b_66 39)) G hP c_68 iMw rfl 39 (by decide) rfl q2780 rfl rfl d_Mo_checkOne_139 ?_
              refine lv_iload G.1 G.2.1 d_Mo_checkOne_142 (lv_at hl 4 rfl) ?_
              refine uiald G hP (kdp c_68 rfl) (typ c_68 rfl) h d_Mo_checkOne_144 (fun x_69 h => ?_)
              refine upf G hP hD hS h 72 putV h_a0 iMo tMo tMo_ok nMo rfl (by decide) rfl q3136 rfl rfl fV rfl rfl d_Mo_checkOne_145 (fun s_70 H locs h hP hD hS => ?_)
              refine lv_iconst (v := 0) G.1 G.2.1 d_Mo_checkOne_148 (by decide) ?_
              refine lv_istore (lv' := [(6, .int 0), (0, .ref (ad a0)), (1, .int x1h77), (2, .int x2h77), (3, .int x3h77), (4, .int x4h77)]) G.1 G.2.1 d_Mo_checkOne_149 hl (by decide) rfl (fun ls hl => ?_)
              unfold wl_Mo_checkOne_151 at h
              obtain ⟨I_151, μ_151, hI_151, hB_151⟩ := h
              have L_151 : ∀ (n_151 : Nat) (s_h151 : St) (x1h151 : Int32) (x2h151 : Int32) (x3h151 : Int32) (x4h151 : Int32) (x6h151 : Int32), μ_151 s_h151 x1h151 x2h151 x3h151 x4h151 x6h151 < n_151 → I_151 s_h151 x1h151 x2h151 x3h151 x4h151 x6h151 → ∀ (H : Heap) (locs : List Loc), va_P D CL (ws g ad y s_h151) H → va_D A (ws g ad y s_h151) → va_S A s.heap H locs → ∀ ls, lv_has ls 8 [(0, .ref (ad a0)), (1, .int x1h151), (2, .int x2h151), (3, .int x3h151), (4, .int x4h151), (6, .int x6h151)] → W p l e ru_Mo_checkOne s m args below meth c H locs 0 0 Q (F0 m 151 ls []) := by
                intro n_151
                induction n_151 with
                | zero => intro s_h151 x1h151 x2h151 x3h151 x4h151 x6h151 hμ; exact absurd hμ (Nat.not_lt_zero _)
                | succ n_151 ih_151 =>
                  intro s_h151 x1h151 x2h151 x3h151 x4h151 x6h151 hμ_151 hJ H locs hP hD hS ls hl
                  obtain ⟨K_151, hK_151, h⟩ : ∃ K : St → Int32 → Int32 → Int32 → Int32 → Int32 → Prop, (∀ z (t0 : Int32) (t1 : Int32) (t2 : Int32) (t3 : Int32) (t4 : Int32), K z t0 t1 t2 t3 t4 → I_151 z t0 t1 t2 t3 t4 ∧ μ_151 z t0 t1 t2 t3 t4 < μ_151 s_h151 x1h151 x2h151 x3h151 x4h151 x6h151) ∧ wb_Mo_checkOne_151 y Post K a0 s_h151 x1h151 x2h151 x3h151 x4h151 x6h151 := ⟨_, fun _ _ _ _ _ _ h => h, hB_151 s_h151 x1h151 x2h151 x3h151 x4h151 x6h151 hJ⟩
                  unfold wb_Mo_checkOne_151 at h
                  refine lv_iload G.1 G.2.1 d_Mo_checkOne_151 (lv_at hl 5 rfl) ?_
                  refine lv_aload_n G.1 G.2.1 d_Mo_checkOne_153 rfl (lv_at hl 0 rfl) ?_
                  refine ugf (v := .int (sV s_h151 a0 72)) G hP h_a0 iMo rfl 72 (by decide) rfl q3136 rfl rfl d_Mo_checkOne_154 ?_
                  refine lv_icmp_ge (tgt := 192) G.1 G.2.1 d_Mo_checkOne_157 (by decide) (fun c157 => ?_) (fun c157 => ?_)
                  · skip
                    have h := h.1 c157
                    refine lv_aload_n G.1 G.2.1 d_Mo_checkOne_192 rfl (lv_at hl 0 rfl) ?_
                    refine lv_iconst (v := 1) G.1 G.2.1 d_Mo_checkOne_193 (by decide) ?_
                    obtain ⟨n_71, h⟩ := h
                    refine upf G hP hD hS h 73 putV h_a0 iMo tMo tMo_ok nMo rfl (by decide) rfl q3137 rfl rfl fV (nb_n n_71) (nb_f n_71) d_Mo_checkOne_194 (fun s_72 H locs h hP hD hS => ?_)
                    exact J_197 s_72 x1h151 x2h151 x3h151 H locs h hP hD hS ls (lv_sub hl [0, 1, 2, 3] rfl)
                  · skip
                    have h := h.2 c157
                    refine lv_aload_n G.1 G.2.1 d_Mo_checkOne_160 rfl (lv_at hl 0 rfl) ?_
                    refine ugf (v := .ref (yP y a0 71)) G hP h_a0 iMo rfl 71 (by decide) rfl q3135 rfl rfl d_Mo_checkOne_161 ?_
                    refine lv_iload G.1 G.2.1 d_Mo_checkOne_164 (lv_at hl 5 rfl) ?_
                    refine lv_aload_n G.1 G.2.1 d_Mo_checkOne_166 rfl (lv_at hl 0 rfl) ?_
                    refine lv_iload G.1 G.2.1 d_Mo_checkOne_167 (lv_at hl 4 rfl) ?_
                    refine lv_aload_n G.1 G.2.1 d_Mo_checkOne_169 rfl (lv_at hl 0 rfl) ?_
                    obtain ⟨b_73, e_74, c_75, h⟩ := h
                    refine ugf (v := .ref (ad b_73)) G hP h_a0 iMo rfl 45 (by decide) rfl q3109 rfl (by show va_rf ((sO s_h151 a0 45).map ad) = _; rw [e_74]; rfl) d_Mo_checkOne_170 ?_
                    refine W.eq (g2 := F0 m 173 ls [.ref (ad b_73), .int x4h151, .ref (ad a0), .int x6h151, .ref (yP y a0 71)]) rfl ?_
                    refine ugfN (v := .ref (yP y b_73 38)) G hP c_75 iMw rfl 38 (by decide) rfl q2778 rfl rfl d_Mo_checkOne_173 ?_
                    refine lv_iload G.1 G.2.1 d_Mo_checkOne_176 (lv_at hl 4 rfl) ?_
                    refine uiald G hP (kdp c_75 rfl) (typ c_75 rfl) h d_Mo_checkOne_178 (fun x_76 h => ?_)
                    refine lv_iload G.1 G.2.1 d_Mo_checkOne_179 (lv_at hl 5 rfl) ?_
                    refine lv_iadd G.1 G.2.1 d_Mo_checkOne_181 ?_
                    refine ucVi (As := [.int x4h151, .int (x_76 + x6h151)]) (rest := [.int x6h151, .ref (yP y a0 71)]) G hP hD hS (cu_Mo_frameKind l D g ad y _ s_h151 a0 x4h151 (x_76 + x6h151) H.size h_a0 h) w9_Mo_frameKind q3717 ⟨Nat.le_of_ble_eq_true rfl, Nat.le_of_ble_eq_true rfl⟩ rfl rfl h_a0 (q := (RMo, TMo, 131)) rfl rfl hl.1 rfl (Nat.le_of_ble_eq_true rfl) rfl ⟨Nat.le_refl _, Nat.le_refl _⟩ d_Mo_checkOne_182 (fun r_77 s_78 H locs h hP hD hS => ?_)
                    refine uiast G hP hD hS (kdp h_a0 rfl) (typ h_a0 rfl) h d_Mo_checkOne_185 (fun s_79 H locs h hP hD hS => ?_)
                    refine lv_iinc (v := x6h151 + 1) (lv' := [(6, .int (x6h151 + 1)), (0, .ref (ad a0)), (1, .int x1h151), (2, .int x2h151), (3, .int x3h151), (4, .int x4h151)]) G.1 G.2.1 d_Mo_checkOne_186 hl (k := 5) rfl rfl (by decide) rfl (fun ls hl => ?_)
                    refine lv_goto (tgt := 151) G.1 G.2.1 d_Mo_checkOne_189 (by decide) ?_
                    have h := hK_151 s_79 x1h151 x2h151 x3h151 x4h151 (x6h151 + 1) h
                    exact ih_151 s_79 x1h151 x2h151 x3h151 x4h151 (x6h151 + 1) (Nat.lt_of_lt_of_le h.2 (Nat.le_of_lt_succ hμ_151)) h.1 H locs hP hD hS ls (lv_sub hl [1, 2, 3, 4, 5, 0] rfl)
              exact L_151 _ s_70 x1h77 x2h77 x3h77 x4h77 0 (Nat.lt_succ_self _) hI_151 H locs hP hD hS ls (lv_sub hl [1, 2, 3, 4, 5, 0] rfl)
            · skip
              have h := h.2 c91
              refine lv_aload_n G.1 G.2.1 d_Mo_checkOne_94 rfl (lv_at hl 0 rfl) ?_
              refine ugf (v := .ref (yP y a0 70)) G hP h_a0 iMo rfl 70 (by decide) rfl q3134 rfl rfl d_Mo_checkOne_95 ?_
              refine lv_iload G.1 G.2.1 d_Mo_checkOne_98 (lv_at hl 5 rfl) ?_
              refine W.eq (g2 := F0 m 100 ls [.int x6h77, .ref (yP y a0 70)]) rfl ?_
              refine lv_iload G.1 G.2.1 d_Mo_checkOne_100 (lv_at hl 5 rfl) ?_
              refine lv_aload_n G.1 G.2.1 d_Mo_checkOne_102 rfl (lv_at hl 0 rfl) ?_
              obtain ⟨b_80, e_81, c_82, h⟩ := h
              refine ugf (v := .ref (ad b_80)) G hP h_a0 iMo rfl 45 (by decide) rfl q3109 rfl (by show va_rf ((sO s_h77 a0 45).map ad) = _; rw [e_81]; rfl) d_Mo_checkOne_103 ?_
              refine ugfN (v := .ref (yP y b_80 38)) G hP c_82 iMw rfl 38 (by decide) rfl q2778 rfl rfl d_Mo_checkOne_106 ?_
              refine lv_iload G.1 G.2.1 d_Mo_checkOne_109 (lv_at hl 4 rfl) ?_
              refine uiald G hP (kdp c_82 rfl) (typ c_82 rfl) h d_Mo_checkOne_111 (fun x_83 h => ?_)
              have J_127 : ∀ (s_j127 : St) (x1j127 : Int32) (x2j127 : Int32) (x3j127 : Int32) (x4j127 : Int32) (x6j127 : Int32) (z1j127 : Int32) (z2j127 : Int32) (H : Heap) (locs : List Loc), wj_Mo_checkOne_127 y Post K_77 a0 s_j127 x1j127 x2j127 x3j127 x4j127 x6j127 z1j127 z2j127 → va_P D CL (ws g ad y s_j127) H → va_D A (ws g ad y s_j127) → va_S A s.heap H locs → ∀ ls, lv_has ls 8 [(0, .ref (ad a0)), (1, .int x1j127), (2, .int x2j127), (3, .int x3j127), (4, .int x4j127), (6, .int x6j127)] → W p l e ru_Mo_checkOne s m args below meth c H locs 0 0 Q (F0 m 127 ls [.int z2j127, .int z1j127, .ref (yP y a0 70)]) := by
                intro s_j127 x1j127 x2j127 x3j127 x4j127 x6j127 z1j127 z2j127 H locs h hP hD hS ls hl
                unfold wj_Mo_checkOne_127 at h
                refine uiast G hP hD hS (kdp h_a0 rfl) (typ h_a0 rfl) h d_Mo_checkOne_127 (fun s_84 H locs h hP hD hS => ?_)
                refine lv_iinc (v := x6j127 + 1) (lv' := [(6, .int (x6j127 + 1)), (0, .ref (ad a0)), (1, .int x1j127), (2, .int x2j127), (3, .int x3j127), (4, .int x4j127)]) G.1 G.2.1 d_Mo_checkOne_128 hl (k := 5) rfl rfl (by decide) rfl (fun ls hl => ?_)
                refine lv_goto (tgt := 77) G.1 G.2.1 d_Mo_checkOne_131 (by decide) ?_
                have h := hK_77 s_84 x1j127 x2j127 x3j127 x4j127 (x6j127 + 1) h
                exact ih_77 s_84 x1j127 x2j127 x3j127 x4j127 (x6j127 + 1) (Nat.lt_of_lt_of_le h.2 (Nat.le_of_lt_succ hμ_77)) h.1 H locs hP hD hS ls (lv_sub hl [1, 2, 3, 4, 5, 0] rfl)
              refine lv_icmp_ge (tgt := 126) G.1 G.2.1 d_Mo_checkOne_112 (by decide) (fun c112 => ?_) (fun c112 => ?_)
              · skip
                have h := h.1 c112
                refine lv_iconst (v := 4) G.1 G.2.1 d_Mo_checkOne_126 (by decide) ?_
                exact J_127 s_h77 x1h77 x2h77 x3h77 x4h77 x6h77 x6h77 4 H locs h hP hD hS ls (lv_sub hl [0, 1, 2, 3, 4, 5] rfl)
              · skip
                have h := h.2 c112
                refine lv_aload_n G.1 G.2.1 d_Mo_checkOne_115 rfl (lv_at hl 0 rfl) ?_
                refine lv_iload G.1 G.2.1 d_Mo_checkOne_116 (lv_at hl 4 rfl) ?_
                refine lv_iload G.1 G.2.1 d_Mo_checkOne_118 (lv_at hl 5 rfl) ?_
                refine ucVi (As := [.int x4h77, .int x6h77]) (rest := [.int x6h77, .ref (yP y a0 70)]) G hP hD hS (cu_Mo_frameKind l D g ad y _ s_h77 a0 x4h77 x6h77 H.size h_a0 h) w9_Mo_frameKind q3717 ⟨Nat.le_of_ble_eq_true rfl, Nat.le_of_ble_eq_true rfl⟩ rfl rfl h_a0 (q := (RMo, TMo, 131)) rfl rfl hl.1 rfl (Nat.le_of_ble_eq_true rfl) rfl ⟨Nat.le_refl _, Nat.le_refl _⟩ d_Mo_checkOne_120 (fun r_85 s_86 H locs h hP hD hS => ?_)
                refine lv_goto (tgt := 127) G.1 G.2.1 d_Mo_checkOne_123 (by decide) ?_
                exact J_127 s_86 x1h77 x2h77 x3h77 x4h77 x6h77 x6h77 r_85 H locs h hP hD hS ls (lv_sub hl [0, 1, 2, 3, 4, 5] rfl)
        exact L_77 _ s_j64 x1j64 x2j64 x3j64 x4j64 0 (Nat.lt_succ_self _) hI_77 H locs hP hD hS ls (lv_sub hl [2, 3, 4, 5, 6, 0] rfl)
      · skip
        have h := h.2 c68
        refine lv_iload G.1 G.2.1 d_Mo_checkOne_71 (lv_at hl 0 rfl) ?_
        exact hret _ _ _ _ _ _ _ ls h hP hD hS (Nat.le_refl _) (Nat.le_refl _) d_Mo_checkOne_73
    refine lv_if_eq (tgt := 47) G.1 G.2.1 d_Mo_checkOne_39 (by decide) (fun c39 => ?_) (fun c39 => ?_)
    · skip
      have h := h.1 c39
      refine W.eq (g2 := F0 m 47 ls []) rfl ?_
      refine lv_aload_n G.1 G.2.1 d_Mo_checkOne_47 rfl (lv_at hl 2 rfl) ?_
      refine ugf (v := .int (sV s_61 a0 73)) G hP h_a0 iMo rfl 73 (by decide) rfl q3137 rfl rfl d_Mo_checkOne_48 ?_
      refine lv_if_eq (tgt := 63) G.1 G.2.1 d_Mo_checkOne_51 (by decide) (fun c51 => ?_) (fun c51 => ?_)
      · skip
        have h := h.1 c51
        refine lv_iconst (v := 0) G.1 G.2.1 d_Mo_checkOne_63 (by decide) ?_
        exact J_64 s_61 v1 v2 (x_4 + v1) (x_8 - 1) 0 H locs h hP hD hS ls (lv_sub hl [2, 3, 4, 1, 0] rfl)
      · skip
        have h := h.2 c51
        refine lv_aload_n G.1 G.2.1 d_Mo_checkOne_54 rfl (lv_at hl 2 rfl) ?_
        refine lv_iload G.1 G.2.1 d_Mo_checkOne_55 (lv_at hl 0 rfl) ?_
        refine ucVi (As := [.int (x_8 - 1)]) (rest := []) G hP hD hS (cu_Mo_fitState l D g ad y _ s_61 a0 (x_8 - 1) H.size h_a0 h) w9_Mo_fitState q3721 ⟨Nat.le_of_ble_eq_true rfl, Nat.le_of_ble_eq_true rfl⟩ rfl rfl h_a0 (q := (RMo, TMo, 131)) rfl rfl hl.1 rfl (Nat.le_of_ble_eq_true rfl) rfl ⟨Nat.le_refl _, Nat.le_refl _⟩ d_Mo_checkOne_57 (fun r_87 s_88 H locs h hP hD hS => ?_)
        refine lv_goto (tgt := 64) G.1 G.2.1 d_Mo_checkOne_60 (by decide) ?_
        exact J_64 s_88 v1 v2 (x_4 + v1) (x_8 - 1) r_87 H locs h hP hD hS ls (lv_sub hl [2, 3, 4, 1, 0] rfl)
    · skip
      have h := h.2 c39
      refine W.eq (g2 := F0 m 42 ls []) rfl ?_
      refine lv_bipush (v := 38) G.1 G.2.1 d_Mo_checkOne_42 (by decide) ?_
      refine lv_goto (tgt := 64) G.1 G.2.1 d_Mo_checkOne_44 (by decide) ?_
      exact J_64 s_61 v1 v2 (x_4 + v1) (x_8 - 1) 38 H locs h hP hD hS ls (lv_sub hl [2, 3, 4, 1, 0] rfl)
theorem q3705 : Cond.methodLink "ClassWorksModel" 795 y_Mo_begin ∈ lw_ok := lw_okmem (List.mem_of_getElem? (i := 3705) (by decide +kernel)) rfl
theorem q3708 : Cond.code y_Mo_begin b_Mo_begin 7 (none) ∈ lw_ok := lw_okmem (List.mem_of_getElem? (i := 3708) (by decide +kernel)) rfl
theorem q3707 : Cond.instanceMethod y_Mo_begin ∈ lw_ok := lw_okmem (List.mem_of_getElem? (i := 3707) (by decide +kernel)) rfl
theorem q223 : Cond.selects y_Mo_begin.cls y_Mo_begin y_Mo_begin ∈ lw_ok := lw_okmem (List.mem_of_getElem? (i := 223) (by decide +kernel)) rfl
theorem w9_Mo_begin : CWv y_Mo_begin b_Mo_begin 7 (none) 2 ∧ Cond.instanceMethod y_Mo_begin ∈ lw_ok ∧ Cond.selects y_Mo_begin.cls y_Mo_begin y_Mo_begin ∈ lw_ok := ⟨⟨q3708, q348, by decide +kernel, by decide +kernel, by decide +kernel⟩, q3707, q223⟩
theorem q3709 : Cond.methodLink "ClassWorksModel" 798 y_Mo_checkOne ∈ lw_ok := lw_okmem (List.mem_of_getElem? (i := 3709) (by decide +kernel)) rfl
theorem q3712 : Cond.code y_Mo_checkOne b_Mo_checkOne 8 (some .int) ∈ lw_ok := lw_okmem (List.mem_of_getElem? (i := 3712) (by decide +kernel)) rfl
theorem q3711 : Cond.instanceMethod y_Mo_checkOne ∈ lw_ok := lw_okmem (List.mem_of_getElem? (i := 3711) (by decide +kernel)) rfl
theorem q224 : Cond.selects y_Mo_checkOne.cls y_Mo_checkOne y_Mo_checkOne ∈ lw_ok := lw_okmem (List.mem_of_getElem? (i := 224) (by decide +kernel)) rfl
theorem w9_Mo_checkOne : CWv y_Mo_checkOne b_Mo_checkOne 8 (some .int) 2 ∧ Cond.instanceMethod y_Mo_checkOne ∈ lw_ok ∧ Cond.selects y_Mo_checkOne.cls y_Mo_checkOne y_Mo_checkOne ∈ lw_ok := ⟨⟨q3712, q348, by decide +kernel, by decide +kernel, by decide +kernel⟩, q3711, q224⟩
def y_Mo_check : MethodName := ⟨"ClassWorksModel", "check", "(II)I"⟩
abbrev b_Mo_check : ByteArray := prog_14_method_71_code
theorem q3138 : Cond.fieldLink "ClassWorksModel" 759 "ClassWorksModel" "checkedAt" "I" ∈ lw_ok := lw_okmem (List.mem_of_getElem? (i := 3138) (by decide +kernel)) rfl
theorem d_Mo_check_0 : decode b_Mo_check 0 = .ok (.aload_n 0, 1) := by decide +kernel
theorem d_Mo_check_1 : decode b_Mo_check 1 = .ok (.getfield 522, 3) := by decide +kernel
theorem d_Mo_check_4 : decode b_Mo_check 4 = .ok (.getfield 465, 3) := by decide +kernel
theorem d_Mo_check_7 : decode b_Mo_check 7 = .ok (.iload_n 2, 1) := by decide +kernel
theorem d_Mo_check_8 : decode b_Mo_check 8 = .ok (.iaload, 1) := by decide +kernel
theorem d_Mo_check_9 : decode b_Mo_check 9 = .ok (.ifCond .ne 5, 3) := by decide +kernel
theorem d_Mo_check_12 : decode b_Mo_check 12 = .ok (.iconst 0, 1) := by decide +kernel
theorem d_Mo_check_13 : decode b_Mo_check 13 = .ok (.ireturn, 1) := by decide +kernel
theorem d_Mo_check_14 : decode b_Mo_check 14 = .ok (.aload_n 0, 1) := by decide +kernel
theorem d_Mo_check_15 : decode b_Mo_check 15 = .ok (.iload_n 1, 1) := by decide +kernel
theorem d_Mo_check_16 : decode b_Mo_check 16 = .ok (.iload_n 2, 1) := by decide +kernel
theorem d_Mo_check_17 : decode b_Mo_check 17 = .ok (.invokevirtual 795, 3) := by decide +kernel
theorem d_Mo_check_20 : decode b_Mo_check 20 = .ok (.iconst 0, 1) := by decide +kernel
theorem d_Mo_check_21 : decode b_Mo_check 21 = .ok (.istore_n 3, 1) := by decide +kernel
theorem d_Mo_check_22 : decode b_Mo_check 22 = .ok (.iload_n 3, 1) := by decide +kernel
theorem d_Mo_check_23 : decode b_Mo_check 23 = .ok (.aload_n 0, 1) := by decide +kernel
theorem d_Mo_check_24 : decode b_Mo_check 24 = .ok (.getfield 522, 3) := by decide +kernel
theorem d_Mo_check_27 : decode b_Mo_check 27 = .ok (.getfield 465, 3) := by decide +kernel
theorem d_Mo_check_30 : decode b_Mo_check 30 = .ok (.iload_n 2, 1) := by decide +kernel
theorem d_Mo_check_31 : decode b_Mo_check 31 = .ok (.iaload, 1) := by decide +kernel
theorem d_Mo_check_32 : decode b_Mo_check 32 = .ok (.if_icmp .ge 49, 3) := by decide +kernel
theorem d_Mo_check_35 : decode b_Mo_check 35 = .ok (.aload_n 0, 1) := by decide +kernel
theorem d_Mo_check_36 : decode b_Mo_check 36 = .ok (.iload_n 3, 1) := by decide +kernel
theorem d_Mo_check_37 : decode b_Mo_check 37 = .ok (.iload_n 3, 1) := by decide +kernel
theorem d_Mo_check_38 : decode b_Mo_check 38 = .ok (.aload_n 0, 1) := by decide +kernel
theorem d_Mo_check_39 : decode b_Mo_check 39 = .ok (.getfield 522, 3) := by decide +kernel
theorem d_Mo_check_42 : decode b_Mo_check 42 = .ok (.getfield 465, 3) := by decide +kernel
theorem d_Mo_check_45 : decode b_Mo_check 45 = .ok (.iload_n 2, 1) := by decide +kernel
theorem d_Mo_check_46 : decode b_Mo_check 46 = .ok (.iaload, 1) := by decide +kernel
theorem d_Mo_check_47 : decode b_Mo_check 47 = .ok (.iconst 1, 1) := by decide +kernel
theorem d_Mo_check_48 : decode b_Mo_check 48 = .ok (.isub, 1) := by decide +kernel
theorem d_Mo_check_49 : decode b_Mo_check 49 = .ok (.if_icmp .ne 7, 3) := by decide +kernel
theorem d_Mo_check_52 : decode b_Mo_check 52 = .ok (.iconst 1, 1) := by decide +kernel
theorem d_Mo_check_53 : decode b_Mo_check 53 = .ok (.goto 4, 3) := by decide +kernel
theorem d_Mo_check_56 : decode b_Mo_check 56 = .ok (.iconst 0, 1) := by decide +kernel
theorem d_Mo_check_57 : decode b_Mo_check 57 = .ok (.invokevirtual 798, 3) := by decide +kernel
theorem d_Mo_check_60 : decode b_Mo_check 60 = .ok (.istore 4, 2) := by decide +kernel
theorem d_Mo_check_62 : decode b_Mo_check 62 = .ok (.iload 4, 2) := by decide +kernel
theorem d_Mo_check_64 : decode b_Mo_check 64 = .ok (.ifCond .le 11, 3) := by decide +kernel
theorem d_Mo_check_67 : decode b_Mo_check 67 = .ok (.aload_n 0, 1) := by decide +kernel
theorem d_Mo_check_68 : decode b_Mo_check 68 = .ok (.iload_n 3, 1) := by decide +kernel
theorem d_Mo_check_69 : decode b_Mo_check 69 = .ok (.putfield 759, 3) := by decide +kernel
theorem d_Mo_check_72 : decode b_Mo_check 72 = .ok (.iload 4, 2) := by decide +kernel
theorem d_Mo_check_74 : decode b_Mo_check 74 = .ok (.ireturn, 1) := by decide +kernel
theorem d_Mo_check_75 : decode b_Mo_check 75 = .ok (.iinc 3 1, 3) := by decide +kernel
theorem d_Mo_check_78 : decode b_Mo_check 78 = .ok (.goto (-56), 3) := by decide +kernel
theorem d_Mo_check_81 : decode b_Mo_check 81 = .ok (.iconst 0, 1) := by decide +kernel
theorem d_Mo_check_82 : decode b_Mo_check 82 = .ok (.ireturn, 1) := by decide +kernel
abbrev ru_Mo_check : Room := { frames := 7, cells := 0, slots := 0, locals := 168 }
def wj_Mo_check_57 (y : Ly) (Post : St → Int32 → Prop) (K_22 : St → Int32 → Int32 → Prop) (a0 : Nat) (s_j57 : St) (x2j57 : Int32) (x3j57 : Int32) (z1j57 : Int32) (z2j57 : Int32) : Prop := wu_Mo_checkOne y (fun (s_16 : St) (r_15 : Int32) => ((r_15 ≤ 0 → K_22 s_16 x2j57 (x3j57 + 1)) ∧ (¬ (r_15 ≤ 0) → xP (uV s_16 a0 74 x3j57) (fun s_17 : St => Post s_17 r_15)))) s_j57 a0 z1j57 z2j57
def wb_Mo_check_22 (y : Ly) (Post : St → Int32 → Prop) (K_22 : St → Int32 → Int32 → Prop) (a0 : Nat) (s_h22 : St) (x2h22 : Int32) (x3h22 : Int32) : Prop := ∃ b_7 : Nat, sO s_h22 a0 45 = some b_7 ∧ cl b_7 = 13 ∧ xA y s_h22 b_7 24 x2h22 (fun x_10 : Int32 => ((x_10 ≤ x3h22 → Post s_h22 0) ∧ (¬ (x_10 ≤ x3h22) → ∃ b_11 : Nat, sO s_h22 a0 45 = some b_11 ∧ cl b_11 = 13 ∧ xA y s_h22 b_11 24 x2h22 (fun x_14 : Int32 => ((¬ x3h22 = (x_14 - 1) → wj_Mo_check_57 y Post K_22 a0 s_h22 x2h22 x3h22 x3h22 0) ∧ (x3h22 = (x_14 - 1) → wj_Mo_check_57 y Post K_22 a0 s_h22 x2h22 x3h22 x3h22 1))))))
def wl_Mo_check_22 (y : Ly) (Post : St → Int32 → Prop) (a0 : Nat) (s_h22 : St) (x2h22 : Int32) (x3h22 : Int32) : Prop := ∃ (I : St → Int32 → Int32 → Prop) (μ : St → Int32 → Int32 → Nat), I s_h22 x2h22 x3h22 ∧ ∀ (u : St) (t0 : Int32) (t1 : Int32), I u t0 t1 → wb_Mo_check_22 y Post (fun z t0q t1q => I z t0q t1q ∧ μ z t0q t1q < μ u t0 t1) a0 u t0 t1
def wu_Mo_check (y : Ly) (Post : St → Int32 → Prop) (σ : St) (a0 : Nat) (v1 : Int32) (v2 : Int32) : Prop := ∃ b_1 : Nat, sO σ a0 45 = some b_1 ∧ cl b_1 = 13 ∧ xA y σ b_1 24 v2 (fun x_4 : Int32 => ((¬ x_4 = 0 → wu_Mo_begin y (fun (s_6 : St) => wl_Mo_check_22 y Post a0 s_6 v2 0) σ a0 v1 v2) ∧ (x_4 = 0 → Post σ 0)))
set_option maxHeartbeats 4000000 in
set_option maxRecDepth 100000 in
theorem cu_Mo_check (l : Launch) (D : va_G) (g : Nat → ClassId) (ad : Nat → Nat) (y : Ly) (Post : St → Int32 → Prop) (σ : St) (a0 : Nat) (v1 : Int32) (v2 : Int32) (sz : Nat) (h_a0 : cl a0 = 14) (h : wu_Mo_check y Post σ a0 v1 v2) : Met l y_Mo_check (mw y_Mo_check b_Mo_check 5 (some .int)) ru_Mo_check (PC g D [] [.ref (ad a0), .int v1, .int v2] sz (ws g ad y σ)) (va_Qi (fun (r : Int32) (u : St) => Post u r) (QW D (va_A (ws g ad y σ) sz) (fun u => ws g ad y u)) (va_A (ws g ad y σ) sz)) 0 0 (va_A (ws g ad y σ) sz) := by
  refine ofI (by decide +kernel) (Nat.le_of_ble_eq_true rfl) ?_
  intro p e s m args below meth c A Q ls H locs G hsz hP hD hS hl hret
  subst hsz
  have hl : lv_has ls 5 [(0, .ref (ad a0)), (1, .int v1), (2, .int v2)] := hl
  unfold wu_Mo_check at h
  refine lv_aload_n G.1 G.2.1 d_Mo_check_0 rfl (lv_at hl 0 rfl) ?_
  obtain ⟨b_1, e_2, c_3, h⟩ := h
  refine ugf (v := .ref (ad b_1)) G hP h_a0 iMo rfl 45 (by decide) rfl q3109 rfl (by show va_rf ((sO σ a0 45).map ad) = _; rw [e_2]; rfl) d_Mo_check_1 ?_
  refine ugfN (v := .ref (yP y b_1 24)) G hP c_3 iMw rfl 24 (by decide) rfl q2752 rfl rfl d_Mo_check_4 ?_
  refine lv_iload_n G.1 G.2.1 d_Mo_check_7 rfl (lv_at hl 2 rfl) ?_
  refine uiald G hP (kdp c_3 rfl) (typ c_3 rfl) h d_Mo_check_8 (fun x_4 h => ?_)
  refine lv_if_ne (tgt := 14) G.1 G.2.1 d_Mo_check_9 (by decide) (fun c9 => ?_) (fun c9 => ?_)
  · skip
    have h := h.1 c9
    refine lv_aload_n G.1 G.2.1 d_Mo_check_14 rfl (lv_at hl 0 rfl) ?_
    refine lv_iload_n G.1 G.2.1 d_Mo_check_15 rfl (lv_at hl 1 rfl) ?_
    refine lv_iload_n G.1 G.2.1 d_Mo_check_16 rfl (lv_at hl 2 rfl) ?_
    refine ucVv (As := [.int v1, .int v2]) (rest := []) G hP hD hS (cu_Mo_begin l D g ad y _ σ a0 v1 v2 H.size h_a0 h) w9_Mo_begin q3705 ⟨Nat.le_of_ble_eq_true rfl, Nat.le_of_ble_eq_true rfl⟩ rfl rfl h_a0 (q := (RMo, TMo, 131)) rfl rfl hl.1 rfl (Nat.le_of_ble_eq_true rfl) rfl ⟨Nat.le_refl _, Nat.le_refl _⟩ d_Mo_check_17 (fun s_6 H locs h hP hD hS => ?_)
    refine lv_iconst (v := 0) G.1 G.2.1 d_Mo_check_20 (by decide) ?_
    refine W.eq (g2 := F0 m 21 ls [.int 0]) rfl ?_
    refine lv_istore_n (lv' := [(3, .int 0), (0, .ref (ad a0)), (1, .int v1), (2, .int v2)]) G.1 G.2.1 d_Mo_check_21 rfl hl (by decide) rfl (fun ls hl => ?_)
    unfold wl_Mo_check_22 at h
    obtain ⟨I_22, μ_22, hI_22, hB_22⟩ := h
    have L_22 : ∀ (n_22 : Nat) (s_h22 : St) (x2h22 : Int32) (x3h22 : Int32), μ_22 s_h22 x2h22 x3h22 < n_22 → I_22 s_h22 x2h22 x3h22 → ∀ (H : Heap) (locs : List Loc), va_P D CL (ws g ad y s_h22) H → va_D A (ws g ad y s_h22) → va_S A s.heap H locs → ∀ ls, lv_has ls 5 [(0, .ref (ad a0)), (2, .int x2h22), (3, .int x3h22)] → W p l e ru_Mo_check s m args below meth c H locs 0 0 Q (F0 m 22 ls []) := by
      intro n_22
      induction n_22 with
      | zero => intro s_h22 x2h22 x3h22 hμ; exact absurd hμ (Nat.not_lt_zero _)
      | succ n_22 ih_22 =>
        intro s_h22 x2h22 x3h22 hμ_22 hJ H locs hP hD hS ls hl
        obtain ⟨K_22, hK_22, h⟩ : ∃ K : St → Int32 → Int32 → Prop, (∀ z (t0 : Int32) (t1 : Int32), K z t0 t1 → I_22 z t0 t1 ∧ μ_22 z t0 t1 < μ_22 s_h22 x2h22 x3h22) ∧ wb_Mo_check_22 y Post K a0 s_h22 x2h22 x3h22 := ⟨_, fun _ _ _ h => h, hB_22 s_h22 x2h22 x3h22 hJ⟩
        unfold wb_Mo_check_22 at h
        refine lv_iload_n G.1 G.2.1 d_Mo_check_22 rfl (lv_at hl 2 rfl) ?_
        refine lv_aload_n G.1 G.2.1 d_Mo_check_23 rfl (lv_at hl 0 rfl) ?_
        obtain ⟨b_7, e_8, c_9, h⟩ := h
        refine ugf (v := .ref (ad b_7)) G hP h_a0 iMo rfl 45 (by decide) rfl q3109 rfl (by show va_rf ((sO s_h22 a0 45).map ad) = _; rw [e_8]; rfl) d_Mo_check_24 ?_
        refine ugfN (v := .ref (yP y b_7 24)) G hP c_9 iMw rfl 24 (by decide) rfl q2752 rfl rfl d_Mo_check_27 ?_
        refine lv_iload_n G.1 G.2.1 d_Mo_check_30 rfl (lv_at hl 1 rfl) ?_
        refine uiald G hP (kdp c_9 rfl) (typ c_9 rfl) h d_Mo_check_31 (fun x_10 h => ?_)
        refine lv_icmp_ge (tgt := 81) G.1 G.2.1 d_Mo_check_32 (by decide) (fun c32 => ?_) (fun c32 => ?_)
        · skip
          have h := h.1 c32
          refine lv_iconst (v := 0) G.1 G.2.1 d_Mo_check_81 (by decide) ?_
          exact hret _ _ _ _ _ _ _ ls h hP hD hS (Nat.le_refl _) (Nat.le_refl _) d_Mo_check_82
        · skip
          have h := h.2 c32
          refine lv_aload_n G.1 G.2.1 d_Mo_check_35 rfl (lv_at hl 0 rfl) ?_
          refine lv_iload_n G.1 G.2.1 d_Mo_check_36 rfl (lv_at hl 2 rfl) ?_
          refine lv_iload_n G.1 G.2.1 d_Mo_check_37 rfl (lv_at hl 2 rfl) ?_
          refine lv_aload_n G.1 G.2.1 d_Mo_check_38 rfl (lv_at hl 0 rfl) ?_
          refine W.eq (g2 := F0 m 39 ls [.ref (ad a0), .int x3h22, .int x3h22, .ref (ad a0)]) rfl ?_
          obtain ⟨b_11, e_12, c_13, h⟩ := h
          refine ugf (v := .ref (ad b_11)) G hP h_a0 iMo rfl 45 (by decide) rfl q3109 rfl (by show va_rf ((sO s_h22 a0 45).map ad) = _; rw [e_12]; rfl) d_Mo_check_39 ?_
          refine ugfN (v := .ref (yP y b_11 24)) G hP c_13 iMw rfl 24 (by decide) rfl q2752 rfl rfl d_Mo_check_42 ?_
          refine lv_iload_n G.1 G.2.1 d_Mo_check_45 rfl (lv_at hl 1 rfl) ?_
          refine uiald G hP (kdp c_13 rfl) (typ c_13 rfl) h d_Mo_check_46 (fun x_14 h => ?_)
          refine lv_iconst (v := 1) G.1 G.2.1 d_Mo_check_47 (by decide) ?_
          refine lv_isub G.1 G.2.1 d_Mo_check_48 ?_
          have J_57 : ∀ (s_j57 : St) (x2j57 : Int32) (x3j57 : Int32) (z1j57 : Int32) (z2j57 : Int32) (H : Heap) (locs : List Loc), wj_Mo_check_57 y Post K_22 a0 s_j57 x2j57 x3j57 z1j57 z2j57 → va_P D CL (ws g ad y s_j57) H → va_D A (ws g ad y s_j57) → va_S A s.heap H locs → ∀ ls, lv_has ls 5 [(0, .ref (ad a0)), (2, .int x2j57), (3, .int x3j57)] → W p l e ru_Mo_check s m args below meth c H locs 0 0 Q (F0 m 57 ls [.int z2j57, .int z1j57, .ref (ad a0)]) := by
            intro s_j57 x2j57 x3j57 z1j57 z2j57 H locs h hP hD hS ls hl
            unfold wj_Mo_check_57 at h
            refine ucVi (As := [.int z1j57, .int z2j57]) (rest := []) G hP hD hS (cu_Mo_checkOne l D g ad y _ s_j57 a0 z1j57 z2j57 H.size h_a0 h) w9_Mo_checkOne q3709 ⟨Nat.le_of_ble_eq_true rfl, Nat.le_of_ble_eq_true rfl⟩ rfl rfl h_a0 (q := (RMo, TMo, 131)) rfl rfl hl.1 rfl (Nat.le_of_ble_eq_true rfl) rfl ⟨Nat.le_refl _, Nat.le_refl _⟩ d_Mo_check_57 (fun r_15 s_16 H locs h hP hD hS => ?_)
            refine lv_istore (lv' := [(4, .int r_15), (0, .ref (ad a0)), (2, .int x2j57), (3, .int x3j57)]) G.1 G.2.1 d_Mo_check_60 hl (by decide) rfl (fun ls hl => ?_)
            refine lv_iload G.1 G.2.1 d_Mo_check_62 (lv_at hl 0 rfl) ?_
            refine lv_if_le (tgt := 75) G.1 G.2.1 d_Mo_check_64 (by decide) (fun c64 => ?_) (fun c64 => ?_)
            · skip
              have h := h.1 c64
              refine lv_iinc (v := x3j57 + 1) (lv' := [(3, .int (x3j57 + 1)), (4, .int r_15), (0, .ref (ad a0)), (2, .int x2j57)]) G.1 G.2.1 d_Mo_check_75 hl (k := 3) rfl rfl (by decide) rfl (fun ls hl => ?_)
              refine lv_goto (tgt := 22) G.1 G.2.1 d_Mo_check_78 (by decide) ?_
              have h := hK_22 s_16 x2j57 (x3j57 + 1) h
              exact ih_22 s_16 x2j57 (x3j57 + 1) (Nat.lt_of_lt_of_le h.2 (Nat.le_of_lt_succ hμ_22)) h.1 H locs hP hD hS ls (lv_sub hl [2, 3, 0] rfl)
            · skip
              have h := h.2 c64
              refine lv_aload_n G.1 G.2.1 d_Mo_check_67 rfl (lv_at hl 1 rfl) ?_
              refine lv_iload_n G.1 G.2.1 d_Mo_check_68 rfl (lv_at hl 3 rfl) ?_
              refine upf G hP hD hS h 74 putV h_a0 iMo tMo tMo_ok nMo rfl (by decide) rfl q3138 rfl rfl fV rfl rfl d_Mo_check_69 (fun s_17 H locs h hP hD hS => ?_)
              refine lv_iload G.1 G.2.1 d_Mo_check_72 (lv_at hl 0 rfl) ?_
              exact hret _ _ _ _ _ _ _ ls h hP hD hS (Nat.le_refl _) (Nat.le_refl _) d_Mo_check_74
          refine lv_icmp_ne (tgt := 56) G.1 G.2.1 d_Mo_check_49 (by decide) (fun c49 => ?_) (fun c49 => ?_)
          · skip
            have h := h.1 c49
            refine lv_iconst (v := 0) G.1 G.2.1 d_Mo_check_56 (by decide) ?_
            exact J_57 s_h22 x2h22 x3h22 x3h22 0 H locs h hP hD hS ls (lv_sub hl [0, 1, 2] rfl)
          · skip
            have h := h.2 c49
            refine lv_iconst (v := 1) G.1 G.2.1 d_Mo_check_52 (by decide) ?_
            refine lv_goto (tgt := 57) G.1 G.2.1 d_Mo_check_53 (by decide) ?_
            exact J_57 s_h22 x2h22 x3h22 x3h22 1 H locs h hP hD hS ls (lv_sub hl [0, 1, 2] rfl)
    exact L_22 _ s_6 v2 0 (Nat.lt_succ_self _) hI_22 H locs hP hD hS ls (lv_sub hl [1, 3, 0] rfl)
  · skip
    have h := h.2 c9
    refine lv_iconst (v := 0) G.1 G.2.1 d_Mo_check_12 (by decide) ?_
    exact hret _ _ _ _ _ _ _ ls h hP hD hS (Nat.le_refl _) (Nat.le_refl _) d_Mo_check_13
def y_Mo_checked : MethodName := ⟨"ClassWorksModel", "checked", "(II)I"⟩
abbrev b_Mo_checked : ByteArray := prog_14_method_138_code
theorem d_Mo_checked_0 : decode b_Mo_checked 0 = .ok (.aload_n 0, 1) := by decide +kernel
theorem d_Mo_checked_1 : decode b_Mo_checked 1 = .ok (.iload_n 1, 1) := by decide +kernel
theorem d_Mo_checked_2 : decode b_Mo_checked 2 = .ok (.invokevirtual 1118, 3) := by decide +kernel
theorem d_Mo_checked_5 : decode b_Mo_checked 5 = .ok (.ifCond .eq 26, 3) := by decide +kernel
theorem d_Mo_checked_8 : decode b_Mo_checked 8 = .ok (.iload_n 2, 1) := by decide +kernel
theorem d_Mo_checked_9 : decode b_Mo_checked 9 = .ok (.ifCond .lt 22, 3) := by decide +kernel
theorem d_Mo_checked_12 : decode b_Mo_checked 12 = .ok (.iload_n 2, 1) := by decide +kernel
theorem d_Mo_checked_13 : decode b_Mo_checked 13 = .ok (.iconst 2, 1) := by decide +kernel
theorem d_Mo_checked_14 : decode b_Mo_checked 14 = .ok (.if_icmp .gt 17, 3) := by decide +kernel
theorem d_Mo_checked_17 : decode b_Mo_checked 17 = .ok (.aload_n 0, 1) := by decide +kernel
theorem d_Mo_checked_18 : decode b_Mo_checked 18 = .ok (.getfield 263, 3) := by decide +kernel
theorem d_Mo_checked_21 : decode b_Mo_checked 21 = .ok (.iload_n 1, 1) := by decide +kernel
theorem d_Mo_checked_22 : decode b_Mo_checked 22 = .ok (.aaload, 1) := by decide +kernel
theorem d_Mo_checked_23 : decode b_Mo_checked 23 = .ok (.getfield 483, 3) := by decide +kernel
theorem d_Mo_checked_26 : decode b_Mo_checked 26 = .ok (.iload_n 2, 1) := by decide +kernel
theorem d_Mo_checked_27 : decode b_Mo_checked 27 = .ok (.iaload, 1) := by decide +kernel
theorem d_Mo_checked_28 : decode b_Mo_checked 28 = .ok (.goto 4, 3) := by decide +kernel
theorem d_Mo_checked_31 : decode b_Mo_checked 31 = .ok (.iconst (-1), 1) := by decide +kernel
theorem d_Mo_checked_32 : decode b_Mo_checked 32 = .ok (.ireturn, 1) := by decide +kernel
abbrev ru_Mo_checked : Room := { frames := 1, cells := 0, slots := 0, locals := 21 }
def wj_Mo_checked_32 (y : Ly) (Post : St → Int32 → Prop) (a0 : Nat) (s_j32 : St) (z0j32 : Int32) : Prop := Post s_j32 z0j32
def wj_Mo_checked_31 (y : Ly) (Post : St → Int32 → Prop) (a0 : Nat) (s_j31 : St) : Prop := wj_Mo_checked_32 y Post a0 s_j31 (-1)
def wu_Mo_checked (y : Ly) (Post : St → Int32 → Prop) (σ : St) (a0 : Nat) (v1 : Int32) (v2 : Int32) : Prop := wu_Mo_isWorld y (fun (s_2 : St) (r_1 : Int32) => ((r_1 = 0 → wj_Mo_checked_31 y Post a0 s_2) ∧ (¬ (r_1 = 0) → ((v2 < 0 → wj_Mo_checked_31 y Post a0 s_2) ∧ (¬ (v2 < 0) → ((2 < v2 → wj_Mo_checked_31 y Post a0 s_2) ∧ (¬ (2 < v2) → xQ y a0 44 v1 (fun b_3 : Nat => xA y s_2 b_3 44 v2 (fun x_5 : Int32 => wj_Mo_checked_32 y Post a0 s_2 x_5))))))))) σ a0 v1
set_option maxHeartbeats 4000000 in
set_option maxRecDepth 100000 in
theorem cu_Mo_checked (l : Launch) (D : va_G) (g : Nat → ClassId) (ad : Nat → Nat) (y : Ly) (Post : St → Int32 → Prop) (σ : St) (a0 : Nat) (v1 : Int32) (v2 : Int32) (sz : Nat) (h_a0 : cl a0 = 14) (h : wu_Mo_checked y Post σ a0 v1 v2) : Met l y_Mo_checked (mw y_Mo_checked b_Mo_checked 3 (some .int)) ru_Mo_checked (PC g D [] [.ref (ad a0), .int v1, .int v2] sz (ws g ad y σ)) (va_Qi (fun (r : Int32) (u : St) => Post u r) (QW D (va_A (ws g ad y σ) sz) (fun u => ws g ad y u)) (va_A (ws g ad y σ) sz)) 0 0 (va_A (ws g ad y σ) sz) := by
  refine ofI (by decide +kernel) (Nat.le_of_ble_eq_true rfl) ?_
  intro p e s m args below meth c A Q ls H locs G hsz hP hD hS hl hret
  subst hsz
  have hl : lv_has ls 3 [(0, .ref (ad a0)), (1, .int v1), (2, .int v2)] := hl
  unfold wu_Mo_checked at h
  refine lv_aload_n G.1 G.2.1 d_Mo_checked_0 rfl (lv_at hl 0 rfl) ?_
  refine lv_iload_n G.1 G.2.1 d_Mo_checked_1 rfl (lv_at hl 1 rfl) ?_
  refine ucVi (As := [.int v1]) (rest := []) G hP hD hS (cu_Mo_isWorld l D g ad y _ σ a0 v1 H.size h_a0 h) w9_Mo_isWorld q3482 ⟨Nat.le_of_ble_eq_true rfl, Nat.le_of_ble_eq_true rfl⟩ rfl rfl h_a0 (q := (RMo, TMo, 131)) rfl rfl hl.1 rfl (Nat.le_of_ble_eq_true rfl) rfl ⟨Nat.le_refl _, Nat.le_refl _⟩ d_Mo_checked_2 (fun r_1 s_2 H locs h hP hD hS => ?_)
  have J_32 : ∀ (s_j32 : St) (z0j32 : Int32) (H : Heap) (locs : List Loc), wj_Mo_checked_32 y Post a0 s_j32 z0j32 → va_P D CL (ws g ad y s_j32) H → va_D A (ws g ad y s_j32) → va_S A s.heap H locs → ∀ ls, lv_has ls 3 [] → W p l e ru_Mo_checked s m args below meth c H locs 0 0 Q (F0 m 32 ls [.int z0j32]) := by
    intro s_j32 z0j32 H locs h hP hD hS ls hl
    unfold wj_Mo_checked_32 at h
    exact hret _ _ _ _ _ _ _ ls h hP hD hS (Nat.le_refl _) (Nat.le_refl _) d_Mo_checked_32
  have J_31 : ∀ (s_j31 : St) (H : Heap) (locs : List Loc), wj_Mo_checked_31 y Post a0 s_j31 → va_P D CL (ws g ad y s_j31) H → va_D A (ws g ad y s_j31) → va_S A s.heap H locs → ∀ ls, lv_has ls 3 [] → W p l e ru_Mo_checked s m args below meth c H locs 0 0 Q (F0 m 31 ls []) := by
    intro s_j31 H locs h hP hD hS ls hl
    unfold wj_Mo_checked_31 at h
    refine lv_iconst (v := (-1)) G.1 G.2.1 d_Mo_checked_31 (by decide) ?_
    exact J_32 s_j31 (-1) H locs h hP hD hS ls (lv_sub hl [] rfl)
  refine lv_if_eq (tgt := 31) G.1 G.2.1 d_Mo_checked_5 (by decide) (fun c5 => ?_) (fun c5 => ?_)
  · skip
    have h := h.1 c5
    exact J_31 s_2 H locs h hP hD hS ls (lv_sub hl [] rfl)
  · skip
    have h := h.2 c5
    refine lv_iload_n G.1 G.2.1 d_Mo_checked_8 rfl (lv_at hl 2 rfl) ?_
    refine lv_if_lt (tgt := 31) G.1 G.2.1 d_Mo_checked_9 (by decide) (fun c9 => ?_) (fun c9 => ?_)
    · skip
      have h := h.1 c9
      exact J_31 s_2 H locs h hP hD hS ls (lv_sub hl [] rfl)
    · skip
      have h := h.2 c9
      refine lv_iload_n G.1 G.2.1 d_Mo_checked_12 rfl (lv_at hl 2 rfl) ?_
      refine lv_iconst (v := 2) G.1 G.2.1 d_Mo_checked_13 (by decide) ?_
      refine lv_icmp_gt (tgt := 31) G.1 G.2.1 d_Mo_checked_14 (by decide) (fun c14 => ?_) (fun c14 => ?_)
      · skip
        have h := h.1 c14
        exact J_31 s_2 H locs h hP hD hS ls (lv_sub hl [] rfl)
      · skip
        have h := h.2 c14
        refine lv_aload_n G.1 G.2.1 d_Mo_checked_17 rfl (lv_at hl 0 rfl) ?_
        refine ugf (v := .ref (yP y a0 44)) G hP h_a0 iMo rfl 44 (by decide) rfl q3108 rfl rfl d_Mo_checked_18 ?_
        refine W.eq (g2 := F0 m 21 ls [.ref (yP y a0 44)]) rfl ?_
        refine lv_iload_n G.1 G.2.1 d_Mo_checked_21 rfl (lv_at hl 1 rfl) ?_
        refine uqald G hP (kdp h_a0 rfl) (typ h_a0 rfl) rfl h d_Mo_checked_22 (fun b_3 n_4 h => ?_)
        refine ugfN (v := .ref (yP y b_3 44)) G hP (oa_14 h_a0 n_4) iMw rfl 44 (by decide) rfl q2788 rfl rfl d_Mo_checked_23 ?_
        refine lv_iload_n G.1 G.2.1 d_Mo_checked_26 rfl (lv_at hl 2 rfl) ?_
        refine uiald G hP (kdp (oa_14 h_a0 n_4) rfl) (typ (oa_14 h_a0 n_4) rfl) h d_Mo_checked_27 (fun x_5 h => ?_)
        refine lv_goto (tgt := 32) G.1 G.2.1 d_Mo_checked_28 (by decide) ?_
        exact J_32 s_2 x_5 H locs h hP hD hS ls (lv_sub hl [] rfl)
def y_Mo_isThread : MethodName := ⟨"ClassWorksModel", "isThread", "(I)Z"⟩
abbrev b_Mo_isThread : ByteArray := prog_14_method_143_code
theorem d_Mo_isThread_0 : decode b_Mo_isThread 0 = .ok (.iload_n 0, 1) := by decide +kernel
theorem d_Mo_isThread_1 : decode b_Mo_isThread 1 = .ok (.ifCond .lt 12, 3) := by decide +kernel
theorem d_Mo_isThread_4 : decode b_Mo_isThread 4 = .ok (.iload_n 0, 1) := by decide +kernel
theorem d_Mo_isThread_5 : decode b_Mo_isThread 5 = .ok (.iconst 3, 1) := by decide +kernel
theorem d_Mo_isThread_6 : decode b_Mo_isThread 6 = .ok (.if_icmp .ge 7, 3) := by decide +kernel
theorem d_Mo_isThread_9 : decode b_Mo_isThread 9 = .ok (.iconst 1, 1) := by decide +kernel
theorem d_Mo_isThread_10 : decode b_Mo_isThread 10 = .ok (.goto 4, 3) := by decide +kernel
theorem d_Mo_isThread_13 : decode b_Mo_isThread 13 = .ok (.iconst 0, 1) := by decide +kernel
theorem d_Mo_isThread_14 : decode b_Mo_isThread 14 = .ok (.ireturn, 1) := by decide +kernel
abbrev ru_Mo_isThread : Room := { frames := 0, cells := 0, slots := 0, locals := 0 }
def wj_Mo_isThread_14 (y : Ly) (Post : St → Int32 → Prop) (s_j14 : St) (z0j14 : Int32) : Prop := (nb z0j14 ∧ Post s_j14 z0j14)
def wj_Mo_isThread_13 (y : Ly) (Post : St → Int32 → Prop) (s_j13 : St) : Prop := wj_Mo_isThread_14 y Post s_j13 0
def wu_Mo_isThread (y : Ly) (Post : St → Int32 → Prop) (σ : St) (v0 : Int32) : Prop := ((v0 < 0 → wj_Mo_isThread_13 y Post σ) ∧ (¬ (v0 < 0) → ((3 ≤ v0 → wj_Mo_isThread_13 y Post σ) ∧ (¬ (3 ≤ v0) → wj_Mo_isThread_14 y Post σ 1))))
set_option maxHeartbeats 4000000 in
set_option maxRecDepth 100000 in
theorem cu_Mo_isThread (l : Launch) (D : va_G) (g : Nat → ClassId) (ad : Nat → Nat) (y : Ly) (Post : St → Int32 → Prop) (σ : St) (v0 : Int32) (sz : Nat) (h : wu_Mo_isThread y Post σ v0) : Met l y_Mo_isThread (mw y_Mo_isThread b_Mo_isThread 1 (some (.boolean))) ru_Mo_isThread (PC g D [] [.int v0] sz (ws g ad y σ)) (va_Qi (fun (r : Int32) (u : St) => Post u r) (QW D (va_A (ws g ad y σ) sz) (fun u => ws g ad y u)) (va_A (ws g ad y σ) sz)) 0 0 (va_A (ws g ad y σ) sz) := by
  refine ofZ (by decide +kernel) (Nat.le_of_ble_eq_true rfl) ?_
  intro p e s m args below meth c A Q ls H locs G hsz hP hD hS hl hret
  subst hsz
  have hl : lv_has ls 1 [(0, .int v0)] := hl
  unfold wu_Mo_isThread at h
  refine lv_iload_n G.1 G.2.1 d_Mo_isThread_0 rfl (lv_at hl 0 rfl) ?_
  have J_14 : ∀ (s_j14 : St) (z0j14 : Int32) (H : Heap) (locs : List Loc), wj_Mo_isThread_14 y Post s_j14 z0j14 → va_P D CL (ws g ad y s_j14) H → va_D A (ws g ad y s_j14) → va_S A s.heap H locs → ∀ ls, lv_has ls 1 [] → W p l e ru_Mo_isThread s m args below meth c H locs 0 0 Q (F0 m 14 ls [.int z0j14]) := by
    intro s_j14 z0j14 H locs h hP hD hS ls hl
    unfold wj_Mo_isThread_14 at h
    exact hret _ _ _ _ _ _ _ ls (nb_n h.1) h.2 hP hD hS (Nat.le_refl _) (Nat.le_refl _) d_Mo_isThread_14
  have J_13 : ∀ (s_j13 : St) (H : Heap) (locs : List Loc), wj_Mo_isThread_13 y Post s_j13 → va_P D CL (ws g ad y s_j13) H → va_D A (ws g ad y s_j13) → va_S A s.heap H locs → ∀ ls, lv_has ls 1 [] → W p l e ru_Mo_isThread s m args below meth c H locs 0 0 Q (F0 m 13 ls []) := by
    intro s_j13 H locs h hP hD hS ls hl
    unfold wj_Mo_isThread_13 at h
    refine lv_iconst (v := 0) G.1 G.2.1 d_Mo_isThread_13 (by decide) ?_
    exact J_14 s_j13 0 H locs h hP hD hS ls (lv_sub hl [] rfl)
  refine lv_if_lt (tgt := 13) G.1 G.2.1 d_Mo_isThread_1 (by decide) (fun c1 => ?_) (fun c1 => ?_)
  · skip
    have h := h.1 c1
    exact J_13 σ H locs h hP hD hS ls (lv_sub hl [] rfl)
  · skip
    have h := h.2 c1
    refine lv_iload_n G.1 G.2.1 d_Mo_isThread_4 rfl (lv_at hl 0 rfl) ?_
    refine lv_iconst (v := 3) G.1 G.2.1 d_Mo_isThread_5 (by decide) ?_
    refine lv_icmp_ge (tgt := 13) G.1 G.2.1 d_Mo_isThread_6 (by decide) (fun c6 => ?_) (fun c6 => ?_)
    · skip
      have h := h.1 c6
      exact J_13 σ H locs h hP hD hS ls (lv_sub hl [] rfl)
    · skip
      have h := h.2 c6
      refine lv_iconst (v := 1) G.1 G.2.1 d_Mo_isThread_9 (by decide) ?_
      refine lv_goto (tgt := 14) G.1 G.2.1 d_Mo_isThread_10 (by decide) ?_
      exact J_14 σ 1 H locs h hP hD hS ls (lv_sub hl [] rfl)
def y_Mo_beginRun : MethodName := ⟨"ClassWorksModel", "beginRun", "(LClassWorksModel$Run;)V"⟩
abbrev b_Mo_beginRun : ByteArray := prog_14_method_142_code
theorem q2990 : Cond.fieldLinkNest "ClassWorksModel" 921 "ClassWorksModel$Run" "steps" "I" "ClassWorksModel" ∈ lw_nest := lw_nestmem (List.mem_of_getElem? (i := 2990) (by decide +kernel)) rfl
theorem q2991 : Cond.fieldLinkNest "ClassWorksModel" 1007 "ClassWorksModel$Run" "phase" "I" "ClassWorksModel" ∈ lw_nest := lw_nestmem (List.mem_of_getElem? (i := 2991) (by decide +kernel)) rfl
theorem q3152 : Cond.fieldLink "ClassWorksModel" 1132 "ClassWorksModel" "calledClass" "I" ∈ lw_ok := lw_okmem (List.mem_of_getElem? (i := 3152) (by decide +kernel)) rfl
theorem q2992 : Cond.fieldLinkNest "ClassWorksModel" 1010 "ClassWorksModel$Run" "callClass" "I" "ClassWorksModel" ∈ lw_nest := lw_nestmem (List.mem_of_getElem? (i := 2992) (by decide +kernel)) rfl
theorem q3153 : Cond.fieldLink "ClassWorksModel" 1135 "ClassWorksModel" "calledName" "I" ∈ lw_ok := lw_okmem (List.mem_of_getElem? (i := 3153) (by decide +kernel)) rfl
theorem q2993 : Cond.fieldLinkNest "ClassWorksModel" 1013 "ClassWorksModel$Run" "callName" "I" "ClassWorksModel" ∈ lw_nest := lw_nestmem (List.mem_of_getElem? (i := 2993) (by decide +kernel)) rfl
theorem q3154 : Cond.fieldLink "ClassWorksModel" 1138 "ClassWorksModel" "calledSig" "I" ∈ lw_ok := lw_okmem (List.mem_of_getElem? (i := 3154) (by decide +kernel)) rfl
theorem q2994 : Cond.fieldLinkNest "ClassWorksModel" 1016 "ClassWorksModel$Run" "callSig" "I" "ClassWorksModel" ∈ lw_nest := lw_nestmem (List.mem_of_getElem? (i := 2994) (by decide +kernel)) rfl
theorem q2997 : Cond.fieldLinkNest "ClassWorksModel" 974 "ClassWorksModel$Run" "endKind" "I" "ClassWorksModel" ∈ lw_nest := lw_nestmem (List.mem_of_getElem? (i := 2997) (by decide +kernel)) rfl
theorem q2998 : Cond.fieldLinkNest "ClassWorksModel" 977 "ClassWorksModel$Run" "endNumber" "I" "ClassWorksModel" ∈ lw_nest := lw_nestmem (List.mem_of_getElem? (i := 2998) (by decide +kernel)) rfl
theorem q2999 : Cond.fieldLinkNest "ClassWorksModel" 980 "ClassWorksModel$Run" "endClass" "I" "ClassWorksModel" ∈ lw_nest := lw_nestmem (List.mem_of_getElem? (i := 2999) (by decide +kernel)) rfl
theorem q3000 : Cond.fieldLinkNest "ClassWorksModel" 983 "ClassWorksModel$Run" "endRule" "I" "ClassWorksModel" ∈ lw_nest := lw_nestmem (List.mem_of_getElem? (i := 3000) (by decide +kernel)) rfl
theorem q3005 : Cond.fieldLinkNest "ClassWorksModel" 945 "ClassWorksModel$Run" "unitCount" "I" "ClassWorksModel" ∈ lw_nest := lw_nestmem (List.mem_of_getElem? (i := 3005) (by decide +kernel)) rfl
theorem q3016 : Cond.fieldLinkNest "ClassWorksModel" 924 "ClassWorksModel$Run" "frames" "I" "ClassWorksModel" ∈ lw_nest := lw_nestmem (List.mem_of_getElem? (i := 3016) (by decide +kernel)) rfl
theorem q2996 : Cond.fieldLinkNest "ClassWorksModel" 1023 "ClassWorksModel$Run" "callNumbers" "[I" "ClassWorksModel" ∈ lw_nest := lw_nestmem (List.mem_of_getElem? (i := 2996) (by decide +kernel)) rfl
theorem q3151 : Cond.fieldLink "ClassWorksModel" 320 "ClassWorksModel" "callRow" "[I" ∈ lw_ok := lw_okmem (List.mem_of_getElem? (i := 3151) (by decide +kernel)) rfl
theorem d_Mo_beginRun_0 : decode b_Mo_beginRun 0 = .ok (.aload_n 1, 1) := by decide +kernel
theorem d_Mo_beginRun_1 : decode b_Mo_beginRun 1 = .ok (.iconst 1, 1) := by decide +kernel
theorem d_Mo_beginRun_2 : decode b_Mo_beginRun 2 = .ok (.putfield 486, 3) := by decide +kernel
theorem d_Mo_beginRun_5 : decode b_Mo_beginRun 5 = .ok (.aload_n 1, 1) := by decide +kernel
theorem d_Mo_beginRun_6 : decode b_Mo_beginRun 6 = .ok (.iconst 0, 1) := by decide +kernel
theorem d_Mo_beginRun_7 : decode b_Mo_beginRun 7 = .ok (.putfield 489, 3) := by decide +kernel
theorem d_Mo_beginRun_10 : decode b_Mo_beginRun 10 = .ok (.aload_n 1, 1) := by decide +kernel
theorem d_Mo_beginRun_11 : decode b_Mo_beginRun 11 = .ok (.iconst 0, 1) := by decide +kernel
theorem d_Mo_beginRun_12 : decode b_Mo_beginRun 12 = .ok (.putfield 921, 3) := by decide +kernel
theorem d_Mo_beginRun_15 : decode b_Mo_beginRun 15 = .ok (.aload_n 1, 1) := by decide +kernel
theorem d_Mo_beginRun_16 : decode b_Mo_beginRun 16 = .ok (.iconst 0, 1) := by decide +kernel
theorem d_Mo_beginRun_17 : decode b_Mo_beginRun 17 = .ok (.putfield 1007, 3) := by decide +kernel
theorem d_Mo_beginRun_20 : decode b_Mo_beginRun 20 = .ok (.aload_n 1, 1) := by decide +kernel
theorem d_Mo_beginRun_21 : decode b_Mo_beginRun 21 = .ok (.aload_n 0, 1) := by decide +kernel
theorem d_Mo_beginRun_22 : decode b_Mo_beginRun 22 = .ok (.getfield 1132, 3) := by decide +kernel
theorem d_Mo_beginRun_25 : decode b_Mo_beginRun 25 = .ok (.putfield 1010, 3) := by decide +kernel
theorem d_Mo_beginRun_28 : decode b_Mo_beginRun 28 = .ok (.aload_n 1, 1) := by decide +kernel
theorem d_Mo_beginRun_29 : decode b_Mo_beginRun 29 = .ok (.aload_n 0, 1) := by decide +kernel
theorem d_Mo_beginRun_30 : decode b_Mo_beginRun 30 = .ok (.getfield 1135, 3) := by decide +kernel
theorem d_Mo_beginRun_33 : decode b_Mo_beginRun 33 = .ok (.putfield 1013, 3) := by decide +kernel
theorem d_Mo_beginRun_36 : decode b_Mo_beginRun 36 = .ok (.aload_n 1, 1) := by decide +kernel
theorem d_Mo_beginRun_37 : decode b_Mo_beginRun 37 = .ok (.aload_n 0, 1) := by decide +kernel
theorem d_Mo_beginRun_38 : decode b_Mo_beginRun 38 = .ok (.getfield 1138, 3) := by decide +kernel
theorem d_Mo_beginRun_41 : decode b_Mo_beginRun 41 = .ok (.putfield 1016, 3) := by decide +kernel
theorem d_Mo_beginRun_44 : decode b_Mo_beginRun 44 = .ok (.iconst 0, 1) := by decide +kernel
theorem d_Mo_beginRun_45 : decode b_Mo_beginRun 45 = .ok (.istore_n 2, 1) := by decide +kernel
theorem d_Mo_beginRun_46 : decode b_Mo_beginRun 46 = .ok (.iload_n 2, 1) := by decide +kernel
theorem d_Mo_beginRun_47 : decode b_Mo_beginRun 47 = .ok (.aload_n 0, 1) := by decide +kernel
theorem d_Mo_beginRun_48 : decode b_Mo_beginRun 48 = .ok (.getfield 80, 3) := by decide +kernel
theorem d_Mo_beginRun_51 : decode b_Mo_beginRun 51 = .ok (.aload_n 0, 1) := by decide +kernel
theorem d_Mo_beginRun_52 : decode b_Mo_beginRun 52 = .ok (.getfield 1138, 3) := by decide +kernel
theorem d_Mo_beginRun_55 : decode b_Mo_beginRun 55 = .ok (.iaload, 1) := by decide +kernel
theorem d_Mo_beginRun_56 : decode b_Mo_beginRun 56 = .ok (.if_icmp .ge 21, 3) := by decide +kernel
theorem d_Mo_beginRun_59 : decode b_Mo_beginRun 59 = .ok (.aload_n 1, 1) := by decide +kernel
theorem d_Mo_beginRun_60 : decode b_Mo_beginRun 60 = .ok (.getfield 1023, 3) := by decide +kernel
theorem d_Mo_beginRun_63 : decode b_Mo_beginRun 63 = .ok (.iload_n 2, 1) := by decide +kernel
theorem d_Mo_beginRun_64 : decode b_Mo_beginRun 64 = .ok (.aload_n 0, 1) := by decide +kernel
theorem d_Mo_beginRun_65 : decode b_Mo_beginRun 65 = .ok (.getfield 320, 3) := by decide +kernel
theorem d_Mo_beginRun_68 : decode b_Mo_beginRun 68 = .ok (.iload_n 2, 1) := by decide +kernel
theorem d_Mo_beginRun_69 : decode b_Mo_beginRun 69 = .ok (.iaload, 1) := by decide +kernel
theorem d_Mo_beginRun_70 : decode b_Mo_beginRun 70 = .ok (.iastore, 1) := by decide +kernel
theorem d_Mo_beginRun_71 : decode b_Mo_beginRun 71 = .ok (.iinc 2 1, 3) := by decide +kernel
theorem d_Mo_beginRun_74 : decode b_Mo_beginRun 74 = .ok (.goto (-28), 3) := by decide +kernel
theorem d_Mo_beginRun_77 : decode b_Mo_beginRun 77 = .ok (.aload_n 1, 1) := by decide +kernel
theorem d_Mo_beginRun_78 : decode b_Mo_beginRun 78 = .ok (.iconst 0, 1) := by decide +kernel
theorem d_Mo_beginRun_79 : decode b_Mo_beginRun 79 = .ok (.putfield 974, 3) := by decide +kernel
theorem d_Mo_beginRun_82 : decode b_Mo_beginRun 82 = .ok (.aload_n 1, 1) := by decide +kernel
theorem d_Mo_beginRun_83 : decode b_Mo_beginRun 83 = .ok (.iconst 0, 1) := by decide +kernel
theorem d_Mo_beginRun_84 : decode b_Mo_beginRun 84 = .ok (.putfield 977, 3) := by decide +kernel
theorem d_Mo_beginRun_87 : decode b_Mo_beginRun 87 = .ok (.aload_n 1, 1) := by decide +kernel
theorem d_Mo_beginRun_88 : decode b_Mo_beginRun 88 = .ok (.bipush (-2), 2) := by decide +kernel
theorem d_Mo_beginRun_90 : decode b_Mo_beginRun 90 = .ok (.putfield 980, 3) := by decide +kernel
theorem d_Mo_beginRun_93 : decode b_Mo_beginRun 93 = .ok (.aload_n 1, 1) := by decide +kernel
theorem d_Mo_beginRun_94 : decode b_Mo_beginRun 94 = .ok (.iconst 0, 1) := by decide +kernel
theorem d_Mo_beginRun_95 : decode b_Mo_beginRun 95 = .ok (.putfield 983, 3) := by decide +kernel
theorem d_Mo_beginRun_98 : decode b_Mo_beginRun 98 = .ok (.aload_n 1, 1) := by decide +kernel
theorem d_Mo_beginRun_99 : decode b_Mo_beginRun 99 = .ok (.iconst 0, 1) := by decide +kernel
theorem d_Mo_beginRun_100 : decode b_Mo_beginRun 100 = .ok (.putfield 945, 3) := by decide +kernel
theorem d_Mo_beginRun_103 : decode b_Mo_beginRun 103 = .ok (.aload_n 1, 1) := by decide +kernel
theorem d_Mo_beginRun_104 : decode b_Mo_beginRun 104 = .ok (.iconst 0, 1) := by decide +kernel
theorem d_Mo_beginRun_105 : decode b_Mo_beginRun 105 = .ok (.putfield 924, 3) := by decide +kernel
theorem d_Mo_beginRun_108 : decode b_Mo_beginRun 108 = .ok (.return_, 1) := by decide +kernel
abbrev ru_Mo_beginRun : Room := { frames := 0, cells := 0, slots := 0, locals := 0 }
def wb_Mo_beginRun_46 (y : Ly) (Post : St → Prop) (K_46 : St → Int32 → Prop) (a0 : Nat) (a1 : Nat) (s_h46 : St) (x2h46 : Int32) : Prop := xA y s_h46 a0 31 (sV s_h46 a0 90) (fun x_9 : Int32 => ((x_9 ≤ x2h46 → xP (uV s_h46 a1 10 0) (fun s_10 : St => xP (uV s_10 a1 11 0) (fun s_11 : St => xP (uV s_11 a1 12 (-2)) (fun s_12 : St => xP (uV s_12 a1 13 0) (fun s_13 : St => xP (uV s_13 a1 16 0) (fun s_14 : St => xP (uV s_14 a1 22 0) (fun s_15 : St => Post s_15))))))) ∧ (¬ (x_9 ≤ x2h46) → xA y s_h46 a0 87 x2h46 (fun x_16 : Int32 => xS y s_h46 a1 8 x2h46 x_16 (fun s_17 : St => K_46 s_17 (x2h46 + 1))))))
def wl_Mo_beginRun_46 (y : Ly) (Post : St → Prop) (a0 : Nat) (a1 : Nat) (s_h46 : St) (x2h46 : Int32) : Prop := ∃ (I : St → Int32 → Prop) (μ : St → Int32 → Nat), I s_h46 x2h46 ∧ ∀ (u : St) (t0 : Int32), I u t0 → wb_Mo_beginRun_46 y Post (fun z t0q => I z t0q ∧ μ z t0q < μ u t0) a0 a1 u t0
def wu_Mo_beginRun (y : Ly) (Post : St → Prop) (σ : St) (a0 : Nat) (a1 : Nat) : Prop := xP (uV σ a1 0 1) (fun s_1 : St => nb 0 ∧ xP (uV s_1 a1 1 0) (fun s_3 : St => xP (uV s_3 a1 3 0) (fun s_4 : St => xP (uV s_4 a1 4 0) (fun s_5 : St => xP (uV s_5 a1 5 (sV s_5 a0 88)) (fun s_6 : St => xP (uV s_6 a1 6 (sV s_6 a0 89)) (fun s_7 : St => xP (uV s_7 a1 7 (sV s_7 a0 90)) (fun s_8 : St => wl_Mo_beginRun_46 y Post a0 a1 s_8 0)))))))
set_option maxHeartbeats 4000000 in
set_option maxRecDepth 100000 in
theorem cu_Mo_beginRun (l : Launch) (D : va_G) (g : Nat → ClassId) (ad : Nat → Nat) (y : Ly) (Post : St → Prop) (σ : St) (a0 : Nat) (a1 : Nat) (sz : Nat) (h_a0 : cl a0 = 14) (h_a1 : cl a1 = 12) (h : wu_Mo_beginRun y Post σ a0 a1) : Met l y_Mo_beginRun (mw y_Mo_beginRun b_Mo_beginRun 3 (none)) ru_Mo_beginRun (PC g D [] [.ref (ad a0), .ref (ad a1)] sz (ws g ad y σ)) (va_Qv (fun u : St => Post u) (QW D (va_A (ws g ad y σ) sz) (fun u => ws g ad y u)) (va_A (ws g ad y σ) sz)) 0 0 (va_A (ws g ad y σ) sz) := by
  refine ofV (by decide +kernel) (Nat.le_of_ble_eq_true rfl) ?_
  intro p e s m args below meth c A Q ls H locs G hsz hP hD hS hl hret
  subst hsz
  have hl : lv_has ls 3 [(0, .ref (ad a0)), (1, .ref (ad a1))] := hl
  unfold wu_Mo_beginRun at h
  refine lv_aload_n G.1 G.2.1 d_Mo_beginRun_0 rfl (lv_at hl 1 rfl) ?_
  refine lv_iconst (v := 1) G.1 G.2.1 d_Mo_beginRun_1 (by decide) ?_
  refine upfN G hP hD hS h 0 putV h_a1 iMr tMr tMr_ok nMr rfl (by decide) rfl q2987 rfl rfl fV rfl rfl d_Mo_beginRun_2 (fun s_1 H locs h hP hD hS => ?_)
  refine lv_aload_n G.1 G.2.1 d_Mo_beginRun_5 rfl (lv_at hl 1 rfl) ?_
  refine lv_iconst (v := 0) G.1 G.2.1 d_Mo_beginRun_6 (by decide) ?_
  obtain ⟨n_2, h⟩ := h
  refine upfN G hP hD hS h 1 putV h_a1 iMr tMr tMr_ok nMr rfl (by decide) rfl q2988 rfl rfl fV (nb_n n_2) (nb_f n_2) d_Mo_beginRun_7 (fun s_3 H locs h hP hD hS => ?_)
  refine lv_aload_n G.1 G.2.1 d_Mo_beginRun_10 rfl (lv_at hl 1 rfl) ?_
  refine lv_iconst (v := 0) G.1 G.2.1 d_Mo_beginRun_11 (by decide) ?_
  refine upfN G hP hD hS h 3 putV h_a1 iMr tMr tMr_ok nMr rfl (by decide) rfl q2990 rfl rfl fV rfl rfl d_Mo_beginRun_12 (fun s_4 H locs h hP hD hS => ?_)
  refine lv_aload_n G.1 G.2.1 d_Mo_beginRun_15 rfl (lv_at hl 1 rfl) ?_
  refine lv_iconst (v := 0) G.1 G.2.1 d_Mo_beginRun_16 (by decide) ?_
  refine W.eq (g2 := F0 m 17 ls [.int 0, .ref (ad a1)]) rfl ?_
  refine upfN G hP hD hS h 4 putV h_a1 iMr tMr tMr_ok nMr rfl (by decide) rfl q2991 rfl rfl fV rfl rfl d_Mo_beginRun_17 (fun s_5 H locs h hP hD hS => ?_)
  refine lv_aload_n G.1 G.2.1 d_Mo_beginRun_20 rfl (lv_at hl 1 rfl) ?_
  refine lv_aload_n G.1 G.2.1 d_Mo_beginRun_21 rfl (lv_at hl 0 rfl) ?_
  refine ugf (v := .int (sV s_5 a0 88)) G hP h_a0 iMo rfl 88 (by decide) rfl q3152 rfl rfl d_Mo_beginRun_22 ?_
  refine upfN G hP hD hS h 5 putV h_a1 iMr tMr tMr_ok nMr rfl (by decide) rfl q2992 rfl rfl fV rfl rfl d_Mo_beginRun_25 (fun s_6 H locs h hP hD hS => ?_)
  refine lv_aload_n G.1 G.2.1 d_Mo_beginRun_28 rfl (lv_at hl 1 rfl) ?_
  refine lv_aload_n G.1 G.2.1 d_Mo_beginRun_29 rfl (lv_at hl 0 rfl) ?_
  refine ugf (v := .int (sV s_6 a0 89)) G hP h_a0 iMo rfl 89 (by decide) rfl q3153 rfl rfl d_Mo_beginRun_30 ?_
  refine upfN G hP hD hS h 6 putV h_a1 iMr tMr tMr_ok nMr rfl (by decide) rfl q2993 rfl rfl fV rfl rfl d_Mo_beginRun_33 (fun s_7 H locs h hP hD hS => ?_)
  refine lv_aload_n G.1 G.2.1 d_Mo_beginRun_36 rfl (lv_at hl 1 rfl) ?_
  refine lv_aload_n G.1 G.2.1 d_Mo_beginRun_37 rfl (lv_at hl 0 rfl) ?_
  refine ugf (v := .int (sV s_7 a0 90)) G hP h_a0 iMo rfl 90 (by decide) rfl q3154 rfl rfl d_Mo_beginRun_38 ?_
  refine W.eq (g2 := F0 m 41 ls [.int (sV s_7 a0 90), .ref (ad a1)]) rfl ?_
  refine upfN G hP hD hS h 7 putV h_a1 iMr tMr tMr_ok nMr rfl (by decide) rfl q2994 rfl rfl fV rfl rfl d_Mo_beginRun_41 (fun s_8 H locs h hP hD hS => ?_)
  refine lv_iconst (v := 0) G.1 G.2.1 d_Mo_beginRun_44 (by decide) ?_
  refine lv_istore_n (lv' := [(2, .int 0), (0, .ref (ad a0)), (1, .ref (ad a1))]) G.1 G.2.1 d_Mo_beginRun_45 rfl hl (by decide) rfl (fun ls hl => ?_)
  unfold wl_Mo_beginRun_46 at h
  obtain ⟨I_46, μ_46, hI_46, hB_46⟩ := h
  have L_46 : ∀ (n_46 : Nat) (s_h46 : St) (x2h46 : Int32), μ_46 s_h46 x2h46 < n_46 → I_46 s_h46 x2h46 → ∀ (H : Heap) (locs : List Loc), va_P D CL (ws g ad y s_h46) H → va_D A (ws g ad y s_h46) → va_S A s.heap H locs → ∀ ls, lv_has ls 3 [(0, .ref (ad a0)), (1, .ref (ad a1)), (2, .int x2h46)] → W p l e ru_Mo_beginRun s m args below meth c H locs 0 0 Q (F0 m 46 ls []) := by
    intro n_46
    induction n_46 with
    | zero => intro s_h46 x2h46 hμ; exact absurd hμ (Nat.not_lt_zero _)
    | succ n_46 ih_46 =>
      intro s_h46 x2h46 hμ_46 hJ H locs hP hD hS ls hl
      obtain ⟨K_46, hK_46, h⟩ : ∃ K : St → Int32 → Prop, (∀ z (t0 : Int32), K z t0 → I_46 z t0 ∧ μ_46 z t0 < μ_46 s_h46 x2h46) ∧ wb_Mo_beginRun_46 y Post K a0 a1 s_h46 x2h46 := ⟨_, fun _ _ h => h, hB_46 s_h46 x2h46 hJ⟩
      unfold wb_Mo_beginRun_46 at h
      refine lv_iload_n G.1 G.2.1 d_Mo_beginRun_46 rfl (lv_at hl 2 rfl) ?_
      refine lv_aload_n G.1 G.2.1 d_Mo_beginRun_47 rfl (lv_at hl 0 rfl) ?_
      refine ugf (v := .ref (yP y a0 31)) G hP h_a0 iMo rfl 31 (by decide) rfl q3095 rfl rfl d_Mo_beginRun_48 ?_
      refine lv_aload_n G.1 G.2.1 d_Mo_beginRun_51 rfl (lv_at hl 0 rfl) ?_
      refine ugf (v := .int (sV s_h46 a0 90)) G hP h_a0 iMo rfl 90 (by decide) rfl q3154 rfl rfl d_Mo_beginRun_52 ?_
      refine uiald G hP (kdp h_a0 rfl) (typ h_a0 rfl) h d_Mo_beginRun_55 (fun x_9 h => ?_)
      refine lv_icmp_ge (tgt := 77) G.1 G.2.1 d_Mo_beginRun_56 (by decide) (fun c56 => ?_) (fun c56 => ?_)
      · skip
        have h := h.1 c56
        refine lv_aload_n G.1 G.2.1 d_Mo_beginRun_77 rfl (lv_at hl 1 rfl) ?_
        refine lv_iconst (v := 0) G.1 G.2.1 d_Mo_beginRun_78 (by decide) ?_
        refine upfN G hP hD hS h 10 putV h_a1 iMr tMr tMr_ok nMr rfl (by decide) rfl q2997 rfl rfl fV rfl rfl d_Mo_beginRun_79 (fun s_10 H locs h hP hD hS => ?_)
        refine lv_aload_n G.1 G.2.1 d_Mo_beginRun_82 rfl (lv_at hl 1 rfl) ?_
        refine W.eq (g2 := F0 m 83 ls [.ref (ad a1)]) rfl ?_
        refine lv_iconst (v := 0) G.1 G.2.1 d_Mo_beginRun_83 (by decide) ?_
        refine upfN G hP hD hS h 11 putV h_a1 iMr tMr tMr_ok nMr rfl (by decide) rfl q2998 rfl rfl fV rfl rfl d_Mo_beginRun_84 (fun s_11 H locs h hP hD hS => ?_)
        refine lv_aload_n G.1 G.2.1 d_Mo_beginRun_87 rfl (lv_at hl 1 rfl) ?_
        refine lv_bipush (v := (-2)) G.1 G.2.1 d_Mo_beginRun_88 (by decide) ?_
        refine upfN G hP hD hS h 12 putV h_a1 iMr tMr tMr_ok nMr rfl (by decide) rfl q2999 rfl rfl fV rfl rfl d_Mo_beginRun_90 (fun s_12 H locs h hP hD hS => ?_)
        refine lv_aload_n G.1 G.2.1 d_Mo_beginRun_93 rfl (lv_at hl 1 rfl) ?_
        refine lv_iconst (v := 0) G.1 G.2.1 d_Mo_beginRun_94 (by decide) ?_
        refine upfN G hP hD hS h 13 putV h_a1 iMr tMr tMr_ok nMr rfl (by decide) rfl q3000 rfl rfl fV rfl rfl d_Mo_beginRun_95 (fun s_13 H locs h hP hD hS => ?_)
        refine lv_aload_n G.1 G.2.1 d_Mo_beginRun_98 rfl (lv_at hl 1 rfl) ?_
        refine lv_iconst (v := 0) G.1 G.2.1 d_Mo_beginRun_99 (by decide) ?_
        refine upfN G hP hD hS h 16 putV h_a1 iMr tMr tMr_ok nMr rfl (by decide) rfl q3005 rfl rfl fV rfl rfl d_Mo_beginRun_100 (fun s_14 H locs h hP hD hS => ?_)
        refine lv_aload_n G.1 G.2.1 d_Mo_beginRun_103 rfl (lv_at hl 1 rfl) ?_
        refine W.eq (g2 := F0 m 104 ls [.ref (ad a1)]) rfl ?_
        refine lv_iconst (v := 0) G.1 G.2.1 d_Mo_beginRun_104 (by decide) ?_
        refine upfN G hP hD hS h 22 putV h_a1 iMr tMr tMr_ok nMr rfl (by decide) rfl q3016 rfl rfl fV rfl rfl d_Mo_beginRun_105 (fun s_15 H locs h hP hD hS => ?_)
        exact hret _ _ _ _ _ _ ls h hP hD hS (Nat.le_refl _) (Nat.le_refl _) d_Mo_beginRun_108
      · skip
        have h := h.2 c56
        refine lv_aload_n G.1 G.2.1 d_Mo_beginRun_59 rfl (lv_at hl 1 rfl) ?_
        refine ugfN (v := .ref (yP y a1 8)) G hP h_a1 iMr rfl 8 (by decide) rfl q2996 rfl rfl d_Mo_beginRun_60 ?_
        refine lv_iload_n G.1 G.2.1 d_Mo_beginRun_63 rfl (lv_at hl 2 rfl) ?_
        refine lv_aload_n G.1 G.2.1 d_Mo_beginRun_64 rfl (lv_at hl 0 rfl) ?_
        refine W.eq (g2 := F0 m 65 ls [.ref (ad a0), .int x2h46, .ref (yP y a1 8)]) rfl ?_
        refine ugf (v := .ref (yP y a0 87)) G hP h_a0 iMo rfl 87 (by decide) rfl q3151 rfl rfl d_Mo_beginRun_65 ?_
        refine lv_iload_n G.1 G.2.1 d_Mo_beginRun_68 rfl (lv_at hl 2 rfl) ?_
        refine uiald G hP (kdp h_a0 rfl) (typ h_a0 rfl) h d_Mo_beginRun_69 (fun x_16 h => ?_)
        refine uiast G hP hD hS (kdp h_a1 rfl) (typ h_a1 rfl) h d_Mo_beginRun_70 (fun s_17 H locs h hP hD hS => ?_)
        refine lv_iinc (v := x2h46 + 1) (lv' := [(2, .int (x2h46 + 1)), (0, .ref (ad a0)), (1, .ref (ad a1))]) G.1 G.2.1 d_Mo_beginRun_71 hl (k := 2) rfl rfl (by decide) rfl (fun ls hl => ?_)
        refine lv_goto (tgt := 46) G.1 G.2.1 d_Mo_beginRun_74 (by decide) ?_
        have h := hK_46 s_17 (x2h46 + 1) h
        exact ih_46 s_17 (x2h46 + 1) (Nat.lt_of_lt_of_le h.2 (Nat.le_of_lt_succ hμ_46)) h.1 H locs hP hD hS ls (lv_sub hl [1, 2, 0] rfl)
  exact L_46 _ s_8 0 (Nat.lt_succ_self _) hI_46 H locs hP hD hS ls (lv_sub hl [1, 2, 0] rfl)
def y_Mo_quantum : MethodName := ⟨"ClassWorksModel", "quantum", "(II)I"⟩
abbrev b_Mo_quantum : ByteArray := prog_14_method_145_code
theorem d_Mo_quantum_0 : decode b_Mo_quantum 0 = .ok (.aload_n 0, 1) := by decide +kernel
theorem d_Mo_quantum_1 : decode b_Mo_quantum 1 = .ok (.iload_n 1, 1) := by decide +kernel
theorem d_Mo_quantum_2 : decode b_Mo_quantum 2 = .ok (.invokevirtual 1118, 3) := by decide +kernel
theorem d_Mo_quantum_5 : decode b_Mo_quantum 5 = .ok (.ifCond .eq 15, 3) := by decide +kernel
theorem d_Mo_quantum_8 : decode b_Mo_quantum 8 = .ok (.iload_n 2, 1) := by decide +kernel
theorem d_Mo_quantum_9 : decode b_Mo_quantum 9 = .ok (.iconst 1, 1) := by decide +kernel
theorem d_Mo_quantum_10 : decode b_Mo_quantum 10 = .ok (.if_icmp .lt 10, 3) := by decide +kernel
theorem d_Mo_quantum_13 : decode b_Mo_quantum 13 = .ok (.iload_n 2, 1) := by decide +kernel
theorem d_Mo_quantum_14 : decode b_Mo_quantum 14 = .ok (.sipush 200, 3) := by decide +kernel
theorem d_Mo_quantum_17 : decode b_Mo_quantum 17 = .ok (.if_icmp .le 5, 3) := by decide +kernel
theorem d_Mo_quantum_20 : decode b_Mo_quantum 20 = .ok (.iconst (-1), 1) := by decide +kernel
theorem d_Mo_quantum_21 : decode b_Mo_quantum 21 = .ok (.ireturn, 1) := by decide +kernel
theorem d_Mo_quantum_22 : decode b_Mo_quantum 22 = .ok (.aload_n 0, 1) := by decide +kernel
theorem d_Mo_quantum_23 : decode b_Mo_quantum 23 = .ok (.getfield 263, 3) := by decide +kernel
theorem d_Mo_quantum_26 : decode b_Mo_quantum 26 = .ok (.iload_n 1, 1) := by decide +kernel
theorem d_Mo_quantum_27 : decode b_Mo_quantum 27 = .ok (.aaload, 1) := by decide +kernel
theorem d_Mo_quantum_28 : decode b_Mo_quantum 28 = .ok (.getfield 495, 3) := by decide +kernel
theorem d_Mo_quantum_31 : decode b_Mo_quantum 31 = .ok (.istore_n 3, 1) := by decide +kernel
theorem d_Mo_quantum_32 : decode b_Mo_quantum 32 = .ok (.aload_n 0, 1) := by decide +kernel
theorem d_Mo_quantum_33 : decode b_Mo_quantum 33 = .ok (.getfield 263, 3) := by decide +kernel
theorem d_Mo_quantum_36 : decode b_Mo_quantum 36 = .ok (.iload_n 1, 1) := by decide +kernel
theorem d_Mo_quantum_37 : decode b_Mo_quantum 37 = .ok (.aaload, 1) := by decide +kernel
theorem d_Mo_quantum_38 : decode b_Mo_quantum 38 = .ok (.iload_n 2, 1) := by decide +kernel
theorem d_Mo_quantum_39 : decode b_Mo_quantum 39 = .ok (.putfield 495, 3) := by decide +kernel
theorem d_Mo_quantum_42 : decode b_Mo_quantum 42 = .ok (.iload_n 3, 1) := by decide +kernel
theorem d_Mo_quantum_43 : decode b_Mo_quantum 43 = .ok (.ireturn, 1) := by decide +kernel
abbrev ru_Mo_quantum : Room := { frames := 1, cells := 0, slots := 0, locals := 21 }
def wj_Mo_quantum_20 (y : Ly) (Post : St → Int32 → Prop) (a0 : Nat) (s_j20 : St) : Prop := Post s_j20 (-1)
def wu_Mo_quantum (y : Ly) (Post : St → Int32 → Prop) (σ : St) (a0 : Nat) (v1 : Int32) (v2 : Int32) : Prop := wu_Mo_isWorld y (fun (s_2 : St) (r_1 : Int32) => ((r_1 = 0 → wj_Mo_quantum_20 y Post a0 s_2) ∧ (¬ (r_1 = 0) → ((v2 < 1 → wj_Mo_quantum_20 y Post a0 s_2) ∧ (¬ (v2 < 1) → ((v2 ≤ 200 → xQ y a0 44 v1 (fun b_3 : Nat => xQ y a0 44 v1 (fun b_5 : Nat => xP (uV s_2 b_5 65 v2) (fun s_7 : St => Post s_7 (sV s_2 b_3 65))))) ∧ (¬ (v2 ≤ 200) → wj_Mo_quantum_20 y Post a0 s_2))))))) σ a0 v1
set_option maxHeartbeats 4000000 in
set_option maxRecDepth 100000 in
theorem cu_Mo_quantum (l : Launch) (D : va_G) (g : Nat → ClassId) (ad : Nat → Nat) (y : Ly) (Post : St → Int32 → Prop) (σ : St) (a0 : Nat) (v1 : Int32) (v2 : Int32) (sz : Nat) (h_a0 : cl a0 = 14) (h : wu_Mo_quantum y Post σ a0 v1 v2) : Met l y_Mo_quantum (mw y_Mo_quantum b_Mo_quantum 4 (some .int)) ru_Mo_quantum (PC g D [] [.ref (ad a0), .int v1, .int v2] sz (ws g ad y σ)) (va_Qi (fun (r : Int32) (u : St) => Post u r) (QW D (va_A (ws g ad y σ) sz) (fun u => ws g ad y u)) (va_A (ws g ad y σ) sz)) 0 0 (va_A (ws g ad y σ) sz) := by
  refine ofI (by decide +kernel) (Nat.le_of_ble_eq_true rfl) ?_
  intro p e s m args below meth c A Q ls H locs G hsz hP hD hS hl hret
  subst hsz
  have hl : lv_has ls 4 [(0, .ref (ad a0)), (1, .int v1), (2, .int v2)] := hl
  unfold wu_Mo_quantum at h
  refine lv_aload_n G.1 G.2.1 d_Mo_quantum_0 rfl (lv_at hl 0 rfl) ?_
  refine lv_iload_n G.1 G.2.1 d_Mo_quantum_1 rfl (lv_at hl 1 rfl) ?_
  refine ucVi (As := [.int v1]) (rest := []) G hP hD hS (cu_Mo_isWorld l D g ad y _ σ a0 v1 H.size h_a0 h) w9_Mo_isWorld q3482 ⟨Nat.le_of_ble_eq_true rfl, Nat.le_of_ble_eq_true rfl⟩ rfl rfl h_a0 (q := (RMo, TMo, 131)) rfl rfl hl.1 rfl (Nat.le_of_ble_eq_true rfl) rfl ⟨Nat.le_refl _, Nat.le_refl _⟩ d_Mo_quantum_2 (fun r_1 s_2 H locs h hP hD hS => ?_)
  have J_20 : ∀ (s_j20 : St) (H : Heap) (locs : List Loc), wj_Mo_quantum_20 y Post a0 s_j20 → va_P D CL (ws g ad y s_j20) H → va_D A (ws g ad y s_j20) → va_S A s.heap H locs → ∀ ls, lv_has ls 4 [] → W p l e ru_Mo_quantum s m args below meth c H locs 0 0 Q (F0 m 20 ls []) := by
    intro s_j20 H locs h hP hD hS ls hl
    unfold wj_Mo_quantum_20 at h
    refine lv_iconst (v := (-1)) G.1 G.2.1 d_Mo_quantum_20 (by decide) ?_
    exact hret _ _ _ _ _ _ _ ls h hP hD hS (Nat.le_refl _) (Nat.le_refl _) d_Mo_quantum_21
  refine lv_if_eq (tgt := 20) G.1 G.2.1 d_Mo_quantum_5 (by decide) (fun c5 => ?_) (fun c5 => ?_)
  · skip
    have h := h.1 c5
    exact J_20 s_2 H locs h hP hD hS ls (lv_sub hl [] rfl)
  · skip
    have h := h.2 c5
    refine lv_iload_n G.1 G.2.1 d_Mo_quantum_8 rfl (lv_at hl 2 rfl) ?_
    refine lv_iconst (v := 1) G.1 G.2.1 d_Mo_quantum_9 (by decide) ?_
    refine lv_icmp_lt (tgt := 20) G.1 G.2.1 d_Mo_quantum_10 (by decide) (fun c10 => ?_) (fun c10 => ?_)
    · skip
      have h := h.1 c10
      exact J_20 s_2 H locs h hP hD hS ls (lv_sub hl [] rfl)
    · skip
      have h := h.2 c10
      refine lv_iload_n G.1 G.2.1 d_Mo_quantum_13 rfl (lv_at hl 2 rfl) ?_
      refine lv_sipush (v := 200) G.1 G.2.1 d_Mo_quantum_14 (by decide) ?_
      refine lv_icmp_le (tgt := 22) G.1 G.2.1 d_Mo_quantum_17 (by decide) (fun c17 => ?_) (fun c17 => ?_)
      · skip
        have h := h.1 c17
        refine lv_aload_n G.1 G.2.1 d_Mo_quantum_22 rfl (lv_at hl 0 rfl) ?_
        refine W.eq (g2 := F0 m 23 ls [.ref (ad a0)]) rfl ?_
        refine ugf (v := .ref (yP y a0 44)) G hP h_a0 iMo rfl 44 (by decide) rfl q3108 rfl rfl d_Mo_quantum_23 ?_
        refine lv_iload_n G.1 G.2.1 d_Mo_quantum_26 rfl (lv_at hl 1 rfl) ?_
        refine uqald G hP (kdp h_a0 rfl) (typ h_a0 rfl) rfl h d_Mo_quantum_27 (fun b_3 n_4 h => ?_)
        refine ugfN (v := .int (sV s_2 b_3 65)) G hP (oa_14 h_a0 n_4) iMw rfl 65 (by decide) rfl q2823 rfl rfl d_Mo_quantum_28 ?_
        refine lv_istore_n (lv' := [(3, .int (sV s_2 b_3 65)), (0, .ref (ad a0)), (1, .int v1), (2, .int v2)]) G.1 G.2.1 d_Mo_quantum_31 rfl hl (by decide) rfl (fun ls hl => ?_)
        refine lv_aload_n G.1 G.2.1 d_Mo_quantum_32 rfl (lv_at hl 1 rfl) ?_
        refine ugf (v := .ref (yP y a0 44)) G hP h_a0 iMo rfl 44 (by decide) rfl q3108 rfl rfl d_Mo_quantum_33 ?_
        refine lv_iload_n G.1 G.2.1 d_Mo_quantum_36 rfl (lv_at hl 2 rfl) ?_
        refine uqald G hP (kdp h_a0 rfl) (typ h_a0 rfl) rfl h d_Mo_quantum_37 (fun b_5 n_6 h => ?_)
        refine lv_iload_n G.1 G.2.1 d_Mo_quantum_38 rfl (lv_at hl 3 rfl) ?_
        refine upfN G hP hD hS h 65 putV (oa_14 h_a0 n_6) iMw tMw tMw_ok nMw rfl (by decide) rfl q2823 rfl rfl fV rfl rfl d_Mo_quantum_39 (fun s_7 H locs h hP hD hS => ?_)
        refine lv_iload_n G.1 G.2.1 d_Mo_quantum_42 rfl (lv_at hl 0 rfl) ?_
        refine W.eq (g2 := F0 m 43 ls [.int (sV s_2 b_3 65)]) rfl ?_
        exact hret _ _ _ _ _ _ _ ls h hP hD hS (Nat.le_refl _) (Nat.le_refl _) d_Mo_quantum_43
      · skip
        have h := h.2 c17
        exact J_20 s_2 H locs h hP hD hS ls (lv_sub hl [] rfl)
def y_Mo_halt : MethodName := ⟨"ClassWorksModel", "halt", "(I)I"⟩
abbrev b_Mo_halt : ByteArray := prog_14_method_146_code
theorem q2808 : Cond.fieldLinkNest "ClassWorksModel" 878 "ClassWorksModel$World" "faultLocks" "[I" "ClassWorksModel" ∈ lw_nest := lw_nestmem (List.mem_of_getElem? (i := 2808) (by decide +kernel)) rfl
theorem q2796 : Cond.fieldLinkNest "ClassWorksModel" 890 "ClassWorksModel$World" "thingLocks" "[I" "ClassWorksModel" ∈ lw_nest := lw_nestmem (List.mem_of_getElem? (i := 2796) (by decide +kernel)) rfl
theorem d_Mo_halt_0 : decode b_Mo_halt 0 = .ok (.aload_n 0, 1) := by decide +kernel
theorem d_Mo_halt_1 : decode b_Mo_halt 1 = .ok (.iload_n 1, 1) := by decide +kernel
theorem d_Mo_halt_2 : decode b_Mo_halt 2 = .ok (.invokevirtual 1118, 3) := by decide +kernel
theorem d_Mo_halt_5 : decode b_Mo_halt 5 = .ok (.ifCond .ne 5, 3) := by decide +kernel
theorem d_Mo_halt_8 : decode b_Mo_halt 8 = .ok (.iconst (-1), 1) := by decide +kernel
theorem d_Mo_halt_9 : decode b_Mo_halt 9 = .ok (.ireturn, 1) := by decide +kernel
theorem d_Mo_halt_10 : decode b_Mo_halt 10 = .ok (.aload_n 0, 1) := by decide +kernel
theorem d_Mo_halt_11 : decode b_Mo_halt 11 = .ok (.aload_n 0, 1) := by decide +kernel
theorem d_Mo_halt_12 : decode b_Mo_halt 12 = .ok (.getfield 263, 3) := by decide +kernel
theorem d_Mo_halt_15 : decode b_Mo_halt 15 = .ok (.iload_n 1, 1) := by decide +kernel
theorem d_Mo_halt_16 : decode b_Mo_halt 16 = .ok (.aaload, 1) := by decide +kernel
theorem d_Mo_halt_17 : decode b_Mo_halt 17 = .ok (.putfield 522, 3) := by decide +kernel
theorem d_Mo_halt_20 : decode b_Mo_halt 20 = .ok (.iconst 0, 1) := by decide +kernel
theorem d_Mo_halt_21 : decode b_Mo_halt 21 = .ok (.istore_n 2, 1) := by decide +kernel
theorem d_Mo_halt_22 : decode b_Mo_halt 22 = .ok (.iconst 0, 1) := by decide +kernel
theorem d_Mo_halt_23 : decode b_Mo_halt 23 = .ok (.istore_n 3, 1) := by decide +kernel
theorem d_Mo_halt_24 : decode b_Mo_halt 24 = .ok (.iload_n 3, 1) := by decide +kernel
theorem d_Mo_halt_25 : decode b_Mo_halt 25 = .ok (.iconst 3, 1) := by decide +kernel
theorem d_Mo_halt_26 : decode b_Mo_halt 26 = .ok (.if_icmp .ge 60, 3) := by decide +kernel
theorem d_Mo_halt_29 : decode b_Mo_halt 29 = .ok (.iload_n 2, 1) := by decide +kernel
theorem d_Mo_halt_30 : decode b_Mo_halt 30 = .ok (.aload_n 0, 1) := by decide +kernel
theorem d_Mo_halt_31 : decode b_Mo_halt 31 = .ok (.getfield 522, 3) := by decide +kernel
theorem d_Mo_halt_34 : decode b_Mo_halt 34 = .ok (.getfield 406, 3) := by decide +kernel
theorem d_Mo_halt_37 : decode b_Mo_halt 37 = .ok (.iload_n 3, 1) := by decide +kernel
theorem d_Mo_halt_38 : decode b_Mo_halt 38 = .ok (.aaload, 1) := by decide +kernel
theorem d_Mo_halt_39 : decode b_Mo_halt 39 = .ok (.getfield 486, 3) := by decide +kernel
theorem d_Mo_halt_42 : decode b_Mo_halt 42 = .ok (.iconst 1, 1) := by decide +kernel
theorem d_Mo_halt_43 : decode b_Mo_halt 43 = .ok (.if_icmp .ne 7, 3) := by decide +kernel
theorem d_Mo_halt_46 : decode b_Mo_halt 46 = .ok (.iconst 1, 1) := by decide +kernel
theorem d_Mo_halt_47 : decode b_Mo_halt 47 = .ok (.goto 4, 3) := by decide +kernel
theorem d_Mo_halt_50 : decode b_Mo_halt 50 = .ok (.iconst 0, 1) := by decide +kernel
theorem d_Mo_halt_51 : decode b_Mo_halt 51 = .ok (.iadd, 1) := by decide +kernel
theorem d_Mo_halt_52 : decode b_Mo_halt 52 = .ok (.istore_n 2, 1) := by decide +kernel
theorem d_Mo_halt_53 : decode b_Mo_halt 53 = .ok (.aload_n 0, 1) := by decide +kernel
theorem d_Mo_halt_54 : decode b_Mo_halt 54 = .ok (.getfield 522, 3) := by decide +kernel
theorem d_Mo_halt_57 : decode b_Mo_halt 57 = .ok (.getfield 406, 3) := by decide +kernel
theorem d_Mo_halt_60 : decode b_Mo_halt 60 = .ok (.iload_n 3, 1) := by decide +kernel
theorem d_Mo_halt_61 : decode b_Mo_halt 61 = .ok (.aaload, 1) := by decide +kernel
theorem d_Mo_halt_62 : decode b_Mo_halt 62 = .ok (.bipush (-2), 2) := by decide +kernel
theorem d_Mo_halt_64 : decode b_Mo_halt 64 = .ok (.putfield 486, 3) := by decide +kernel
theorem d_Mo_halt_67 : decode b_Mo_halt 67 = .ok (.aload_n 0, 1) := by decide +kernel
theorem d_Mo_halt_68 : decode b_Mo_halt 68 = .ok (.getfield 522, 3) := by decide +kernel
theorem d_Mo_halt_71 : decode b_Mo_halt 71 = .ok (.getfield 406, 3) := by decide +kernel
theorem d_Mo_halt_74 : decode b_Mo_halt 74 = .ok (.iload_n 3, 1) := by decide +kernel
theorem d_Mo_halt_75 : decode b_Mo_halt 75 = .ok (.aaload, 1) := by decide +kernel
theorem d_Mo_halt_76 : decode b_Mo_halt 76 = .ok (.iconst 0, 1) := by decide +kernel
theorem d_Mo_halt_77 : decode b_Mo_halt 77 = .ok (.putfield 489, 3) := by decide +kernel
theorem d_Mo_halt_80 : decode b_Mo_halt 80 = .ok (.iinc 3 1, 3) := by decide +kernel
theorem d_Mo_halt_83 : decode b_Mo_halt 83 = .ok (.goto (-59), 3) := by decide +kernel
theorem d_Mo_halt_86 : decode b_Mo_halt 86 = .ok (.iconst 0, 1) := by decide +kernel
theorem d_Mo_halt_87 : decode b_Mo_halt 87 = .ok (.istore_n 3, 1) := by decide +kernel
theorem d_Mo_halt_88 : decode b_Mo_halt 88 = .ok (.iload_n 3, 1) := by decide +kernel
theorem d_Mo_halt_89 : decode b_Mo_halt 89 = .ok (.aload_n 0, 1) := by decide +kernel
theorem d_Mo_halt_90 : decode b_Mo_halt 90 = .ok (.getfield 522, 3) := by decide +kernel
theorem d_Mo_halt_93 : decode b_Mo_halt 93 = .ok (.getfield 420, 3) := by decide +kernel
theorem d_Mo_halt_96 : decode b_Mo_halt 96 = .ok (.if_icmp .ge 44, 3) := by decide +kernel
theorem d_Mo_halt_99 : decode b_Mo_halt 99 = .ok (.aload_n 0, 1) := by decide +kernel
theorem d_Mo_halt_100 : decode b_Mo_halt 100 = .ok (.getfield 522, 3) := by decide +kernel
theorem d_Mo_halt_103 : decode b_Mo_halt 103 = .ok (.getfield 441, 3) := by decide +kernel
theorem d_Mo_halt_106 : decode b_Mo_halt 106 = .ok (.iload_n 3, 1) := by decide +kernel
theorem d_Mo_halt_107 : decode b_Mo_halt 107 = .ok (.aload_n 0, 1) := by decide +kernel
theorem d_Mo_halt_108 : decode b_Mo_halt 108 = .ok (.getfield 522, 3) := by decide +kernel
theorem d_Mo_halt_111 : decode b_Mo_halt 111 = .ok (.getfield 441, 3) := by decide +kernel
theorem d_Mo_halt_114 : decode b_Mo_halt 114 = .ok (.iload_n 3, 1) := by decide +kernel
theorem d_Mo_halt_115 : decode b_Mo_halt 115 = .ok (.iaload, 1) := by decide +kernel
theorem d_Mo_halt_116 : decode b_Mo_halt 116 = .ok (.iconst 1, 1) := by decide +kernel
theorem d_Mo_halt_117 : decode b_Mo_halt 117 = .ok (.if_icmp .ne 7, 3) := by decide +kernel
theorem d_Mo_halt_120 : decode b_Mo_halt 120 = .ok (.iconst 3, 1) := by decide +kernel
theorem d_Mo_halt_121 : decode b_Mo_halt 121 = .ok (.goto 12, 3) := by decide +kernel
theorem d_Mo_halt_124 : decode b_Mo_halt 124 = .ok (.aload_n 0, 1) := by decide +kernel
theorem d_Mo_halt_125 : decode b_Mo_halt 125 = .ok (.getfield 522, 3) := by decide +kernel
theorem d_Mo_halt_128 : decode b_Mo_halt 128 = .ok (.getfield 441, 3) := by decide +kernel
theorem d_Mo_halt_131 : decode b_Mo_halt 131 = .ok (.iload_n 3, 1) := by decide +kernel
theorem d_Mo_halt_132 : decode b_Mo_halt 132 = .ok (.iaload, 1) := by decide +kernel
theorem d_Mo_halt_133 : decode b_Mo_halt 133 = .ok (.iastore, 1) := by decide +kernel
theorem d_Mo_halt_134 : decode b_Mo_halt 134 = .ok (.iinc 3 1, 3) := by decide +kernel
theorem d_Mo_halt_137 : decode b_Mo_halt 137 = .ok (.goto (-49), 3) := by decide +kernel
theorem d_Mo_halt_140 : decode b_Mo_halt 140 = .ok (.iconst 1, 1) := by decide +kernel
theorem d_Mo_halt_141 : decode b_Mo_halt 141 = .ok (.istore_n 3, 1) := by decide +kernel
theorem d_Mo_halt_142 : decode b_Mo_halt 142 = .ok (.iload_n 3, 1) := by decide +kernel
theorem d_Mo_halt_143 : decode b_Mo_halt 143 = .ok (.sipush 800, 3) := by decide +kernel
theorem d_Mo_halt_146 : decode b_Mo_halt 146 = .ok (.if_icmp .gt 19, 3) := by decide +kernel
theorem d_Mo_halt_149 : decode b_Mo_halt 149 = .ok (.aload_n 0, 1) := by decide +kernel
theorem d_Mo_halt_150 : decode b_Mo_halt 150 = .ok (.getfield 522, 3) := by decide +kernel
theorem d_Mo_halt_153 : decode b_Mo_halt 153 = .ok (.getfield 890, 3) := by decide +kernel
theorem d_Mo_halt_156 : decode b_Mo_halt 156 = .ok (.iload_n 3, 1) := by decide +kernel
theorem d_Mo_halt_157 : decode b_Mo_halt 157 = .ok (.iconst 0, 1) := by decide +kernel
theorem d_Mo_halt_158 : decode b_Mo_halt 158 = .ok (.iastore, 1) := by decide +kernel
theorem d_Mo_halt_159 : decode b_Mo_halt 159 = .ok (.iinc 3 1, 3) := by decide +kernel
theorem d_Mo_halt_162 : decode b_Mo_halt 162 = .ok (.goto (-20), 3) := by decide +kernel
theorem d_Mo_halt_165 : decode b_Mo_halt 165 = .ok (.iconst 0, 1) := by decide +kernel
theorem d_Mo_halt_166 : decode b_Mo_halt 166 = .ok (.istore_n 3, 1) := by decide +kernel
theorem d_Mo_halt_167 : decode b_Mo_halt 167 = .ok (.iload_n 3, 1) := by decide +kernel
theorem d_Mo_halt_168 : decode b_Mo_halt 168 = .ok (.aload_n 0, 1) := by decide +kernel
theorem d_Mo_halt_169 : decode b_Mo_halt 169 = .ok (.getfield 522, 3) := by decide +kernel
theorem d_Mo_halt_172 : decode b_Mo_halt 172 = .ok (.getfield 516, 3) := by decide +kernel
theorem d_Mo_halt_175 : decode b_Mo_halt 175 = .ok (.if_icmp .ge 19, 3) := by decide +kernel
theorem d_Mo_halt_178 : decode b_Mo_halt 178 = .ok (.aload_n 0, 1) := by decide +kernel
theorem d_Mo_halt_179 : decode b_Mo_halt 179 = .ok (.getfield 522, 3) := by decide +kernel
theorem d_Mo_halt_182 : decode b_Mo_halt 182 = .ok (.getfield 878, 3) := by decide +kernel
theorem d_Mo_halt_185 : decode b_Mo_halt 185 = .ok (.iload_n 3, 1) := by decide +kernel
theorem d_Mo_halt_186 : decode b_Mo_halt 186 = .ok (.iconst 0, 1) := by decide +kernel
theorem d_Mo_halt_187 : decode b_Mo_halt 187 = .ok (.iastore, 1) := by decide +kernel
theorem d_Mo_halt_188 : decode b_Mo_halt 188 = .ok (.iinc 3 1, 3) := by decide +kernel
theorem d_Mo_halt_191 : decode b_Mo_halt 191 = .ok (.goto (-24), 3) := by decide +kernel
theorem d_Mo_halt_194 : decode b_Mo_halt 194 = .ok (.aload_n 0, 1) := by decide +kernel
theorem d_Mo_halt_195 : decode b_Mo_halt 195 = .ok (.getfield 522, 3) := by decide +kernel
theorem d_Mo_halt_198 : decode b_Mo_halt 198 = .ok (.iconst 0, 1) := by decide +kernel
theorem d_Mo_halt_199 : decode b_Mo_halt 199 = .ok (.putfield 492, 3) := by decide +kernel
theorem d_Mo_halt_202 : decode b_Mo_halt 202 = .ok (.aload_n 0, 1) := by decide +kernel
theorem d_Mo_halt_203 : decode b_Mo_halt 203 = .ok (.getfield 522, 3) := by decide +kernel
theorem d_Mo_halt_206 : decode b_Mo_halt 206 = .ok (.aload_n 0, 1) := by decide +kernel
theorem d_Mo_halt_207 : decode b_Mo_halt 207 = .ok (.getfield 522, 3) := by decide +kernel
theorem d_Mo_halt_210 : decode b_Mo_halt 210 = .ok (.getfield 495, 3) := by decide +kernel
theorem d_Mo_halt_213 : decode b_Mo_halt 213 = .ok (.putfield 498, 3) := by decide +kernel
theorem d_Mo_halt_216 : decode b_Mo_halt 216 = .ok (.iload_n 2, 1) := by decide +kernel
theorem d_Mo_halt_217 : decode b_Mo_halt 217 = .ok (.ireturn, 1) := by decide +kernel
abbrev ru_Mo_halt : Room := { frames := 1, cells := 0, slots := 0, locals := 21 }
def wb_Mo_halt_167 (y : Ly) (Post : St → Int32 → Prop) (K_167 : St → Int32 → Int32 → Prop) (a0 : Nat) (s_h167 : St) (x2h167 : Int32) (x3h167 : Int32) : Prop := ∃ b_9 : Nat, sO s_h167 a0 45 = some b_9 ∧ cl b_9 = 13 ∧ (((sV s_h167 b_9 56) ≤ x3h167 → ∃ b_12 : Nat, sO s_h167 a0 45 = some b_12 ∧ cl b_12 = 13 ∧ xP (uV s_h167 b_12 63 0) (fun s_15 : St => ∃ b_16 : Nat, sO s_15 a0 45 = some b_16 ∧ cl b_16 = 13 ∧ ∃ b_19 : Nat, sO s_15 a0 45 = some b_19 ∧ cl b_19 = 13 ∧ xP (uV s_15 b_16 64 (sV s_15 b_19 65)) (fun s_22 : St => Post s_22 x2h167))) ∧ (¬ ((sV s_h167 b_9 56) ≤ x3h167) → ∃ b_23 : Nat, sO s_h167 a0 45 = some b_23 ∧ cl b_23 = 13 ∧ xS y s_h167 b_23 55 x3h167 0 (fun s_26 : St => K_167 s_26 x2h167 (x3h167 + 1))))
def wl_Mo_halt_167 (y : Ly) (Post : St → Int32 → Prop) (a0 : Nat) (s_h167 : St) (x2h167 : Int32) (x3h167 : Int32) : Prop := ∃ (I : St → Int32 → Int32 → Prop) (μ : St → Int32 → Int32 → Nat), I s_h167 x2h167 x3h167 ∧ ∀ (u : St) (t0 : Int32) (t1 : Int32), I u t0 t1 → wb_Mo_halt_167 y Post (fun z t0q t1q => I z t0q t1q ∧ μ z t0q t1q < μ u t0 t1) a0 u t0 t1
def wb_Mo_halt_142 (y : Ly) (Post : St → Int32 → Prop) (K_142 : St → Int32 → Int32 → Prop) (a0 : Nat) (s_h142 : St) (x2h142 : Int32) (x3h142 : Int32) : Prop := ((800 < x3h142 → wl_Mo_halt_167 y Post a0 s_h142 x2h142 0) ∧ (¬ (800 < x3h142) → ∃ b_27 : Nat, sO s_h142 a0 45 = some b_27 ∧ cl b_27 = 13 ∧ xS y s_h142 b_27 48 x3h142 0 (fun s_30 : St => K_142 s_30 x2h142 (x3h142 + 1))))
def wl_Mo_halt_142 (y : Ly) (Post : St → Int32 → Prop) (a0 : Nat) (s_h142 : St) (x2h142 : Int32) (x3h142 : Int32) : Prop := ∃ (I : St → Int32 → Int32 → Prop) (μ : St → Int32 → Int32 → Nat), I s_h142 x2h142 x3h142 ∧ ∀ (u : St) (t0 : Int32) (t1 : Int32), I u t0 t1 → wb_Mo_halt_142 y Post (fun z t0q t1q => I z t0q t1q ∧ μ z t0q t1q < μ u t0 t1) a0 u t0 t1
def wj_Mo_halt_133 (y : Ly) (Post : St → Int32 → Prop) (K_88 : St → Int32 → Int32 → Prop) (a0 : Nat) (s_j133 : St) (x2j133 : Int32) (x3j133 : Int32) (z0j133 : Nat) (z0j133k : Nat) (z1j133 : Int32) (z2j133 : Int32) : Prop := (kd (cl z0j133) z0j133k = 2 ∧ tyx (cl z0j133) z0j133k = 0) ∧ xS y s_j133 z0j133 z0j133k z1j133 z2j133 (fun s_38 : St => K_88 s_38 x2j133 (x3j133 + 1))
def wb_Mo_halt_88 (y : Ly) (Post : St → Int32 → Prop) (K_88 : St → Int32 → Int32 → Prop) (a0 : Nat) (s_h88 : St) (x2h88 : Int32) (x3h88 : Int32) : Prop := ∃ b_6 : Nat, sO s_h88 a0 45 = some b_6 ∧ cl b_6 = 13 ∧ (((sV s_h88 b_6 2) ≤ x3h88 → wl_Mo_halt_142 y Post a0 s_h88 x2h88 1) ∧ (¬ ((sV s_h88 b_6 2) ≤ x3h88) → ∃ b_31 : Nat, sO s_h88 a0 45 = some b_31 ∧ cl b_31 = 13 ∧ ∃ b_34 : Nat, sO s_h88 a0 45 = some b_34 ∧ cl b_34 = 13 ∧ xA y s_h88 b_34 10 x3h88 (fun x_37 : Int32 => ((¬ x_37 = 1 → ∃ b_39 : Nat, sO s_h88 a0 45 = some b_39 ∧ cl b_39 = 13 ∧ xA y s_h88 b_39 10 x3h88 (fun x_42 : Int32 => wj_Mo_halt_133 y Post K_88 a0 s_h88 x2h88 x3h88 b_31 10 x3h88 x_42)) ∧ (x_37 = 1 → wj_Mo_halt_133 y Post K_88 a0 s_h88 x2h88 x3h88 b_31 10 x3h88 3)))))
def wl_Mo_halt_88 (y : Ly) (Post : St → Int32 → Prop) (a0 : Nat) (s_h88 : St) (x2h88 : Int32) (x3h88 : Int32) : Prop := ∃ (I : St → Int32 → Int32 → Prop) (μ : St → Int32 → Int32 → Nat), I s_h88 x2h88 x3h88 ∧ ∀ (u : St) (t0 : Int32) (t1 : Int32), I u t0 t1 → wb_Mo_halt_88 y Post (fun z t0q t1q => I z t0q t1q ∧ μ z t0q t1q < μ u t0 t1) a0 u t0 t1
def wj_Mo_halt_51 (y : Ly) (Post : St → Int32 → Prop) (K_24 : St → Int32 → Int32 → Prop) (a0 : Nat) (s_j51 : St) (x3j51 : Int32) (z0j51 : Int32) (z1j51 : Int32) : Prop := ∃ b_48 : Nat, sO s_j51 a0 45 = some b_48 ∧ cl b_48 = 13 ∧ xQ y b_48 62 x3j51 (fun b_51 : Nat => xP (uV s_j51 b_51 0 (-2)) (fun s_53 : St => ∃ b_54 : Nat, sO s_53 a0 45 = some b_54 ∧ cl b_54 = 13 ∧ xQ y b_54 62 x3j51 (fun b_57 : Nat => nb 0 ∧ xP (uV s_53 b_57 1 0) (fun s_60 : St => K_24 s_60 (z0j51 + z1j51) (x3j51 + 1)))))
def wb_Mo_halt_24 (y : Ly) (Post : St → Int32 → Prop) (K_24 : St → Int32 → Int32 → Prop) (a0 : Nat) (s_h24 : St) (x2h24 : Int32) (x3h24 : Int32) : Prop := ((3 ≤ x3h24 → wl_Mo_halt_88 y Post a0 s_h24 x2h24 0) ∧ (¬ (3 ≤ x3h24) → ∃ b_43 : Nat, sO s_h24 a0 45 = some b_43 ∧ cl b_43 = 13 ∧ xQ y b_43 62 x3h24 (fun b_46 : Nat => ((¬ (sV s_h24 b_46 0) = 1 → wj_Mo_halt_51 y Post K_24 a0 s_h24 x3h24 x2h24 0) ∧ ((sV s_h24 b_46 0) = 1 → wj_Mo_halt_51 y Post K_24 a0 s_h24 x3h24 x2h24 1)))))
def wl_Mo_halt_24 (y : Ly) (Post : St → Int32 → Prop) (a0 : Nat) (s_h24 : St) (x2h24 : Int32) (x3h24 : Int32) : Prop := ∃ (I : St → Int32 → Int32 → Prop) (μ : St → Int32 → Int32 → Nat), I s_h24 x2h24 x3h24 ∧ ∀ (u : St) (t0 : Int32) (t1 : Int32), I u t0 t1 → wb_Mo_halt_24 y Post (fun z t0q t1q => I z t0q t1q ∧ μ z t0q t1q < μ u t0 t1) a0 u t0 t1
def wu_Mo_halt (y : Ly) (Post : St → Int32 → Prop) (σ : St) (a0 : Nat) (v1 : Int32) : Prop := wu_Mo_isWorld y (fun (s_2 : St) (r_1 : Int32) => ((¬ r_1 = 0 → xQ y a0 44 v1 (fun b_3 : Nat => xP (uO s_2 a0 45 (some b_3)) (fun s_5 : St => wl_Mo_halt_24 y Post a0 s_5 0 0))) ∧ (r_1 = 0 → Post s_2 (-1)))) σ a0 v1
set_option maxHeartbeats 4000000 in
set_option maxRecDepth 100000 in
theorem cu_Mo_halt (l : Launch) (D : va_G) (g : Nat → ClassId) (ad : Nat → Nat) (y : Ly) (Post : St → Int32 → Prop) (σ : St) (a0 : Nat) (v1 : Int32) (sz : Nat) (h_a0 : cl a0 = 14) (h : wu_Mo_halt y Post σ a0 v1) : Met l y_Mo_halt (mw y_Mo_halt b_Mo_halt 4 (some .int)) ru_Mo_halt (PC g D [] [.ref (ad a0), .int v1] sz (ws g ad y σ)) (va_Qi (fun (r : Int32) (u : St) => Post u r) (QW D (va_A (ws g ad y σ) sz) (fun u => ws g ad y u)) (va_A (ws g ad y σ) sz)) 0 0 (va_A (ws g ad y σ) sz) := by
  refine ofI (by decide +kernel) (Nat.le_of_ble_eq_true rfl) ?_
  intro p e s m args below meth c A Q ls H locs G hsz hP hD hS hl hret
  subst hsz
  have hl : lv_has ls 4 [(0, .ref (ad a0)), (1, .int v1)] := hl
  unfold wu_Mo_halt at h
  refine lv_aload_n G.1 G.2.1 d_Mo_halt_0 rfl (lv_at hl 0 rfl) ?_
  refine lv_iload_n G.1 G.2.1 d_Mo_halt_1 rfl (lv_at hl 1 rfl) ?_
  refine ucVi (As := [.int v1]) (rest := []) G hP hD hS (cu_Mo_isWorld l D g ad y _ σ a0 v1 H.size h_a0 h) w9_Mo_isWorld q3482 ⟨Nat.le_of_ble_eq_true rfl, Nat.le_of_ble_eq_true rfl⟩ rfl rfl h_a0 (q := (RMo, TMo, 131)) rfl rfl hl.1 rfl (Nat.le_of_ble_eq_true rfl) rfl ⟨Nat.le_refl _, Nat.le_refl _⟩ d_Mo_halt_2 (fun r_1 s_2 H locs h hP hD hS => ?_)
  refine lv_if_ne (tgt := 10) G.1 G.2.1 d_Mo_halt_5 (by decide) (fun c5 => ?_) (fun c5 => ?_)
  · skip
    have h := h.1 c5
    refine lv_aload_n G.1 G.2.1 d_Mo_halt_10 rfl (lv_at hl 0 rfl) ?_
    refine lv_aload_n G.1 G.2.1 d_Mo_halt_11 rfl (lv_at hl 0 rfl) ?_
    refine ugf (v := .ref (yP y a0 44)) G hP h_a0 iMo rfl 44 (by decide) rfl q3108 rfl rfl d_Mo_halt_12 ?_
    refine lv_iload_n G.1 G.2.1 d_Mo_halt_15 rfl (lv_at hl 1 rfl) ?_
    refine uqald G hP (kdp h_a0 rfl) (typ h_a0 rfl) rfl h d_Mo_halt_16 (fun b_3 n_4 h => ?_)
    refine upf G hP hD hS h 45 putO h_a0 iMo tMo tMo_ok nMo rfl (by decide) rfl q3109 rfl rfl fO rfl rfl d_Mo_halt_17 (fun s_5 H locs h hP hD hS => ?_)
    refine lv_iconst (v := 0) G.1 G.2.1 d_Mo_halt_20 (by decide) ?_
    refine W.eq (g2 := F0 m 21 ls [.int 0]) rfl ?_
    refine lv_istore_n (lv' := [(2, .int 0), (0, .ref (ad a0)), (1, .int v1)]) G.1 G.2.1 d_Mo_halt_21 rfl hl (by decide) rfl (fun ls hl => ?_)
    refine lv_iconst (v := 0) G.1 G.2.1 d_Mo_halt_22 (by decide) ?_
    refine lv_istore_n (lv' := [(3, .int 0), (2, .int 0), (0, .ref (ad a0)), (1, .int v1)]) G.1 G.2.1 d_Mo_halt_23 rfl hl (by decide) rfl (fun ls hl => ?_)
    unfold wl_Mo_halt_24 at h
    obtain ⟨I_24, μ_24, hI_24, hB_24⟩ := h
    have L_24 : ∀ (n_24 : Nat) (s_h24 : St) (x2h24 : Int32) (x3h24 : Int32), μ_24 s_h24 x2h24 x3h24 < n_24 → I_24 s_h24 x2h24 x3h24 → ∀ (H : Heap) (locs : List Loc), va_P D CL (ws g ad y s_h24) H → va_D A (ws g ad y s_h24) → va_S A s.heap H locs → ∀ ls, lv_has ls 4 [(0, .ref (ad a0)), (2, .int x2h24), (3, .int x3h24)] → W p l e ru_Mo_halt s m args below meth c H locs 0 0 Q (F0 m 24 ls []) := by
      intro n_24
      induction n_24 with
      | zero => intro s_h24 x2h24 x3h24 hμ; exact absurd hμ (Nat.not_lt_zero _)
      | succ n_24 ih_24 =>
        intro s_h24 x2h24 x3h24 hμ_24 hJ H locs hP hD hS ls hl
        obtain ⟨K_24, hK_24, h⟩ : ∃ K : St → Int32 → Int32 → Prop, (∀ z (t0 : Int32) (t1 : Int32), K z t0 t1 → I_24 z t0 t1 ∧ μ_24 z t0 t1 < μ_24 s_h24 x2h24 x3h24) ∧ wb_Mo_halt_24 y Post K a0 s_h24 x2h24 x3h24 := ⟨_, fun _ _ _ h => h, hB_24 s_h24 x2h24 x3h24 hJ⟩
        unfold wb_Mo_halt_24 at h
        refine lv_iload_n G.1 G.2.1 d_Mo_halt_24 rfl (lv_at hl 2 rfl) ?_
        refine lv_iconst (v := 3) G.1 G.2.1 d_Mo_halt_25 (by decide) ?_
        refine lv_icmp_ge (tgt := 86) G.1 G.2.1 d_Mo_halt_26 (by decide) (fun c26 => ?_) (fun c26 => ?_)
        · skip
          have h := h.1 c26
          refine lv_iconst (v := 0) G.1 G.2.1 d_Mo_halt_86 (by decide) ?_
          refine lv_istore_n (lv' := [(3, .int 0), (0, .ref (ad a0)), (2, .int x2h24)]) G.1 G.2.1 d_Mo_halt_87 rfl hl (by decide) rfl (fun ls hl => ?_)
          unfold wl_Mo_halt_88 at h
          obtain ⟨I_88, μ_88, hI_88, hB_88⟩ := h
          have L_88 : ∀ (n_88 : Nat) (s_h88 : St) (x2h88 : Int32) (x3h88 : Int32), μ_88 s_h88 x2h88 x3h88 < n_88 → I_88 s_h88 x2h88 x3h88 → ∀ (H : Heap) (locs : List Loc), va_P D CL (ws g ad y s_h88) H → va_D A (ws g ad y s_h88) → va_S A s.heap H locs → ∀ ls, lv_has ls 4 [(0, .ref (ad a0)), (2, .int x2h88), (3, .int x3h88)] → W p l e ru_Mo_halt s m args below meth c H locs 0 0 Q (F0 m 88 ls []) := by
            intro n_88
            induction n_88 with
            | zero => intro s_h88 x2h88 x3h88 hμ; exact absurd hμ (Nat.not_lt_zero _)
            | succ n_88 ih_88 =>
              intro s_h88 x2h88 x3h88 hμ_88 hJ H locs hP hD hS ls hl
              obtain ⟨K_88, hK_88, h⟩ : ∃ K : St → Int32 → Int32 → Prop, (∀ z (t0 : Int32) (t1 : Int32), K z t0 t1 → I_88 z t0 t1 ∧ μ_88 z t0 t1 < μ_88 s_h88 x2h88 x3h88) ∧ wb_Mo_halt_88 y Post K a0 s_h88 x2h88 x3h88 := ⟨_, fun _ _ _ h => h, hB_88 s_h88 x2h88 x3h88 hJ⟩
              unfold wb_Mo_halt_88 at h
              refine lv_iload_n G.1 G.2.1 d_Mo_halt_88 rfl (lv_at hl 2 rfl) ?_
              refine lv_aload_n G.1 G.2.1 d_Mo_halt_89 rfl (lv_at hl 0 rfl) ?_
              obtain ⟨b_6, e_7, c_8, h⟩ := h
              refine ugf (v := .ref (ad b_6)) G hP h_a0 iMo rfl 45 (by decide) rfl q3109 rfl (by show va_rf ((sO s_h88 a0 45).map ad) = _; rw [e_7]; rfl) d_Mo_halt_90 ?_
              refine ugfN (v := .int (sV s_h88 b_6 2)) G hP c_8 iMw rfl 2 (by decide) rfl q2708 rfl rfl d_Mo_halt_93 ?_
              refine lv_icmp_ge (tgt := 140) G.1 G.2.1 d_Mo_halt_96 (by decide) (fun c96 => ?_) (fun c96 => ?_)
              · skip
                have h := h.1 c96
                refine lv_iconst (v := 1) G.1 G.2.1 d_Mo_halt_140 (by decide) ?_
                refine lv_istore_n (lv' := [(3, .int 1), (0, .ref (ad a0)), (2, .int x2h88)]) G.1 G.2.1 d_Mo_halt_141 rfl hl (by decide) rfl (fun ls hl => ?_)
                unfold wl_Mo_halt_142 at h
                obtain ⟨I_142, μ_142, hI_142, hB_142⟩ := h
                have L_142 : ∀ (n_142 : Nat) (s_h142 : St) (x2h142 : Int32) (x3h142 : Int32), μ_142 s_h142 x2h142 x3h142 < n_142 → I_142 s_h142 x2h142 x3h142 → ∀ (H : Heap) (locs : List Loc), va_P D CL (ws g ad y s_h142) H → va_D A (ws g ad y s_h142) → va_S A s.heap H locs → ∀ ls, lv_has ls 4 [(0, .ref (ad a0)), (2, .int x2h142), (3, .int x3h142)] → W p l e ru_Mo_halt s m args below meth c H locs 0 0 Q (F0 m 142 ls []) := by
                  intro n_142
                  induction n_142 with
                  | zero => intro s_h142 x2h142 x3h142 hμ; exact absurd hμ (Nat.not_lt_zero _)
                  | succ n_142 ih_142 =>
                    intro s_h142 x2h142 x3h142 hμ_142 hJ H locs hP hD hS ls hl
                    obtain ⟨K_142, hK_142, h⟩ : ∃ K : St → Int32 → Int32 → Prop, (∀ z (t0 : Int32) (t1 : Int32), K z t0 t1 → I_142 z t0 t1 ∧ μ_142 z t0 t1 < μ_142 s_h142 x2h142 x3h142) ∧ wb_Mo_halt_142 y Post K a0 s_h142 x2h142 x3h142 := ⟨_, fun _ _ _ h => h, hB_142 s_h142 x2h142 x3h142 hJ⟩
                    unfold wb_Mo_halt_142 at h
                    refine lv_iload_n G.1 G.2.1 d_Mo_halt_142 rfl (lv_at hl 2 rfl) ?_
                    refine lv_sipush (v := 800) G.1 G.2.1 d_Mo_halt_143 (by decide) ?_
                    refine lv_icmp_gt (tgt := 165) G.1 G.2.1 d_Mo_halt_146 (by decide) (fun c146 => ?_) (fun c146 => ?_)
                    · skip
                      have h := h.1 c146
                      refine lv_iconst (v := 0) G.1 G.2.1 d_Mo_halt_165 (by decide) ?_
                      refine lv_istore_n (lv' := [(3, .int 0), (0, .ref (ad a0)), (2, .int x2h142)]) G.1 G.2.1 d_Mo_halt_166 rfl hl (by decide) rfl (fun ls hl => ?_)
                      unfold wl_Mo_halt_167 at h
                      obtain ⟨I_167, μ_167, hI_167, hB_167⟩ := h
                      have L_167 : ∀ (n_167 : Nat) (s_h167 : St) (x2h167 : Int32) (x3h167 : Int32), μ_167 s_h167 x2h167 x3h167 < n_167 → I_167 s_h167 x2h167 x3h167 → ∀ (H : Heap) (locs : List Loc), va_P D CL (ws g ad y s_h167) H → va_D A (ws g ad y s_h167) → va_S A s.heap H locs → ∀ ls, lv_has ls 4 [(0, .ref (ad a0)), (2, .int x2h167), (3, .int x3h167)] → W p l e ru_Mo_halt s m args below meth c H locs 0 0 Q (F0 m 167 ls []) := by
                        intro n_167
                        induction n_167 with
                        | zero => intro s_h167 x2h167 x3h167 hμ; exact absurd hμ (Nat.not_lt_zero _)
                        | succ n_167 ih_167 =>
                          intro s_h167 x2h167 x3h167 hμ_167 hJ H locs hP hD hS ls hl
                          obtain ⟨K_167, hK_167, h⟩ : ∃ K : St → Int32 → Int32 → Prop, (∀ z (t0 : Int32) (t1 : Int32), K z t0 t1 → I_167 z t0 t1 ∧ μ_167 z t0 t1 < μ_167 s_h167 x2h167 x3h167) ∧ wb_Mo_halt_167 y Post K a0 s_h167 x2h167 x3h167 := ⟨_, fun _ _ _ h => h, hB_167 s_h167 x2h167 x3h167 hJ⟩
                          unfold wb_Mo_halt_167 at h
                          refine lv_iload_n G.1 G.2.1 d_Mo_halt_167 rfl (lv_at hl 2 rfl) ?_
                          refine lv_aload_n G.1 G.2.1 d_Mo_halt_168 rfl (lv_at hl 0 rfl) ?_
                          obtain ⟨b_9, e_10, c_11, h⟩ := h
                          refine ugf (v := .ref (ad b_9)) G hP h_a0 iMo rfl 45 (by decide) rfl q3109 rfl (by show va_rf ((sO s_h167 a0 45).map ad) = _; rw [e_10]; rfl) d_Mo_halt_169 ?_
                          refine ugfN (v := .int (sV s_h167 b_9 56)) G hP c_11 iMw rfl 56 (by decide) rfl q2809 rfl rfl d_Mo_halt_172 ?_
                          refine lv_icmp_ge (tgt := 194) G.1 G.2.1 d_Mo_halt_175 (by decide) (fun c175 => ?_) (fun c175 => ?_)
                          · skip
                            have h := h.1 c175
                            refine lv_aload_n G.1 G.2.1 d_Mo_halt_194 rfl (lv_at hl 0 rfl) ?_
                            obtain ⟨b_12, e_13, c_14, h⟩ := h
                            refine ugf (v := .ref (ad b_12)) G hP h_a0 iMo rfl 45 (by decide) rfl q3109 rfl (by show va_rf ((sO s_h167 a0 45).map ad) = _; rw [e_13]; rfl) d_Mo_halt_195 ?_
                            refine lv_iconst (v := 0) G.1 G.2.1 d_Mo_halt_198 (by decide) ?_
                            refine upfN G hP hD hS h 63 putV c_14 iMw tMw tMw_ok nMw rfl (by decide) rfl q2821 rfl rfl fV rfl rfl d_Mo_halt_199 (fun s_15 H locs h hP hD hS => ?_)
                            refine lv_aload_n G.1 G.2.1 d_Mo_halt_202 rfl (lv_at hl 0 rfl) ?_
                            obtain ⟨b_16, e_17, c_18, h⟩ := h
                            refine ugf (v := .ref (ad b_16)) G hP h_a0 iMo rfl 45 (by decide) rfl q3109 rfl (by show va_rf ((sO s_15 a0 45).map ad) = _; rw [e_17]; rfl) d_Mo_halt_203 ?_
                            refine W.eq (g2 := F0 m 206 ls [.ref (ad b_16)]) rfl ?_
                            refine lv_aload_n G.1 G.2.1 d_Mo_halt_206 rfl (lv_at hl 0 rfl) ?_
                            obtain ⟨b_19, e_20, c_21, h⟩ := h
                            refine ugf (v := .ref (ad b_19)) G hP h_a0 iMo rfl 45 (by decide) rfl q3109 rfl (by show va_rf ((sO s_15 a0 45).map ad) = _; rw [e_20]; rfl) d_Mo_halt_207 ?_
                            refine ugfN (v := .int (sV s_15 b_19 65)) G hP c_21 iMw rfl 65 (by decide) rfl q2823 rfl rfl d_Mo_halt_210 ?_
                            refine upfN G hP hD hS h 64 putV c_18 iMw tMw tMw_ok nMw rfl (by decide) rfl q2822 rfl rfl fV rfl rfl d_Mo_halt_213 (fun s_22 H locs h hP hD hS => ?_)
                            refine lv_iload_n G.1 G.2.1 d_Mo_halt_216 rfl (lv_at hl 1 rfl) ?_
                            exact hret _ _ _ _ _ _ _ ls h hP hD hS (Nat.le_refl _) (Nat.le_refl _) d_Mo_halt_217
                          · skip
                            have h := h.2 c175
                            refine lv_aload_n G.1 G.2.1 d_Mo_halt_178 rfl (lv_at hl 0 rfl) ?_
                            obtain ⟨b_23, e_24, c_25, h⟩ := h
                            refine ugf (v := .ref (ad b_23)) G hP h_a0 iMo rfl 45 (by decide) rfl q3109 rfl (by show va_rf ((sO s_h167 a0 45).map ad) = _; rw [e_24]; rfl) d_Mo_halt_179 ?_
                            refine ugfN (v := .ref (yP y b_23 55)) G hP c_25 iMw rfl 55 (by decide) rfl q2808 rfl rfl d_Mo_halt_182 ?_
                            refine lv_iload_n G.1 G.2.1 d_Mo_halt_185 rfl (lv_at hl 2 rfl) ?_
                            refine lv_iconst (v := 0) G.1 G.2.1 d_Mo_halt_186 (by decide) ?_
                            refine uiast G hP hD hS (kdp c_25 rfl) (typ c_25 rfl) h d_Mo_halt_187 (fun s_26 H locs h hP hD hS => ?_)
                            refine W.eq (g2 := F0 m 188 ls []) rfl ?_
                            refine lv_iinc (v := x3h167 + 1) (lv' := [(3, .int (x3h167 + 1)), (0, .ref (ad a0)), (2, .int x2h167)]) G.1 G.2.1 d_Mo_halt_188 hl (k := 2) rfl rfl (by decide) rfl (fun ls hl => ?_)
                            refine lv_goto (tgt := 167) G.1 G.2.1 d_Mo_halt_191 (by decide) ?_
                            have h := hK_167 s_26 x2h167 (x3h167 + 1) h
                            exact ih_167 s_26 x2h167 (x3h167 + 1) (Nat.lt_of_lt_of_le h.2 (Nat.le_of_lt_succ hμ_167)) h.1 H locs hP hD hS ls (lv_sub hl [1, 2, 0] rfl)
                      exact L_167 _ s_h142 x2h142 0 (Nat.lt_succ_self _) hI_167 H locs hP hD hS ls (lv_sub hl [1, 2, 0] rfl)
                    · skip
                      have h := h.2 c146
                      refine lv_aload_n G.1 G.2.1 d_Mo_halt_149 rfl (lv_at hl 0 rfl) ?_
                      obtain ⟨b_27, e_28, c_29, h⟩ := h
                      refine ugf (v := .ref (ad b_27)) G hP h_a0 iMo rfl 45 (by decide) rfl q3109 rfl (by show va_rf ((sO s_h142 a0 45).map ad) = _; rw [e_28]; rfl) d_Mo_halt_150 ?_
                      refine ugfN (v := .ref (yP y b_27 48)) G hP c_29 iMw rfl 48 (by decide) rfl q2796 rfl rfl d_Mo_halt_153 ?_
                      refine lv_iload_n G.1 G.2.1 d_Mo_halt_156 rfl (lv_at hl 2 rfl) ?_
                      refine lv_iconst (v := 0) G.1 G.2.1 d_Mo_halt_157 (by decide) ?_
                      refine uiast G hP hD hS (kdp c_29 rfl) (typ c_29 rfl) h d_Mo_halt_158 (fun s_30 H locs h hP hD hS => ?_)
                      refine lv_iinc (v := x3h142 + 1) (lv' := [(3, .int (x3h142 + 1)), (0, .ref (ad a0)), (2, .int x2h142)]) G.1 G.2.1 d_Mo_halt_159 hl (k := 2) rfl rfl (by decide) rfl (fun ls hl => ?_)
                      refine lv_goto (tgt := 142) G.1 G.2.1 d_Mo_halt_162 (by decide) ?_
                      have h := hK_142 s_30 x2h142 (x3h142 + 1) h
                      exact ih_142 s_30 x2h142 (x3h142 + 1) (Nat.lt_of_lt_of_le h.2 (Nat.le_of_lt_succ hμ_142)) h.1 H locs hP hD hS ls (lv_sub hl [1, 2, 0] rfl)
                exact L_142 _ s_h88 x2h88 1 (Nat.lt_succ_self _) hI_142 H locs hP hD hS ls (lv_sub hl [1, 2, 0] rfl)
              · skip
                have h := h.2 c96
                refine lv_aload_n G.1 G.2.1 d_Mo_halt_99 rfl (lv_at hl 0 rfl) ?_
                obtain ⟨b_31, e_32, c_33, h⟩ := h
                refine ugf (v := .ref (ad b_31)) G hP h_a0 iMo rfl 45 (by decide) rfl q3109 rfl (by show va_rf ((sO s_h88 a0 45).map ad) = _; rw [e_32]; rfl) d_Mo_halt_100 ?_
                refine ugfN (v := .ref (yP y b_31 10)) G hP c_33 iMw rfl 10 (by decide) rfl q2724 rfl rfl d_Mo_halt_103 ?_
                refine lv_iload_n G.1 G.2.1 d_Mo_halt_106 rfl (lv_at hl 2 rfl) ?_
                refine lv_aload_n G.1 G.2.1 d_Mo_halt_107 rfl (lv_at hl 0 rfl) ?_
                obtain ⟨b_34, e_35, c_36, h⟩ := h
                refine ugf (v := .ref (ad b_34)) G hP h_a0 iMo rfl 45 (by decide) rfl q3109 rfl (by show va_rf ((sO s_h88 a0 45).map ad) = _; rw [e_35]; rfl) d_Mo_halt_108 ?_
                refine W.eq (g2 := F0 m 111 ls [.ref (ad b_34), .int x3h88, .ref (yP y b_31 10)]) rfl ?_
                refine ugfN (v := .ref (yP y b_34 10)) G hP c_36 iMw rfl 10 (by decide) rfl q2724 rfl rfl d_Mo_halt_111 ?_
                refine lv_iload_n G.1 G.2.1 d_Mo_halt_114 rfl (lv_at hl 2 rfl) ?_
                refine uiald G hP (kdp c_36 rfl) (typ c_36 rfl) h d_Mo_halt_115 (fun x_37 h => ?_)
                refine lv_iconst (v := 1) G.1 G.2.1 d_Mo_halt_116 (by decide) ?_
                have J_133 : ∀ (s_j133 : St) (x2j133 : Int32) (x3j133 : Int32) (z0j133 : Nat) (z0j133k : Nat) (z1j133 : Int32) (z2j133 : Int32) (H : Heap) (locs : List Loc), wj_Mo_halt_133 y Post K_88 a0 s_j133 x2j133 x3j133 z0j133 z0j133k z1j133 z2j133 → va_P D CL (ws g ad y s_j133) H → va_D A (ws g ad y s_j133) → va_S A s.heap H locs → ∀ ls, lv_has ls 4 [(0, .ref (ad a0)), (2, .int x2j133), (3, .int x3j133)] → W p l e ru_Mo_halt s m args below meth c H locs 0 0 Q (F0 m 133 ls [.int z2j133, .int z1j133, .ref (yP y z0j133 z0j133k)]) := by
                  intro s_j133 x2j133 x3j133 z0j133 z0j133k z1j133 z2j133 H locs h hP hD hS ls hl
                  unfold wj_Mo_halt_133 at h
                  obtain ⟨c_z0j133, h⟩ := h
                  refine uiast G hP hD hS c_z0j133.1 c_z0j133.2 h d_Mo_halt_133 (fun s_38 H locs h hP hD hS => ?_)
                  refine lv_iinc (v := x3j133 + 1) (lv' := [(3, .int (x3j133 + 1)), (0, .ref (ad a0)), (2, .int x2j133)]) G.1 G.2.1 d_Mo_halt_134 hl (k := 2) rfl rfl (by decide) rfl (fun ls hl => ?_)
                  refine lv_goto (tgt := 88) G.1 G.2.1 d_Mo_halt_137 (by decide) ?_
                  have h := hK_88 s_38 x2j133 (x3j133 + 1) h
                  exact ih_88 s_38 x2j133 (x3j133 + 1) (Nat.lt_of_lt_of_le h.2 (Nat.le_of_lt_succ hμ_88)) h.1 H locs hP hD hS ls (lv_sub hl [1, 2, 0] rfl)
                refine lv_icmp_ne (tgt := 124) G.1 G.2.1 d_Mo_halt_117 (by decide) (fun c117 => ?_) (fun c117 => ?_)
                · skip
                  have h := h.1 c117
                  refine lv_aload_n G.1 G.2.1 d_Mo_halt_124 rfl (lv_at hl 0 rfl) ?_
                  obtain ⟨b_39, e_40, c_41, h⟩ := h
                  refine ugf (v := .ref (ad b_39)) G hP h_a0 iMo rfl 45 (by decide) rfl q3109 rfl (by show va_rf ((sO s_h88 a0 45).map ad) = _; rw [e_40]; rfl) d_Mo_halt_125 ?_
                  refine ugfN (v := .ref (yP y b_39 10)) G hP c_41 iMw rfl 10 (by decide) rfl q2724 rfl rfl d_Mo_halt_128 ?_
                  refine lv_iload_n G.1 G.2.1 d_Mo_halt_131 rfl (lv_at hl 2 rfl) ?_
                  refine uiald G hP (kdp c_41 rfl) (typ c_41 rfl) h d_Mo_halt_132 (fun x_42 h => ?_)
                  exact J_133 s_h88 x2h88 x3h88 b_31 10 x3h88 x_42 H locs h hP hD hS ls (lv_sub hl [0, 1, 2] rfl)
                · skip
                  have h := h.2 c117
                  refine lv_iconst (v := 3) G.1 G.2.1 d_Mo_halt_120 (by decide) ?_
                  refine lv_goto (tgt := 133) G.1 G.2.1 d_Mo_halt_121 (by decide) ?_
                  exact J_133 s_h88 x2h88 x3h88 b_31 10 x3h88 3 H locs h hP hD hS ls (lv_sub hl [0, 1, 2] rfl)
          exact L_88 _ s_h24 x2h24 0 (Nat.lt_succ_self _) hI_88 H locs hP hD hS ls (lv_sub hl [1, 2, 0] rfl)
        · skip
          have h := h.2 c26
          refine lv_iload_n G.1 G.2.1 d_Mo_halt_29 rfl (lv_at hl 1 rfl) ?_
          refine lv_aload_n G.1 G.2.1 d_Mo_halt_30 rfl (lv_at hl 0 rfl) ?_
          obtain ⟨b_43, e_44, c_45, h⟩ := h
          refine ugf (v := .ref (ad b_43)) G hP h_a0 iMo rfl 45 (by decide) rfl q3109 rfl (by show va_rf ((sO s_h24 a0 45).map ad) = _; rw [e_44]; rfl) d_Mo_halt_31 ?_
          refine ugfN (v := .ref (yP y b_43 62)) G hP c_45 iMw rfl 62 (by decide) rfl q2820 rfl rfl d_Mo_halt_34 ?_
          refine lv_iload_n G.1 G.2.1 d_Mo_halt_37 rfl (lv_at hl 2 rfl) ?_
          refine uqald G hP (kdp c_45 rfl) (typ c_45 rfl) rfl h d_Mo_halt_38 (fun b_46 n_47 h => ?_)
          refine ugfN (v := .int (sV s_h24 b_46 0)) G hP (oa_13 c_45 n_47) iMr rfl 0 (by decide) rfl q2987 rfl rfl d_Mo_halt_39 ?_
          refine lv_iconst (v := 1) G.1 G.2.1 d_Mo_halt_42 (by decide) ?_
          have J_51 : ∀ (s_j51 : St) (x3j51 : Int32) (z0j51 : Int32) (z1j51 : Int32) (H : Heap) (locs : List Loc), wj_Mo_halt_51 y Post K_24 a0 s_j51 x3j51 z0j51 z1j51 → va_P D CL (ws g ad y s_j51) H → va_D A (ws g ad y s_j51) → va_S A s.heap H locs → ∀ ls, lv_has ls 4 [(0, .ref (ad a0)), (3, .int x3j51)] → W p l e ru_Mo_halt s m args below meth c H locs 0 0 Q (F0 m 51 ls [.int z1j51, .int z0j51]) := by
            intro s_j51 x3j51 z0j51 z1j51 H locs h hP hD hS ls hl
            unfold wj_Mo_halt_51 at h
            refine lv_iadd G.1 G.2.1 d_Mo_halt_51 ?_
            refine lv_istore_n (lv' := [(2, .int (z0j51 + z1j51)), (0, .ref (ad a0)), (3, .int x3j51)]) G.1 G.2.1 d_Mo_halt_52 rfl hl (by decide) rfl (fun ls hl => ?_)
            refine lv_aload_n G.1 G.2.1 d_Mo_halt_53 rfl (lv_at hl 1 rfl) ?_
            obtain ⟨b_48, e_49, c_50, h⟩ := h
            refine ugf (v := .ref (ad b_48)) G hP h_a0 iMo rfl 45 (by decide) rfl q3109 rfl (by show va_rf ((sO s_j51 a0 45).map ad) = _; rw [e_49]; rfl) d_Mo_halt_54 ?_
            refine ugfN (v := .ref (yP y b_48 62)) G hP c_50 iMw rfl 62 (by decide) rfl q2820 rfl rfl d_Mo_halt_57 ?_
            refine lv_iload_n G.1 G.2.1 d_Mo_halt_60 rfl (lv_at hl 2 rfl) ?_
            refine uqald G hP (kdp c_50 rfl) (typ c_50 rfl) rfl h d_Mo_halt_61 (fun b_51 n_52 h => ?_)
            refine lv_bipush (v := (-2)) G.1 G.2.1 d_Mo_halt_62 (by decide) ?_
            refine upfN G hP hD hS h 0 putV (oa_13 c_50 n_52) iMr tMr tMr_ok nMr rfl (by decide) rfl q2987 rfl rfl fV rfl rfl d_Mo_halt_64 (fun s_53 H locs h hP hD hS => ?_)
            refine lv_aload_n G.1 G.2.1 d_Mo_halt_67 rfl (lv_at hl 1 rfl) ?_
            obtain ⟨b_54, e_55, c_56, h⟩ := h
            refine ugf (v := .ref (ad b_54)) G hP h_a0 iMo rfl 45 (by decide) rfl q3109 rfl (by show va_rf ((sO s_53 a0 45).map ad) = _; rw [e_55]; rfl) d_Mo_halt_68 ?_
            refine W.eq (g2 := F0 m 71 ls [.ref (ad b_54)]) rfl ?_
            refine ugfN (v := .ref (yP y b_54 62)) G hP c_56 iMw rfl 62 (by decide) rfl q2820 rfl rfl d_Mo_halt_71 ?_
            refine lv_iload_n G.1 G.2.1 d_Mo_halt_74 rfl (lv_at hl 2 rfl) ?_
            refine uqald G hP (kdp c_56 rfl) (typ c_56 rfl) rfl h d_Mo_halt_75 (fun b_57 n_58 h => ?_)
            refine lv_iconst (v := 0) G.1 G.2.1 d_Mo_halt_76 (by decide) ?_
            obtain ⟨n_59, h⟩ := h
            refine upfN G hP hD hS h 1 putV (oa_13 c_56 n_58) iMr tMr tMr_ok nMr rfl (by decide) rfl q2988 rfl rfl fV (nb_n n_59) (nb_f n_59) d_Mo_halt_77 (fun s_60 H locs h hP hD hS => ?_)
            refine lv_iinc (v := x3j51 + 1) (lv' := [(3, .int (x3j51 + 1)), (2, .int (z0j51 + z1j51)), (0, .ref (ad a0))]) G.1 G.2.1 d_Mo_halt_80 hl (k := 2) rfl rfl (by decide) rfl (fun ls hl => ?_)
            refine lv_goto (tgt := 24) G.1 G.2.1 d_Mo_halt_83 (by decide) ?_
            have h := hK_24 s_60 (z0j51 + z1j51) (x3j51 + 1) h
            exact ih_24 s_60 (z0j51 + z1j51) (x3j51 + 1) (Nat.lt_of_lt_of_le h.2 (Nat.le_of_lt_succ hμ_24)) h.1 H locs hP hD hS ls (lv_sub hl [2, 1, 0] rfl)
          refine W.eq (g2 := F0 m 43 ls [.int 1, .int (sV s_h24 b_46 0), .int x2h24]) rfl ?_
          refine lv_icmp_ne (tgt := 50) G.1 G.2.1 d_Mo_halt_43 (by decide) (fun c43 => ?_) (fun c43 => ?_)
          · skip
            have h := h.1 c43
            refine lv_iconst (v := 0) G.1 G.2.1 d_Mo_halt_50 (by decide) ?_
            exact J_51 s_h24 x3h24 x2h24 0 H locs h hP hD hS ls (lv_sub hl [0, 2] rfl)
          · skip
            have h := h.2 c43
            refine lv_iconst (v := 1) G.1 G.2.1 d_Mo_halt_46 (by decide) ?_
            refine lv_goto (tgt := 51) G.1 G.2.1 d_Mo_halt_47 (by decide) ?_
            exact J_51 s_h24 x3h24 x2h24 1 H locs h hP hD hS ls (lv_sub hl [0, 2] rfl)
    exact L_24 _ s_5 0 0 (Nat.lt_succ_self _) hI_24 H locs hP hD hS ls (lv_sub hl [2, 1, 0] rfl)
  · skip
    have h := h.2 c5
    refine lv_iconst (v := (-1)) G.1 G.2.1 d_Mo_halt_8 (by decide) ?_
    exact hret _ _ _ _ _ _ _ ls h hP hD hS (Nat.le_refl _) (Nat.le_refl _) d_Mo_halt_9
def y_Mo_isAnyOn : MethodName := ⟨"ClassWorksModel", "isAnyOn", "(LClassWorksModel$World;)Z"⟩
abbrev b_Mo_isAnyOn : ByteArray := prog_14_method_122_code
theorem d_Mo_isAnyOn_0 : decode b_Mo_isAnyOn 0 = .ok (.aload_n 1, 1) := by decide +kernel
theorem d_Mo_isAnyOn_1 : decode b_Mo_isAnyOn 1 = .ok (.getfield 406, 3) := by decide +kernel
theorem d_Mo_isAnyOn_4 : decode b_Mo_isAnyOn 4 = .ok (.iconst 0, 1) := by decide +kernel
theorem d_Mo_isAnyOn_5 : decode b_Mo_isAnyOn 5 = .ok (.aaload, 1) := by decide +kernel
theorem d_Mo_isAnyOn_6 : decode b_Mo_isAnyOn 6 = .ok (.getfield 486, 3) := by decide +kernel
theorem d_Mo_isAnyOn_9 : decode b_Mo_isAnyOn 9 = .ok (.iconst 1, 1) := by decide +kernel
theorem d_Mo_isAnyOn_10 : decode b_Mo_isAnyOn 10 = .ok (.if_icmp .eq 29, 3) := by decide +kernel
theorem d_Mo_isAnyOn_13 : decode b_Mo_isAnyOn 13 = .ok (.aload_n 1, 1) := by decide +kernel
theorem d_Mo_isAnyOn_14 : decode b_Mo_isAnyOn 14 = .ok (.getfield 406, 3) := by decide +kernel
theorem d_Mo_isAnyOn_17 : decode b_Mo_isAnyOn 17 = .ok (.iconst 1, 1) := by decide +kernel
theorem d_Mo_isAnyOn_18 : decode b_Mo_isAnyOn 18 = .ok (.aaload, 1) := by decide +kernel
theorem d_Mo_isAnyOn_19 : decode b_Mo_isAnyOn 19 = .ok (.getfield 486, 3) := by decide +kernel
theorem d_Mo_isAnyOn_22 : decode b_Mo_isAnyOn 22 = .ok (.iconst 1, 1) := by decide +kernel
theorem d_Mo_isAnyOn_23 : decode b_Mo_isAnyOn 23 = .ok (.if_icmp .eq 16, 3) := by decide +kernel
theorem d_Mo_isAnyOn_26 : decode b_Mo_isAnyOn 26 = .ok (.aload_n 1, 1) := by decide +kernel
theorem d_Mo_isAnyOn_27 : decode b_Mo_isAnyOn 27 = .ok (.getfield 406, 3) := by decide +kernel
theorem d_Mo_isAnyOn_30 : decode b_Mo_isAnyOn 30 = .ok (.iconst 2, 1) := by decide +kernel
theorem d_Mo_isAnyOn_31 : decode b_Mo_isAnyOn 31 = .ok (.aaload, 1) := by decide +kernel
theorem d_Mo_isAnyOn_32 : decode b_Mo_isAnyOn 32 = .ok (.getfield 486, 3) := by decide +kernel
theorem d_Mo_isAnyOn_35 : decode b_Mo_isAnyOn 35 = .ok (.iconst 1, 1) := by decide +kernel
theorem d_Mo_isAnyOn_36 : decode b_Mo_isAnyOn 36 = .ok (.if_icmp .ne 7, 3) := by decide +kernel
theorem d_Mo_isAnyOn_39 : decode b_Mo_isAnyOn 39 = .ok (.iconst 1, 1) := by decide +kernel
theorem d_Mo_isAnyOn_40 : decode b_Mo_isAnyOn 40 = .ok (.goto 4, 3) := by decide +kernel
theorem d_Mo_isAnyOn_43 : decode b_Mo_isAnyOn 43 = .ok (.iconst 0, 1) := by decide +kernel
theorem d_Mo_isAnyOn_44 : decode b_Mo_isAnyOn 44 = .ok (.ireturn, 1) := by decide +kernel
abbrev ru_Mo_isAnyOn : Room := { frames := 0, cells := 0, slots := 0, locals := 0 }
def wj_Mo_isAnyOn_44 (y : Ly) (Post : St → Int32 → Prop) (a0 : Nat) (a1 : Nat) (s_j44 : St) (z0j44 : Int32) : Prop := (nb z0j44 ∧ Post s_j44 z0j44)
def wj_Mo_isAnyOn_39 (y : Ly) (Post : St → Int32 → Prop) (a0 : Nat) (a1 : Nat) (s_j39 : St) : Prop := wj_Mo_isAnyOn_44 y Post a0 a1 s_j39 1
def wu_Mo_isAnyOn (y : Ly) (Post : St → Int32 → Prop) (σ : St) (a0 : Nat) (a1 : Nat) : Prop := xQ y a1 62 0 (fun b_1 : Nat => (((sV σ b_1 0) = 1 → wj_Mo_isAnyOn_39 y Post a0 a1 σ) ∧ (¬ ((sV σ b_1 0) = 1) → xQ y a1 62 1 (fun b_3 : Nat => (((sV σ b_3 0) = 1 → wj_Mo_isAnyOn_39 y Post a0 a1 σ) ∧ (¬ ((sV σ b_3 0) = 1) → xQ y a1 62 2 (fun b_5 : Nat => ((¬ (sV σ b_5 0) = 1 → wj_Mo_isAnyOn_44 y Post a0 a1 σ 0) ∧ ((sV σ b_5 0) = 1 → wj_Mo_isAnyOn_39 y Post a0 a1 σ)))))))))
set_option maxHeartbeats 4000000 in
set_option maxRecDepth 100000 in
theorem cu_Mo_isAnyOn (l : Launch) (D : va_G) (g : Nat → ClassId) (ad : Nat → Nat) (y : Ly) (Post : St → Int32 → Prop) (σ : St) (a0 : Nat) (a1 : Nat) (sz : Nat) (h_a0 : cl a0 = 14) (h_a1 : cl a1 = 13) (h : wu_Mo_isAnyOn y Post σ a0 a1) : Met l y_Mo_isAnyOn (mw y_Mo_isAnyOn b_Mo_isAnyOn 2 (some (.boolean))) ru_Mo_isAnyOn (PC g D [] [.ref (ad a0), .ref (ad a1)] sz (ws g ad y σ)) (va_Qi (fun (r : Int32) (u : St) => Post u r) (QW D (va_A (ws g ad y σ) sz) (fun u => ws g ad y u)) (va_A (ws g ad y σ) sz)) 0 0 (va_A (ws g ad y σ) sz) := by
  refine ofZ (by decide +kernel) (Nat.le_of_ble_eq_true rfl) ?_
  intro p e s m args below meth c A Q ls H locs G hsz hP hD hS hl hret
  subst hsz
  have hl : lv_has ls 2 [(0, .ref (ad a0)), (1, .ref (ad a1))] := hl
  unfold wu_Mo_isAnyOn at h
  refine lv_aload_n G.1 G.2.1 d_Mo_isAnyOn_0 rfl (lv_at hl 1 rfl) ?_
  refine ugfN (v := .ref (yP y a1 62)) G hP h_a1 iMw rfl 62 (by decide) rfl q2820 rfl rfl d_Mo_isAnyOn_1 ?_
  refine lv_iconst (v := 0) G.1 G.2.1 d_Mo_isAnyOn_4 (by decide) ?_
  refine uqald G hP (kdp h_a1 rfl) (typ h_a1 rfl) rfl h d_Mo_isAnyOn_5 (fun b_1 n_2 h => ?_)
  refine ugfN (v := .int (sV σ b_1 0)) G hP (oa_13 h_a1 n_2) iMr rfl 0 (by decide) rfl q2987 rfl rfl d_Mo_isAnyOn_6 ?_
  refine lv_iconst (v := 1) G.1 G.2.1 d_Mo_isAnyOn_9 (by decide) ?_
  have J_44 : ∀ (s_j44 : St) (z0j44 : Int32) (H : Heap) (locs : List Loc), wj_Mo_isAnyOn_44 y Post a0 a1 s_j44 z0j44 → va_P D CL (ws g ad y s_j44) H → va_D A (ws g ad y s_j44) → va_S A s.heap H locs → ∀ ls, lv_has ls 2 [] → W p l e ru_Mo_isAnyOn s m args below meth c H locs 0 0 Q (F0 m 44 ls [.int z0j44]) := by
    intro s_j44 z0j44 H locs h hP hD hS ls hl
    unfold wj_Mo_isAnyOn_44 at h
    exact hret _ _ _ _ _ _ _ ls (nb_n h.1) h.2 hP hD hS (Nat.le_refl _) (Nat.le_refl _) d_Mo_isAnyOn_44
  have J_39 : ∀ (s_j39 : St) (H : Heap) (locs : List Loc), wj_Mo_isAnyOn_39 y Post a0 a1 s_j39 → va_P D CL (ws g ad y s_j39) H → va_D A (ws g ad y s_j39) → va_S A s.heap H locs → ∀ ls, lv_has ls 2 [] → W p l e ru_Mo_isAnyOn s m args below meth c H locs 0 0 Q (F0 m 39 ls []) := by
    intro s_j39 H locs h hP hD hS ls hl
    unfold wj_Mo_isAnyOn_39 at h
    refine lv_iconst (v := 1) G.1 G.2.1 d_Mo_isAnyOn_39 (by decide) ?_
    refine lv_goto (tgt := 44) G.1 G.2.1 d_Mo_isAnyOn_40 (by decide) ?_
    exact J_44 s_j39 1 H locs h hP hD hS ls (lv_sub hl [] rfl)
  refine lv_icmp_eq (tgt := 39) G.1 G.2.1 d_Mo_isAnyOn_10 (by decide) (fun c10 => ?_) (fun c10 => ?_)
  · skip
    have h := h.1 c10
    exact J_39 σ H locs h hP hD hS ls (lv_sub hl [] rfl)
  · skip
    have h := h.2 c10
    refine lv_aload_n G.1 G.2.1 d_Mo_isAnyOn_13 rfl (lv_at hl 1 rfl) ?_
    refine ugfN (v := .ref (yP y a1 62)) G hP h_a1 iMw rfl 62 (by decide) rfl q2820 rfl rfl d_Mo_isAnyOn_14 ?_
    refine lv_iconst (v := 1) G.1 G.2.1 d_Mo_isAnyOn_17 (by decide) ?_
    refine uqald G hP (kdp h_a1 rfl) (typ h_a1 rfl) rfl h d_Mo_isAnyOn_18 (fun b_3 n_4 h => ?_)
    refine W.eq (g2 := F0 m 19 ls [.ref (ad b_3)]) rfl ?_
    refine ugfN (v := .int (sV σ b_3 0)) G hP (oa_13 h_a1 n_4) iMr rfl 0 (by decide) rfl q2987 rfl rfl d_Mo_isAnyOn_19 ?_
    refine lv_iconst (v := 1) G.1 G.2.1 d_Mo_isAnyOn_22 (by decide) ?_
    refine lv_icmp_eq (tgt := 39) G.1 G.2.1 d_Mo_isAnyOn_23 (by decide) (fun c23 => ?_) (fun c23 => ?_)
    · skip
      have h := h.1 c23
      exact J_39 σ H locs h hP hD hS ls (lv_sub hl [] rfl)
    · skip
      have h := h.2 c23
      refine lv_aload_n G.1 G.2.1 d_Mo_isAnyOn_26 rfl (lv_at hl 1 rfl) ?_
      refine ugfN (v := .ref (yP y a1 62)) G hP h_a1 iMw rfl 62 (by decide) rfl q2820 rfl rfl d_Mo_isAnyOn_27 ?_
      refine lv_iconst (v := 2) G.1 G.2.1 d_Mo_isAnyOn_30 (by decide) ?_
      refine uqald G hP (kdp h_a1 rfl) (typ h_a1 rfl) rfl h d_Mo_isAnyOn_31 (fun b_5 n_6 h => ?_)
      refine ugfN (v := .int (sV σ b_5 0)) G hP (oa_13 h_a1 n_6) iMr rfl 0 (by decide) rfl q2987 rfl rfl d_Mo_isAnyOn_32 ?_
      refine lv_iconst (v := 1) G.1 G.2.1 d_Mo_isAnyOn_35 (by decide) ?_
      refine lv_icmp_ne (tgt := 43) G.1 G.2.1 d_Mo_isAnyOn_36 (by decide) (fun c36 => ?_) (fun c36 => ?_)
      · skip
        have h := h.1 c36
        refine lv_iconst (v := 0) G.1 G.2.1 d_Mo_isAnyOn_43 (by decide) ?_
        exact J_44 σ 0 H locs h hP hD hS ls (lv_sub hl [] rfl)
      · skip
        have h := h.2 c36
        exact J_39 σ H locs h hP hD hS ls (lv_sub hl [] rfl)
def y_Mo_locksOf : MethodName := ⟨"ClassWorksModel", "locksOf", "(I)I"⟩
abbrev b_Mo_locksOf : ByteArray := prog_14_method_116_code
theorem d_Mo_locksOf_0 : decode b_Mo_locksOf 0 = .ok (.iload_n 1, 1) := by decide +kernel
theorem d_Mo_locksOf_1 : decode b_Mo_locksOf 1 = .ok (.sipush 1001, 3) := by decide +kernel
theorem d_Mo_locksOf_4 : decode b_Mo_locksOf 4 = .ok (.if_icmp .lt 19, 3) := by decide +kernel
theorem d_Mo_locksOf_7 : decode b_Mo_locksOf 7 = .ok (.aload_n 0, 1) := by decide +kernel
theorem d_Mo_locksOf_8 : decode b_Mo_locksOf 8 = .ok (.getfield 522, 3) := by decide +kernel
theorem d_Mo_locksOf_11 : decode b_Mo_locksOf 11 = .ok (.getfield 878, 3) := by decide +kernel
theorem d_Mo_locksOf_14 : decode b_Mo_locksOf 14 = .ok (.iload_n 1, 1) := by decide +kernel
theorem d_Mo_locksOf_15 : decode b_Mo_locksOf 15 = .ok (.sipush 1001, 3) := by decide +kernel
theorem d_Mo_locksOf_18 : decode b_Mo_locksOf 18 = .ok (.isub, 1) := by decide +kernel
theorem d_Mo_locksOf_19 : decode b_Mo_locksOf 19 = .ok (.iaload, 1) := by decide +kernel
theorem d_Mo_locksOf_20 : decode b_Mo_locksOf 20 = .ok (.goto 12, 3) := by decide +kernel
theorem d_Mo_locksOf_23 : decode b_Mo_locksOf 23 = .ok (.aload_n 0, 1) := by decide +kernel
theorem d_Mo_locksOf_24 : decode b_Mo_locksOf 24 = .ok (.getfield 522, 3) := by decide +kernel
theorem d_Mo_locksOf_27 : decode b_Mo_locksOf 27 = .ok (.getfield 890, 3) := by decide +kernel
theorem d_Mo_locksOf_30 : decode b_Mo_locksOf 30 = .ok (.iload_n 1, 1) := by decide +kernel
theorem d_Mo_locksOf_31 : decode b_Mo_locksOf 31 = .ok (.iaload, 1) := by decide +kernel
theorem d_Mo_locksOf_32 : decode b_Mo_locksOf 32 = .ok (.ireturn, 1) := by decide +kernel
abbrev ru_Mo_locksOf : Room := { frames := 0, cells := 0, slots := 0, locals := 0 }
def wj_Mo_locksOf_32 (y : Ly) (Post : St → Int32 → Prop) (a0 : Nat) (s_j32 : St) (z0j32 : Int32) : Prop := Post s_j32 z0j32
def wu_Mo_locksOf (y : Ly) (Post : St → Int32 → Prop) (σ : St) (a0 : Nat) (v1 : Int32) : Prop := ((v1 < 1001 → ∃ b_1 : Nat, sO σ a0 45 = some b_1 ∧ cl b_1 = 13 ∧ xA y σ b_1 48 v1 (fun x_4 : Int32 => wj_Mo_locksOf_32 y Post a0 σ x_4)) ∧ (¬ (v1 < 1001) → ∃ b_5 : Nat, sO σ a0 45 = some b_5 ∧ cl b_5 = 13 ∧ xA y σ b_5 55 (v1 - 1001) (fun x_8 : Int32 => wj_Mo_locksOf_32 y Post a0 σ x_8)))
set_option maxHeartbeats 4000000 in
set_option maxRecDepth 100000 in
theorem cu_Mo_locksOf (l : Launch) (D : va_G) (g : Nat → ClassId) (ad : Nat → Nat) (y : Ly) (Post : St → Int32 → Prop) (σ : St) (a0 : Nat) (v1 : Int32) (sz : Nat) (h_a0 : cl a0 = 14) (h : wu_Mo_locksOf y Post σ a0 v1) : Met l y_Mo_locksOf (mw y_Mo_locksOf b_Mo_locksOf 2 (some .int)) ru_Mo_locksOf (PC g D [] [.ref (ad a0), .int v1] sz (ws g ad y σ)) (va_Qi (fun (r : Int32) (u : St) => Post u r) (QW D (va_A (ws g ad y σ) sz) (fun u => ws g ad y u)) (va_A (ws g ad y σ) sz)) 0 0 (va_A (ws g ad y σ) sz) := by
  refine ofI (by decide +kernel) (Nat.le_of_ble_eq_true rfl) ?_
  intro p e s m args below meth c A Q ls H locs G hsz hP hD hS hl hret
  subst hsz
  have hl : lv_has ls 2 [(0, .ref (ad a0)), (1, .int v1)] := hl
  unfold wu_Mo_locksOf at h
  refine lv_iload_n G.1 G.2.1 d_Mo_locksOf_0 rfl (lv_at hl 1 rfl) ?_
  refine lv_sipush (v := 1001) G.1 G.2.1 d_Mo_locksOf_1 (by decide) ?_
  have J_32 : ∀ (s_j32 : St) (z0j32 : Int32) (H : Heap) (locs : List Loc), wj_Mo_locksOf_32 y Post a0 s_j32 z0j32 → va_P D CL (ws g ad y s_j32) H → va_D A (ws g ad y s_j32) → va_S A s.heap H locs → ∀ ls, lv_has ls 2 [] → W p l e ru_Mo_locksOf s m args below meth c H locs 0 0 Q (F0 m 32 ls [.int z0j32]) := by
    intro s_j32 z0j32 H locs h hP hD hS ls hl
    unfold wj_Mo_locksOf_32 at h
    exact hret _ _ _ _ _ _ _ ls h hP hD hS (Nat.le_refl _) (Nat.le_refl _) d_Mo_locksOf_32
  refine lv_icmp_lt (tgt := 23) G.1 G.2.1 d_Mo_locksOf_4 (by decide) (fun c4 => ?_) (fun c4 => ?_)
  · skip
    have h := h.1 c4
    refine lv_aload_n G.1 G.2.1 d_Mo_locksOf_23 rfl (lv_at hl 0 rfl) ?_
    obtain ⟨b_1, e_2, c_3, h⟩ := h
    refine ugf (v := .ref (ad b_1)) G hP h_a0 iMo rfl 45 (by decide) rfl q3109 rfl (by show va_rf ((sO σ a0 45).map ad) = _; rw [e_2]; rfl) d_Mo_locksOf_24 ?_
    refine ugfN (v := .ref (yP y b_1 48)) G hP c_3 iMw rfl 48 (by decide) rfl q2796 rfl rfl d_Mo_locksOf_27 ?_
    refine lv_iload_n G.1 G.2.1 d_Mo_locksOf_30 rfl (lv_at hl 1 rfl) ?_
    refine uiald G hP (kdp c_3 rfl) (typ c_3 rfl) h d_Mo_locksOf_31 (fun x_4 h => ?_)
    exact J_32 σ x_4 H locs h hP hD hS ls (lv_sub hl [] rfl)
  · skip
    have h := h.2 c4
    refine lv_aload_n G.1 G.2.1 d_Mo_locksOf_7 rfl (lv_at hl 0 rfl) ?_
    obtain ⟨b_5, e_6, c_7, h⟩ := h
    refine ugf (v := .ref (ad b_5)) G hP h_a0 iMo rfl 45 (by decide) rfl q3109 rfl (by show va_rf ((sO σ a0 45).map ad) = _; rw [e_6]; rfl) d_Mo_locksOf_8 ?_
    refine ugfN (v := .ref (yP y b_5 55)) G hP c_7 iMw rfl 55 (by decide) rfl q2808 rfl rfl d_Mo_locksOf_11 ?_
    refine lv_iload_n G.1 G.2.1 d_Mo_locksOf_14 rfl (lv_at hl 1 rfl) ?_
    refine lv_sipush (v := 1001) G.1 G.2.1 d_Mo_locksOf_15 (by decide) ?_
    refine lv_isub G.1 G.2.1 d_Mo_locksOf_18 ?_
    refine uiald G hP (kdp c_7 rfl) (typ c_7 rfl) h d_Mo_locksOf_19 (fun x_8 h => ?_)
    refine lv_goto (tgt := 32) G.1 G.2.1 d_Mo_locksOf_20 (by decide) ?_
    exact J_32 σ x_8 H locs h hP hD hS ls (lv_sub hl [] rfl)
def y_Mo_ownerOf : MethodName := ⟨"ClassWorksModel", "ownerOf", "(I)I"⟩
abbrev b_Mo_ownerOf : ByteArray := prog_14_method_117_code
theorem q2811 : Cond.fieldLinkNest "ClassWorksModel" 1084 "ClassWorksModel$World" "thingOwners" "[I" "ClassWorksModel" ∈ lw_nest := lw_nestmem (List.mem_of_getElem? (i := 2811) (by decide +kernel)) rfl
theorem q2813 : Cond.fieldLinkNest "ClassWorksModel" 881 "ClassWorksModel$World" "faultOwners" "[I" "ClassWorksModel" ∈ lw_nest := lw_nestmem (List.mem_of_getElem? (i := 2813) (by decide +kernel)) rfl
theorem d_Mo_ownerOf_0 : decode b_Mo_ownerOf 0 = .ok (.iload_n 1, 1) := by decide +kernel
theorem d_Mo_ownerOf_1 : decode b_Mo_ownerOf 1 = .ok (.sipush 1001, 3) := by decide +kernel
theorem d_Mo_ownerOf_4 : decode b_Mo_ownerOf 4 = .ok (.if_icmp .lt 19, 3) := by decide +kernel
theorem d_Mo_ownerOf_7 : decode b_Mo_ownerOf 7 = .ok (.aload_n 0, 1) := by decide +kernel
theorem d_Mo_ownerOf_8 : decode b_Mo_ownerOf 8 = .ok (.getfield 522, 3) := by decide +kernel
theorem d_Mo_ownerOf_11 : decode b_Mo_ownerOf 11 = .ok (.getfield 881, 3) := by decide +kernel
theorem d_Mo_ownerOf_14 : decode b_Mo_ownerOf 14 = .ok (.iload_n 1, 1) := by decide +kernel
theorem d_Mo_ownerOf_15 : decode b_Mo_ownerOf 15 = .ok (.sipush 1001, 3) := by decide +kernel
theorem d_Mo_ownerOf_18 : decode b_Mo_ownerOf 18 = .ok (.isub, 1) := by decide +kernel
theorem d_Mo_ownerOf_19 : decode b_Mo_ownerOf 19 = .ok (.iaload, 1) := by decide +kernel
theorem d_Mo_ownerOf_20 : decode b_Mo_ownerOf 20 = .ok (.goto 12, 3) := by decide +kernel
theorem d_Mo_ownerOf_23 : decode b_Mo_ownerOf 23 = .ok (.aload_n 0, 1) := by decide +kernel
theorem d_Mo_ownerOf_24 : decode b_Mo_ownerOf 24 = .ok (.getfield 522, 3) := by decide +kernel
theorem d_Mo_ownerOf_27 : decode b_Mo_ownerOf 27 = .ok (.getfield 1084, 3) := by decide +kernel
theorem d_Mo_ownerOf_30 : decode b_Mo_ownerOf 30 = .ok (.iload_n 1, 1) := by decide +kernel
theorem d_Mo_ownerOf_31 : decode b_Mo_ownerOf 31 = .ok (.iaload, 1) := by decide +kernel
theorem d_Mo_ownerOf_32 : decode b_Mo_ownerOf 32 = .ok (.ireturn, 1) := by decide +kernel
abbrev ru_Mo_ownerOf : Room := { frames := 0, cells := 0, slots := 0, locals := 0 }
def wj_Mo_ownerOf_32 (y : Ly) (Post : St → Int32 → Prop) (a0 : Nat) (s_j32 : St) (z0j32 : Int32) : Prop := Post s_j32 z0j32
def wu_Mo_ownerOf (y : Ly) (Post : St → Int32 → Prop) (σ : St) (a0 : Nat) (v1 : Int32) : Prop := ((v1 < 1001 → ∃ b_1 : Nat, sO σ a0 45 = some b_1 ∧ cl b_1 = 13 ∧ xA y σ b_1 57 v1 (fun x_4 : Int32 => wj_Mo_ownerOf_32 y Post a0 σ x_4)) ∧ (¬ (v1 < 1001) → ∃ b_5 : Nat, sO σ a0 45 = some b_5 ∧ cl b_5 = 13 ∧ xA y σ b_5 58 (v1 - 1001) (fun x_8 : Int32 => wj_Mo_ownerOf_32 y Post a0 σ x_8)))
set_option maxHeartbeats 4000000 in
set_option maxRecDepth 100000 in
theorem cu_Mo_ownerOf (l : Launch) (D : va_G) (g : Nat → ClassId) (ad : Nat → Nat) (y : Ly) (Post : St → Int32 → Prop) (σ : St) (a0 : Nat) (v1 : Int32) (sz : Nat) (h_a0 : cl a0 = 14) (h : wu_Mo_ownerOf y Post σ a0 v1) : Met l y_Mo_ownerOf (mw y_Mo_ownerOf b_Mo_ownerOf 2 (some .int)) ru_Mo_ownerOf (PC g D [] [.ref (ad a0), .int v1] sz (ws g ad y σ)) (va_Qi (fun (r : Int32) (u : St) => Post u r) (QW D (va_A (ws g ad y σ) sz) (fun u => ws g ad y u)) (va_A (ws g ad y σ) sz)) 0 0 (va_A (ws g ad y σ) sz) := by
  refine ofI (by decide +kernel) (Nat.le_of_ble_eq_true rfl) ?_
  intro p e s m args below meth c A Q ls H locs G hsz hP hD hS hl hret
  subst hsz
  have hl : lv_has ls 2 [(0, .ref (ad a0)), (1, .int v1)] := hl
  unfold wu_Mo_ownerOf at h
  refine lv_iload_n G.1 G.2.1 d_Mo_ownerOf_0 rfl (lv_at hl 1 rfl) ?_
  refine lv_sipush (v := 1001) G.1 G.2.1 d_Mo_ownerOf_1 (by decide) ?_
  have J_32 : ∀ (s_j32 : St) (z0j32 : Int32) (H : Heap) (locs : List Loc), wj_Mo_ownerOf_32 y Post a0 s_j32 z0j32 → va_P D CL (ws g ad y s_j32) H → va_D A (ws g ad y s_j32) → va_S A s.heap H locs → ∀ ls, lv_has ls 2 [] → W p l e ru_Mo_ownerOf s m args below meth c H locs 0 0 Q (F0 m 32 ls [.int z0j32]) := by
    intro s_j32 z0j32 H locs h hP hD hS ls hl
    unfold wj_Mo_ownerOf_32 at h
    exact hret _ _ _ _ _ _ _ ls h hP hD hS (Nat.le_refl _) (Nat.le_refl _) d_Mo_ownerOf_32
  refine lv_icmp_lt (tgt := 23) G.1 G.2.1 d_Mo_ownerOf_4 (by decide) (fun c4 => ?_) (fun c4 => ?_)
  · skip
    have h := h.1 c4
    refine lv_aload_n G.1 G.2.1 d_Mo_ownerOf_23 rfl (lv_at hl 0 rfl) ?_
    obtain ⟨b_1, e_2, c_3, h⟩ := h
    refine ugf (v := .ref (ad b_1)) G hP h_a0 iMo rfl 45 (by decide) rfl q3109 rfl (by show va_rf ((sO σ a0 45).map ad) = _; rw [e_2]; rfl) d_Mo_ownerOf_24 ?_
    refine ugfN (v := .ref (yP y b_1 57)) G hP c_3 iMw rfl 57 (by decide) rfl q2811 rfl rfl d_Mo_ownerOf_27 ?_
    refine lv_iload_n G.1 G.2.1 d_Mo_ownerOf_30 rfl (lv_at hl 1 rfl) ?_
    refine uiald G hP (kdp c_3 rfl) (typ c_3 rfl) h d_Mo_ownerOf_31 (fun x_4 h => ?_)
    exact J_32 σ x_4 H locs h hP hD hS ls (lv_sub hl [] rfl)
  · skip
    have h := h.2 c4
    refine lv_aload_n G.1 G.2.1 d_Mo_ownerOf_7 rfl (lv_at hl 0 rfl) ?_
    obtain ⟨b_5, e_6, c_7, h⟩ := h
    refine ugf (v := .ref (ad b_5)) G hP h_a0 iMo rfl 45 (by decide) rfl q3109 rfl (by show va_rf ((sO σ a0 45).map ad) = _; rw [e_6]; rfl) d_Mo_ownerOf_8 ?_
    refine ugfN (v := .ref (yP y b_5 58)) G hP c_7 iMw rfl 58 (by decide) rfl q2813 rfl rfl d_Mo_ownerOf_11 ?_
    refine lv_iload_n G.1 G.2.1 d_Mo_ownerOf_14 rfl (lv_at hl 1 rfl) ?_
    refine lv_sipush (v := 1001) G.1 G.2.1 d_Mo_ownerOf_15 (by decide) ?_
    refine lv_isub G.1 G.2.1 d_Mo_ownerOf_18 ?_
    refine uiald G hP (kdp c_7 rfl) (typ c_7 rfl) h d_Mo_ownerOf_19 (fun x_8 h => ?_)
    refine lv_goto (tgt := 32) G.1 G.2.1 d_Mo_ownerOf_20 (by decide) ?_
    exact J_32 σ x_8 H locs h hP hD hS ls (lv_sub hl [] rfl)
theorem q2989 : Cond.fieldLinkNest "ClassWorksModel" 992 "ClassWorksModel$Run" "waitsFor" "I" "ClassWorksModel" ∈ lw_nest := lw_nestmem (List.mem_of_getElem? (i := 2989) (by decide +kernel)) rfl
theorem q2818 : Cond.fieldLinkNest "ClassWorksModel" 989 "ClassWorksModel$World" "starters" "[I" "ClassWorksModel" ∈ lw_nest := lw_nestmem (List.mem_of_getElem? (i := 2818) (by decide +kernel)) rfl
theorem q3839 : Cond.methodLink "ClassWorksModel" 1087 y_Mo_locksOf ∈ lw_ok := lw_okmem (List.mem_of_getElem? (i := 3839) (by decide +kernel)) rfl
theorem q3842 : Cond.code y_Mo_locksOf b_Mo_locksOf 2 (some .int) ∈ lw_ok := lw_okmem (List.mem_of_getElem? (i := 3842) (by decide +kernel)) rfl
theorem q3841 : Cond.instanceMethod y_Mo_locksOf ∈ lw_ok := lw_okmem (List.mem_of_getElem? (i := 3841) (by decide +kernel)) rfl
theorem q249 : Cond.selects y_Mo_locksOf.cls y_Mo_locksOf y_Mo_locksOf ∈ lw_ok := lw_okmem (List.mem_of_getElem? (i := 249) (by decide +kernel)) rfl
theorem w9_Mo_locksOf : CWv y_Mo_locksOf b_Mo_locksOf 2 (some .int) 1 ∧ Cond.instanceMethod y_Mo_locksOf ∈ lw_ok ∧ Cond.selects y_Mo_locksOf.cls y_Mo_locksOf y_Mo_locksOf ∈ lw_ok := ⟨⟨q3842, q348, by decide +kernel, by decide +kernel, by decide +kernel⟩, q3841, q249⟩
theorem q3843 : Cond.methodLink "ClassWorksModel" 1090 y_Mo_ownerOf ∈ lw_ok := lw_okmem (List.mem_of_getElem? (i := 3843) (by decide +kernel)) rfl
theorem q3846 : Cond.code y_Mo_ownerOf b_Mo_ownerOf 2 (some .int) ∈ lw_ok := lw_okmem (List.mem_of_getElem? (i := 3846) (by decide +kernel)) rfl
theorem q3845 : Cond.instanceMethod y_Mo_ownerOf ∈ lw_ok := lw_okmem (List.mem_of_getElem? (i := 3845) (by decide +kernel)) rfl
theorem q250 : Cond.selects y_Mo_ownerOf.cls y_Mo_ownerOf y_Mo_ownerOf ∈ lw_ok := lw_okmem (List.mem_of_getElem? (i := 250) (by decide +kernel)) rfl
theorem w9_Mo_ownerOf : CWv y_Mo_ownerOf b_Mo_ownerOf 2 (some .int) 1 ∧ Cond.instanceMethod y_Mo_ownerOf ∈ lw_ok ∧ Cond.selects y_Mo_ownerOf.cls y_Mo_ownerOf y_Mo_ownerOf ∈ lw_ok := ⟨⟨q3846, q348, by decide +kernel, by decide +kernel, by decide +kernel⟩, q3845, q250⟩
def y_Mo_canGo : MethodName := ⟨"ClassWorksModel", "canGo", "(I)Z"⟩
abbrev b_Mo_canGo : ByteArray := prog_14_method_121_code
theorem d_Mo_canGo_0 : decode b_Mo_canGo 0 = .ok (.aload_n 0, 1) := by decide +kernel
theorem d_Mo_canGo_1 : decode b_Mo_canGo 1 = .ok (.getfield 522, 3) := by decide +kernel
theorem d_Mo_canGo_4 : decode b_Mo_canGo 4 = .ok (.getfield 406, 3) := by decide +kernel
theorem d_Mo_canGo_7 : decode b_Mo_canGo 7 = .ok (.iload_n 1, 1) := by decide +kernel
theorem d_Mo_canGo_8 : decode b_Mo_canGo 8 = .ok (.aaload, 1) := by decide +kernel
theorem d_Mo_canGo_9 : decode b_Mo_canGo 9 = .ok (.astore_n 2, 1) := by decide +kernel
theorem d_Mo_canGo_10 : decode b_Mo_canGo 10 = .ok (.aload_n 2, 1) := by decide +kernel
theorem d_Mo_canGo_11 : decode b_Mo_canGo 11 = .ok (.getfield 486, 3) := by decide +kernel
theorem d_Mo_canGo_14 : decode b_Mo_canGo 14 = .ok (.iconst 1, 1) := by decide +kernel
theorem d_Mo_canGo_15 : decode b_Mo_canGo 15 = .ok (.if_icmp .ne 10, 3) := by decide +kernel
theorem d_Mo_canGo_18 : decode b_Mo_canGo 18 = .ok (.aload_n 2, 1) := by decide +kernel
theorem d_Mo_canGo_19 : decode b_Mo_canGo 19 = .ok (.getfield 489, 3) := by decide +kernel
theorem d_Mo_canGo_22 : decode b_Mo_canGo 22 = .ok (.ifCond .ne 17, 3) := by decide +kernel
theorem d_Mo_canGo_25 : decode b_Mo_canGo 25 = .ok (.aload_n 2, 1) := by decide +kernel
theorem d_Mo_canGo_26 : decode b_Mo_canGo 26 = .ok (.getfield 486, 3) := by decide +kernel
theorem d_Mo_canGo_29 : decode b_Mo_canGo 29 = .ok (.iconst 1, 1) := by decide +kernel
theorem d_Mo_canGo_30 : decode b_Mo_canGo 30 = .ok (.if_icmp .ne 7, 3) := by decide +kernel
theorem d_Mo_canGo_33 : decode b_Mo_canGo 33 = .ok (.iconst 1, 1) := by decide +kernel
theorem d_Mo_canGo_34 : decode b_Mo_canGo 34 = .ok (.goto 4, 3) := by decide +kernel
theorem d_Mo_canGo_37 : decode b_Mo_canGo 37 = .ok (.iconst 0, 1) := by decide +kernel
theorem d_Mo_canGo_38 : decode b_Mo_canGo 38 = .ok (.ireturn, 1) := by decide +kernel
theorem d_Mo_canGo_39 : decode b_Mo_canGo 39 = .ok (.aload_n 2, 1) := by decide +kernel
theorem d_Mo_canGo_40 : decode b_Mo_canGo 40 = .ok (.getfield 992, 3) := by decide +kernel
theorem d_Mo_canGo_43 : decode b_Mo_canGo 43 = .ok (.istore_n 3, 1) := by decide +kernel
theorem d_Mo_canGo_44 : decode b_Mo_canGo 44 = .ok (.iload_n 3, 1) := by decide +kernel
theorem d_Mo_canGo_45 : decode b_Mo_canGo 45 = .ok (.ifCond .le 28, 3) := by decide +kernel
theorem d_Mo_canGo_48 : decode b_Mo_canGo 48 = .ok (.aload_n 0, 1) := by decide +kernel
theorem d_Mo_canGo_49 : decode b_Mo_canGo 49 = .ok (.iload_n 3, 1) := by decide +kernel
theorem d_Mo_canGo_50 : decode b_Mo_canGo 50 = .ok (.invokevirtual 1087, 3) := by decide +kernel
theorem d_Mo_canGo_53 : decode b_Mo_canGo 53 = .ok (.ifCond .eq 12, 3) := by decide +kernel
theorem d_Mo_canGo_56 : decode b_Mo_canGo 56 = .ok (.aload_n 0, 1) := by decide +kernel
theorem d_Mo_canGo_57 : decode b_Mo_canGo 57 = .ok (.iload_n 3, 1) := by decide +kernel
theorem d_Mo_canGo_58 : decode b_Mo_canGo 58 = .ok (.invokevirtual 1090, 3) := by decide +kernel
theorem d_Mo_canGo_61 : decode b_Mo_canGo 61 = .ok (.iload_n 1, 1) := by decide +kernel
theorem d_Mo_canGo_62 : decode b_Mo_canGo 62 = .ok (.if_icmp .ne 7, 3) := by decide +kernel
theorem d_Mo_canGo_65 : decode b_Mo_canGo 65 = .ok (.iconst 1, 1) := by decide +kernel
theorem d_Mo_canGo_66 : decode b_Mo_canGo 66 = .ok (.goto 42, 3) := by decide +kernel
theorem d_Mo_canGo_69 : decode b_Mo_canGo 69 = .ok (.iconst 0, 1) := by decide +kernel
theorem d_Mo_canGo_70 : decode b_Mo_canGo 70 = .ok (.goto 38, 3) := by decide +kernel
theorem d_Mo_canGo_73 : decode b_Mo_canGo 73 = .ok (.aload_n 0, 1) := by decide +kernel
theorem d_Mo_canGo_74 : decode b_Mo_canGo 74 = .ok (.getfield 522, 3) := by decide +kernel
theorem d_Mo_canGo_77 : decode b_Mo_canGo 77 = .ok (.getfield 441, 3) := by decide +kernel
theorem d_Mo_canGo_80 : decode b_Mo_canGo 80 = .ok (.iconst (-1), 1) := by decide +kernel
theorem d_Mo_canGo_81 : decode b_Mo_canGo 81 = .ok (.iload_n 3, 1) := by decide +kernel
theorem d_Mo_canGo_82 : decode b_Mo_canGo 82 = .ok (.isub, 1) := by decide +kernel
theorem d_Mo_canGo_83 : decode b_Mo_canGo 83 = .ok (.iaload, 1) := by decide +kernel
theorem d_Mo_canGo_84 : decode b_Mo_canGo 84 = .ok (.iconst 1, 1) := by decide +kernel
theorem d_Mo_canGo_85 : decode b_Mo_canGo 85 = .ok (.if_icmp .ne 18, 3) := by decide +kernel
theorem d_Mo_canGo_88 : decode b_Mo_canGo 88 = .ok (.aload_n 0, 1) := by decide +kernel
theorem d_Mo_canGo_89 : decode b_Mo_canGo 89 = .ok (.getfield 522, 3) := by decide +kernel
theorem d_Mo_canGo_92 : decode b_Mo_canGo 92 = .ok (.getfield 989, 3) := by decide +kernel
theorem d_Mo_canGo_95 : decode b_Mo_canGo 95 = .ok (.iconst (-1), 1) := by decide +kernel
theorem d_Mo_canGo_96 : decode b_Mo_canGo 96 = .ok (.iload_n 3, 1) := by decide +kernel
theorem d_Mo_canGo_97 : decode b_Mo_canGo 97 = .ok (.isub, 1) := by decide +kernel
theorem d_Mo_canGo_98 : decode b_Mo_canGo 98 = .ok (.iaload, 1) := by decide +kernel
theorem d_Mo_canGo_99 : decode b_Mo_canGo 99 = .ok (.iload_n 1, 1) := by decide +kernel
theorem d_Mo_canGo_100 : decode b_Mo_canGo 100 = .ok (.if_icmp .ne 7, 3) := by decide +kernel
theorem d_Mo_canGo_103 : decode b_Mo_canGo 103 = .ok (.iconst 1, 1) := by decide +kernel
theorem d_Mo_canGo_104 : decode b_Mo_canGo 104 = .ok (.goto 4, 3) := by decide +kernel
theorem d_Mo_canGo_107 : decode b_Mo_canGo 107 = .ok (.iconst 0, 1) := by decide +kernel
theorem d_Mo_canGo_108 : decode b_Mo_canGo 108 = .ok (.ireturn, 1) := by decide +kernel
abbrev ru_Mo_canGo : Room := { frames := 1, cells := 0, slots := 0, locals := 21 }
def wj_Mo_canGo_38 (y : Ly) (Post : St → Int32 → Prop) (a0 : Nat) (s_j38 : St) (z0j38 : Int32) : Prop := (nb z0j38 ∧ Post s_j38 z0j38)
def wj_Mo_canGo_25 (y : Ly) (Post : St → Int32 → Prop) (a0 : Nat) (s_j25 : St) (x2j25 : Nat) : Prop := cl x2j25 = 12 ∧ ((¬ (sV s_j25 x2j25 0) = 1 → wj_Mo_canGo_38 y Post a0 s_j25 0) ∧ ((sV s_j25 x2j25 0) = 1 → wj_Mo_canGo_38 y Post a0 s_j25 1))
def wj_Mo_canGo_108 (y : Ly) (Post : St → Int32 → Prop) (a0 : Nat) (s_j108 : St) (z0j108 : Int32) : Prop := (nb z0j108 ∧ Post s_j108 z0j108)
def wj_Mo_canGo_103 (y : Ly) (Post : St → Int32 → Prop) (a0 : Nat) (s_j103 : St) : Prop := wj_Mo_canGo_108 y Post a0 s_j103 1
def wj_Mo_canGo_65 (y : Ly) (Post : St → Int32 → Prop) (a0 : Nat) (s_j65 : St) : Prop := wj_Mo_canGo_108 y Post a0 s_j65 1
def wu_Mo_canGo (y : Ly) (Post : St → Int32 → Prop) (σ : St) (a0 : Nat) (v1 : Int32) : Prop := ∃ b_1 : Nat, sO σ a0 45 = some b_1 ∧ cl b_1 = 13 ∧ xQ y b_1 62 v1 (fun b_4 : Nat => ((¬ (sV σ b_4 0) = 1 → wj_Mo_canGo_25 y Post a0 σ b_4) ∧ ((sV σ b_4 0) = 1 → ((¬ (sV σ b_4 1) = 0 → (((sV σ b_4 2) ≤ 0 → ∃ b_6 : Nat, sO σ a0 45 = some b_6 ∧ cl b_6 = 13 ∧ xA y σ b_6 10 ((-1) - (sV σ b_4 2)) (fun x_9 : Int32 => ((¬ x_9 = 1 → wj_Mo_canGo_103 y Post a0 σ) ∧ (x_9 = 1 → ∃ b_10 : Nat, sO σ a0 45 = some b_10 ∧ cl b_10 = 13 ∧ xA y σ b_10 61 ((-1) - (sV σ b_4 2)) (fun x_13 : Int32 => ((¬ x_13 = v1 → wj_Mo_canGo_108 y Post a0 σ 0) ∧ (x_13 = v1 → wj_Mo_canGo_103 y Post a0 σ))))))) ∧ (¬ ((sV σ b_4 2) ≤ 0) → wu_Mo_locksOf y (fun (s_15 : St) (r_14 : Int32) => ((r_14 = 0 → wj_Mo_canGo_65 y Post a0 s_15) ∧ (¬ (r_14 = 0) → wu_Mo_ownerOf y (fun (s_17 : St) (r_16 : Int32) => ((¬ r_16 = v1 → wj_Mo_canGo_108 y Post a0 s_17 0) ∧ (r_16 = v1 → wj_Mo_canGo_65 y Post a0 s_17))) s_15 a0 (sV σ b_4 2)))) σ a0 (sV σ b_4 2)))) ∧ ((sV σ b_4 1) = 0 → wj_Mo_canGo_25 y Post a0 σ b_4)))))
set_option maxHeartbeats 4000000 in
set_option maxRecDepth 100000 in
theorem cu_Mo_canGo (l : Launch) (D : va_G) (g : Nat → ClassId) (ad : Nat → Nat) (y : Ly) (Post : St → Int32 → Prop) (σ : St) (a0 : Nat) (v1 : Int32) (sz : Nat) (h_a0 : cl a0 = 14) (h : wu_Mo_canGo y Post σ a0 v1) : Met l y_Mo_canGo (mw y_Mo_canGo b_Mo_canGo 4 (some (.boolean))) ru_Mo_canGo (PC g D [] [.ref (ad a0), .int v1] sz (ws g ad y σ)) (va_Qi (fun (r : Int32) (u : St) => Post u r) (QW D (va_A (ws g ad y σ) sz) (fun u => ws g ad y u)) (va_A (ws g ad y σ) sz)) 0 0 (va_A (ws g ad y σ) sz) := by
  refine ofZ (by decide +kernel) (Nat.le_of_ble_eq_true rfl) ?_
  intro p e s m args below meth c A Q ls H locs G hsz hP hD hS hl hret
  subst hsz
  have hl : lv_has ls 4 [(0, .ref (ad a0)), (1, .int v1)] := hl
  unfold wu_Mo_canGo at h
  refine lv_aload_n G.1 G.2.1 d_Mo_canGo_0 rfl (lv_at hl 0 rfl) ?_
  obtain ⟨b_1, e_2, c_3, h⟩ := h
  refine ugf (v := .ref (ad b_1)) G hP h_a0 iMo rfl 45 (by decide) rfl q3109 rfl (by show va_rf ((sO σ a0 45).map ad) = _; rw [e_2]; rfl) d_Mo_canGo_1 ?_
  refine ugfN (v := .ref (yP y b_1 62)) G hP c_3 iMw rfl 62 (by decide) rfl q2820 rfl rfl d_Mo_canGo_4 ?_
  refine lv_iload_n G.1 G.2.1 d_Mo_canGo_7 rfl (lv_at hl 1 rfl) ?_
  refine uqald G hP (kdp c_3 rfl) (typ c_3 rfl) rfl h d_Mo_canGo_8 (fun b_4 n_5 h => ?_)
  refine lv_astore_n (lv' := [(2, .ref (ad b_4)), (0, .ref (ad a0)), (1, .int v1)]) G.1 G.2.1 d_Mo_canGo_9 rfl hl (by decide) rfl (fun ls hl => ?_)
  refine lv_aload_n G.1 G.2.1 d_Mo_canGo_10 rfl (lv_at hl 0 rfl) ?_
  refine ugfN (v := .int (sV σ b_4 0)) G hP (oa_13 c_3 n_5) iMr rfl 0 (by decide) rfl q2987 rfl rfl d_Mo_canGo_11 ?_
  refine lv_iconst (v := 1) G.1 G.2.1 d_Mo_canGo_14 (by decide) ?_
  have J_25 : ∀ (s_j25 : St) (x2j25 : Nat) (H : Heap) (locs : List Loc), wj_Mo_canGo_25 y Post a0 s_j25 x2j25 → va_P D CL (ws g ad y s_j25) H → va_D A (ws g ad y s_j25) → va_S A s.heap H locs → ∀ ls, lv_has ls 4 [(2, .ref (ad x2j25))] → W p l e ru_Mo_canGo s m args below meth c H locs 0 0 Q (F0 m 25 ls []) := by
    intro s_j25 x2j25 H locs h hP hD hS ls hl
    unfold wj_Mo_canGo_25 at h
    obtain ⟨c_x2j25, h⟩ := h
    refine lv_aload_n G.1 G.2.1 d_Mo_canGo_25 rfl (lv_at hl 0 rfl) ?_
    refine ugfN (v := .int (sV s_j25 x2j25 0)) G hP c_x2j25 iMr rfl 0 (by decide) rfl q2987 rfl rfl d_Mo_canGo_26 ?_
    refine lv_iconst (v := 1) G.1 G.2.1 d_Mo_canGo_29 (by decide) ?_
    have J_38 : ∀ (s_j38 : St) (z0j38 : Int32) (H : Heap) (locs : List Loc), wj_Mo_canGo_38 y Post a0 s_j38 z0j38 → va_P D CL (ws g ad y s_j38) H → va_D A (ws g ad y s_j38) → va_S A s.heap H locs → ∀ ls, lv_has ls 4 [] → W p l e ru_Mo_canGo s m args below meth c H locs 0 0 Q (F0 m 38 ls [.int z0j38]) := by
      intro s_j38 z0j38 H locs h hP hD hS ls hl
      unfold wj_Mo_canGo_38 at h
      exact hret _ _ _ _ _ _ _ ls (nb_n h.1) h.2 hP hD hS (Nat.le_refl _) (Nat.le_refl _) d_Mo_canGo_38
    refine lv_icmp_ne (tgt := 37) G.1 G.2.1 d_Mo_canGo_30 (by decide) (fun c30 => ?_) (fun c30 => ?_)
    · skip
      have h := h.1 c30
      refine lv_iconst (v := 0) G.1 G.2.1 d_Mo_canGo_37 (by decide) ?_
      exact J_38 s_j25 0 H locs h hP hD hS ls (lv_sub hl [] rfl)
    · skip
      have h := h.2 c30
      refine lv_iconst (v := 1) G.1 G.2.1 d_Mo_canGo_33 (by decide) ?_
      refine lv_goto (tgt := 38) G.1 G.2.1 d_Mo_canGo_34 (by decide) ?_
      exact J_38 s_j25 1 H locs h hP hD hS ls (lv_sub hl [] rfl)
  refine lv_icmp_ne (tgt := 25) G.1 G.2.1 d_Mo_canGo_15 (by decide) (fun c15 => ?_) (fun c15 => ?_)
  · skip
    have h := h.1 c15
    exact J_25 σ b_4 H locs h hP hD hS ls (lv_sub hl [0] rfl)
  · skip
    have h := h.2 c15
    refine lv_aload_n G.1 G.2.1 d_Mo_canGo_18 rfl (lv_at hl 0 rfl) ?_
    refine W.eq (g2 := F0 m 19 ls [.ref (ad b_4)]) rfl ?_
    refine ugfN (v := .int (sV σ b_4 1)) G hP (oa_13 c_3 n_5) iMr rfl 1 (by decide) rfl q2988 rfl rfl d_Mo_canGo_19 ?_
    refine lv_if_ne (tgt := 39) G.1 G.2.1 d_Mo_canGo_22 (by decide) (fun c22 => ?_) (fun c22 => ?_)
    · skip
      have h := h.1 c22
      refine lv_aload_n G.1 G.2.1 d_Mo_canGo_39 rfl (lv_at hl 0 rfl) ?_
      refine ugfN (v := .int (sV σ b_4 2)) G hP (oa_13 c_3 n_5) iMr rfl 2 (by decide) rfl q2989 rfl rfl d_Mo_canGo_40 ?_
      refine lv_istore_n (lv' := [(3, .int (sV σ b_4 2)), (2, .ref (ad b_4)), (0, .ref (ad a0)), (1, .int v1)]) G.1 G.2.1 d_Mo_canGo_43 rfl hl (by decide) rfl (fun ls hl => ?_)
      refine lv_iload_n G.1 G.2.1 d_Mo_canGo_44 rfl (lv_at hl 0 rfl) ?_
      have J_108 : ∀ (s_j108 : St) (z0j108 : Int32) (H : Heap) (locs : List Loc), wj_Mo_canGo_108 y Post a0 s_j108 z0j108 → va_P D CL (ws g ad y s_j108) H → va_D A (ws g ad y s_j108) → va_S A s.heap H locs → ∀ ls, lv_has ls 4 [] → W p l e ru_Mo_canGo s m args below meth c H locs 0 0 Q (F0 m 108 ls [.int z0j108]) := by
        intro s_j108 z0j108 H locs h hP hD hS ls hl
        unfold wj_Mo_canGo_108 at h
        exact hret _ _ _ _ _ _ _ ls (nb_n h.1) h.2 hP hD hS (Nat.le_refl _) (Nat.le_refl _) d_Mo_canGo_108
      refine lv_if_le (tgt := 73) G.1 G.2.1 d_Mo_canGo_45 (by decide) (fun c45 => ?_) (fun c45 => ?_)
      · skip
        have h := h.1 c45
        refine lv_aload_n G.1 G.2.1 d_Mo_canGo_73 rfl (lv_at hl 2 rfl) ?_
        obtain ⟨b_6, e_7, c_8, h⟩ := h
        refine ugf (v := .ref (ad b_6)) G hP h_a0 iMo rfl 45 (by decide) rfl q3109 rfl (by show va_rf ((sO σ a0 45).map ad) = _; rw [e_7]; rfl) d_Mo_canGo_74 ?_
        refine ugfN (v := .ref (yP y b_6 10)) G hP c_8 iMw rfl 10 (by decide) rfl q2724 rfl rfl d_Mo_canGo_77 ?_
        refine lv_iconst (v := (-1)) G.1 G.2.1 d_Mo_canGo_80 (by decide) ?_
        refine lv_iload_n G.1 G.2.1 d_Mo_canGo_81 rfl (lv_at hl 0 rfl) ?_
        refine W.eq (g2 := F0 m 82 ls [.int (sV σ b_4 2), .int (-1), .ref (yP y b_6 10)]) rfl ?_
        refine lv_isub G.1 G.2.1 d_Mo_canGo_82 ?_
        refine uiald G hP (kdp c_8 rfl) (typ c_8 rfl) h d_Mo_canGo_83 (fun x_9 h => ?_)
        refine lv_iconst (v := 1) G.1 G.2.1 d_Mo_canGo_84 (by decide) ?_
        have J_103 : ∀ (s_j103 : St) (H : Heap) (locs : List Loc), wj_Mo_canGo_103 y Post a0 s_j103 → va_P D CL (ws g ad y s_j103) H → va_D A (ws g ad y s_j103) → va_S A s.heap H locs → ∀ ls, lv_has ls 4 [] → W p l e ru_Mo_canGo s m args below meth c H locs 0 0 Q (F0 m 103 ls []) := by
          intro s_j103 H locs h hP hD hS ls hl
          unfold wj_Mo_canGo_103 at h
          refine lv_iconst (v := 1) G.1 G.2.1 d_Mo_canGo_103 (by decide) ?_
          refine lv_goto (tgt := 108) G.1 G.2.1 d_Mo_canGo_104 (by decide) ?_
          exact J_108 s_j103 1 H locs h hP hD hS ls (lv_sub hl [] rfl)
        refine lv_icmp_ne (tgt := 103) G.1 G.2.1 d_Mo_canGo_85 (by decide) (fun c85 => ?_) (fun c85 => ?_)
        · skip
          have h := h.1 c85
          exact J_103 σ H locs h hP hD hS ls (lv_sub hl [] rfl)
        · skip
          have h := h.2 c85
          refine lv_aload_n G.1 G.2.1 d_Mo_canGo_88 rfl (lv_at hl 2 rfl) ?_
          obtain ⟨b_10, e_11, c_12, h⟩ := h
          refine ugf (v := .ref (ad b_10)) G hP h_a0 iMo rfl 45 (by decide) rfl q3109 rfl (by show va_rf ((sO σ a0 45).map ad) = _; rw [e_11]; rfl) d_Mo_canGo_89 ?_
          refine ugfN (v := .ref (yP y b_10 61)) G hP c_12 iMw rfl 61 (by decide) rfl q2818 rfl rfl d_Mo_canGo_92 ?_
          refine lv_iconst (v := (-1)) G.1 G.2.1 d_Mo_canGo_95 (by decide) ?_
          refine lv_iload_n G.1 G.2.1 d_Mo_canGo_96 rfl (lv_at hl 0 rfl) ?_
          refine lv_isub G.1 G.2.1 d_Mo_canGo_97 ?_
          refine uiald G hP (kdp c_12 rfl) (typ c_12 rfl) h d_Mo_canGo_98 (fun x_13 h => ?_)
          refine lv_iload_n G.1 G.2.1 d_Mo_canGo_99 rfl (lv_at hl 3 rfl) ?_
          refine W.eq (g2 := F0 m 100 ls [.int v1, .int x_13]) rfl ?_
          refine lv_icmp_ne (tgt := 107) G.1 G.2.1 d_Mo_canGo_100 (by decide) (fun c100 => ?_) (fun c100 => ?_)
          · skip
            have h := h.1 c100
            refine lv_iconst (v := 0) G.1 G.2.1 d_Mo_canGo_107 (by decide) ?_
            exact J_108 σ 0 H locs h hP hD hS ls (lv_sub hl [] rfl)
          · skip
            have h := h.2 c100
            exact J_103 σ H locs h hP hD hS ls (lv_sub hl [] rfl)
      · skip
        have h := h.2 c45
        refine lv_aload_n G.1 G.2.1 d_Mo_canGo_48 rfl (lv_at hl 2 rfl) ?_
        refine lv_iload_n G.1 G.2.1 d_Mo_canGo_49 rfl (lv_at hl 0 rfl) ?_
        refine ucVi (As := [.int (sV σ b_4 2)]) (rest := []) G hP hD hS (cu_Mo_locksOf l D g ad y _ σ a0 (sV σ b_4 2) H.size h_a0 h) w9_Mo_locksOf q3839 ⟨Nat.le_of_ble_eq_true rfl, Nat.le_of_ble_eq_true rfl⟩ rfl rfl h_a0 (q := (RMo, TMo, 131)) rfl rfl hl.1 rfl (Nat.le_of_ble_eq_true rfl) rfl ⟨Nat.le_refl _, Nat.le_refl _⟩ d_Mo_canGo_50 (fun r_14 s_15 H locs h hP hD hS => ?_)
        have J_65 : ∀ (s_j65 : St) (H : Heap) (locs : List Loc), wj_Mo_canGo_65 y Post a0 s_j65 → va_P D CL (ws g ad y s_j65) H → va_D A (ws g ad y s_j65) → va_S A s.heap H locs → ∀ ls, lv_has ls 4 [] → W p l e ru_Mo_canGo s m args below meth c H locs 0 0 Q (F0 m 65 ls []) := by
          intro s_j65 H locs h hP hD hS ls hl
          unfold wj_Mo_canGo_65 at h
          refine lv_iconst (v := 1) G.1 G.2.1 d_Mo_canGo_65 (by decide) ?_
          refine lv_goto (tgt := 108) G.1 G.2.1 d_Mo_canGo_66 (by decide) ?_
          exact J_108 s_j65 1 H locs h hP hD hS ls (lv_sub hl [] rfl)
        refine lv_if_eq (tgt := 65) G.1 G.2.1 d_Mo_canGo_53 (by decide) (fun c53 => ?_) (fun c53 => ?_)
        · skip
          have h := h.1 c53
          exact J_65 s_15 H locs h hP hD hS ls (lv_sub hl [] rfl)
        · skip
          have h := h.2 c53
          refine lv_aload_n G.1 G.2.1 d_Mo_canGo_56 rfl (lv_at hl 2 rfl) ?_
          refine W.eq (g2 := F0 m 57 ls [.ref (ad a0)]) rfl ?_
          refine lv_iload_n G.1 G.2.1 d_Mo_canGo_57 rfl (lv_at hl 0 rfl) ?_
          refine ucVi (As := [.int (sV σ b_4 2)]) (rest := []) G hP hD hS (cu_Mo_ownerOf l D g ad y _ s_15 a0 (sV σ b_4 2) H.size h_a0 h) w9_Mo_ownerOf q3843 ⟨Nat.le_of_ble_eq_true rfl, Nat.le_of_ble_eq_true rfl⟩ rfl rfl h_a0 (q := (RMo, TMo, 131)) rfl rfl hl.1 rfl (Nat.le_of_ble_eq_true rfl) rfl ⟨Nat.le_refl _, Nat.le_refl _⟩ d_Mo_canGo_58 (fun r_16 s_17 H locs h hP hD hS => ?_)
          refine lv_iload_n G.1 G.2.1 d_Mo_canGo_61 rfl (lv_at hl 3 rfl) ?_
          refine lv_icmp_ne (tgt := 69) G.1 G.2.1 d_Mo_canGo_62 (by decide) (fun c62 => ?_) (fun c62 => ?_)
          · skip
            have h := h.1 c62
            refine lv_iconst (v := 0) G.1 G.2.1 d_Mo_canGo_69 (by decide) ?_
            refine lv_goto (tgt := 108) G.1 G.2.1 d_Mo_canGo_70 (by decide) ?_
            exact J_108 s_17 0 H locs h hP hD hS ls (lv_sub hl [] rfl)
          · skip
            have h := h.2 c62
            exact J_65 s_17 H locs h hP hD hS ls (lv_sub hl [] rfl)
    · skip
      have h := h.2 c22
      exact J_25 σ b_4 H locs h hP hD hS ls (lv_sub hl [0] rfl)
def y_Mo_fails : MethodName := ⟨"ClassWorksModel", "fails", "(II)I"⟩
abbrev b_Mo_fails : ByteArray := prog_14_method_80_code
theorem q3145 : Cond.fieldLink "ClassWorksModel" 844 "ClassWorksModel" "failRule" "I" ∈ lw_ok := lw_okmem (List.mem_of_getElem? (i := 3145) (by decide +kernel)) rfl
theorem q3144 : Cond.fieldLink "ClassWorksModel" 847 "ClassWorksModel" "failClass" "I" ∈ lw_ok := lw_okmem (List.mem_of_getElem? (i := 3144) (by decide +kernel)) rfl
theorem d_Mo_fails_0 : decode b_Mo_fails 0 = .ok (.aload_n 0, 1) := by decide +kernel
theorem d_Mo_fails_1 : decode b_Mo_fails 1 = .ok (.iload_n 1, 1) := by decide +kernel
theorem d_Mo_fails_2 : decode b_Mo_fails 2 = .ok (.putfield 844, 3) := by decide +kernel
theorem d_Mo_fails_5 : decode b_Mo_fails 5 = .ok (.aload_n 0, 1) := by decide +kernel
theorem d_Mo_fails_6 : decode b_Mo_fails 6 = .ok (.iload_n 2, 1) := by decide +kernel
theorem d_Mo_fails_7 : decode b_Mo_fails 7 = .ok (.putfield 847, 3) := by decide +kernel
theorem d_Mo_fails_10 : decode b_Mo_fails 10 = .ok (.iconst (-1), 1) := by decide +kernel
theorem d_Mo_fails_11 : decode b_Mo_fails 11 = .ok (.ireturn, 1) := by decide +kernel
abbrev ru_Mo_fails : Room := { frames := 0, cells := 0, slots := 0, locals := 0 }
def wu_Mo_fails (y : Ly) (Post : St → Int32 → Prop) (σ : St) (a0 : Nat) (v1 : Int32) (v2 : Int32) : Prop := xP (uV σ a0 81 v1) (fun s_1 : St => xP (uV s_1 a0 80 v2) (fun s_2 : St => Post s_2 (-1)))
set_option maxHeartbeats 4000000 in
set_option maxRecDepth 100000 in
theorem cu_Mo_fails (l : Launch) (D : va_G) (g : Nat → ClassId) (ad : Nat → Nat) (y : Ly) (Post : St → Int32 → Prop) (σ : St) (a0 : Nat) (v1 : Int32) (v2 : Int32) (sz : Nat) (h_a0 : cl a0 = 14) (h : wu_Mo_fails y Post σ a0 v1 v2) : Met l y_Mo_fails (mw y_Mo_fails b_Mo_fails 3 (some .int)) ru_Mo_fails (PC g D [] [.ref (ad a0), .int v1, .int v2] sz (ws g ad y σ)) (va_Qi (fun (r : Int32) (u : St) => Post u r) (QW D (va_A (ws g ad y σ) sz) (fun u => ws g ad y u)) (va_A (ws g ad y σ) sz)) 0 0 (va_A (ws g ad y σ) sz) := by
  refine ofI (by decide +kernel) (Nat.le_of_ble_eq_true rfl) ?_
  intro p e s m args below meth c A Q ls H locs G hsz hP hD hS hl hret
  subst hsz
  have hl : lv_has ls 3 [(0, .ref (ad a0)), (1, .int v1), (2, .int v2)] := hl
  unfold wu_Mo_fails at h
  refine lv_aload_n G.1 G.2.1 d_Mo_fails_0 rfl (lv_at hl 0 rfl) ?_
  refine lv_iload_n G.1 G.2.1 d_Mo_fails_1 rfl (lv_at hl 1 rfl) ?_
  refine upf G hP hD hS h 81 putV h_a0 iMo tMo tMo_ok nMo rfl (by decide) rfl q3145 rfl rfl fV rfl rfl d_Mo_fails_2 (fun s_1 H locs h hP hD hS => ?_)
  refine lv_aload_n G.1 G.2.1 d_Mo_fails_5 rfl (lv_at hl 0 rfl) ?_
  refine lv_iload_n G.1 G.2.1 d_Mo_fails_6 rfl (lv_at hl 2 rfl) ?_
  refine upf G hP hD hS h 80 putV h_a0 iMo tMo tMo_ok nMo rfl (by decide) rfl q3144 rfl rfl fV rfl rfl d_Mo_fails_7 (fun s_2 H locs h hP hD hS => ?_)
  refine lv_iconst (v := (-1)) G.1 G.2.1 d_Mo_fails_10 (by decide) ?_
  exact hret _ _ _ _ _ _ _ ls h hP hD hS (Nat.le_refl _) (Nat.le_refl _) d_Mo_fails_11
def y_Mo_note : MethodName := ⟨"ClassWorksModel", "note", "(II)V"⟩
abbrev b_Mo_note : ByteArray := prog_14_method_93_code
theorem q2825 : Cond.fieldLinkNest "ClassWorksModel" 902 "ClassWorksModel$World" "traceWhats" "[I" "ClassWorksModel" ∈ lw_nest := lw_nestmem (List.mem_of_getElem? (i := 2825) (by decide +kernel)) rfl
theorem q2827 : Cond.fieldLinkNest "ClassWorksModel" 905 "ClassWorksModel$World" "traceThreads" "[I" "ClassWorksModel" ∈ lw_nest := lw_nestmem (List.mem_of_getElem? (i := 2827) (by decide +kernel)) rfl
theorem q3111 : Cond.fieldLink "ClassWorksModel" 908 "ClassWorksModel" "thread" "I" ∈ lw_ok := lw_okmem (List.mem_of_getElem? (i := 3111) (by decide +kernel)) rfl
theorem q2829 : Cond.fieldLinkNest "ClassWorksModel" 911 "ClassWorksModel$World" "traceMethods" "[I" "ClassWorksModel" ∈ lw_nest := lw_nestmem (List.mem_of_getElem? (i := 2829) (by decide +kernel)) rfl
theorem q2831 : Cond.fieldLinkNest "ClassWorksModel" 914 "ClassWorksModel$World" "traceSteps" "[I" "ClassWorksModel" ∈ lw_nest := lw_nestmem (List.mem_of_getElem? (i := 2831) (by decide +kernel)) rfl
theorem q3110 : Cond.fieldLink "ClassWorksModel" 917 "ClassWorksModel" "u" "LClassWorksModel$Run;" ∈ lw_ok := lw_okmem (List.mem_of_getElem? (i := 3110) (by decide +kernel)) rfl
theorem d_Mo_note_0 : decode b_Mo_note 0 = .ok (.aload_n 0, 1) := by decide +kernel
theorem d_Mo_note_1 : decode b_Mo_note 1 = .ok (.getfield 522, 3) := by decide +kernel
theorem d_Mo_note_4 : decode b_Mo_note 4 = .ok (.getfield 501, 3) := by decide +kernel
theorem d_Mo_note_7 : decode b_Mo_note 7 = .ok (.istore_n 3, 1) := by decide +kernel
theorem d_Mo_note_8 : decode b_Mo_note 8 = .ok (.iload_n 3, 1) := by decide +kernel
theorem d_Mo_note_9 : decode b_Mo_note 9 = .ok (.sipush 400, 3) := by decide +kernel
theorem d_Mo_note_12 : decode b_Mo_note 12 = .ok (.if_icmp .ge 65, 3) := by decide +kernel
theorem d_Mo_note_15 : decode b_Mo_note 15 = .ok (.aload_n 0, 1) := by decide +kernel
theorem d_Mo_note_16 : decode b_Mo_note 16 = .ok (.getfield 522, 3) := by decide +kernel
theorem d_Mo_note_19 : decode b_Mo_note 19 = .ok (.getfield 902, 3) := by decide +kernel
theorem d_Mo_note_22 : decode b_Mo_note 22 = .ok (.iload_n 3, 1) := by decide +kernel
theorem d_Mo_note_23 : decode b_Mo_note 23 = .ok (.iload_n 1, 1) := by decide +kernel
theorem d_Mo_note_24 : decode b_Mo_note 24 = .ok (.iastore, 1) := by decide +kernel
theorem d_Mo_note_25 : decode b_Mo_note 25 = .ok (.aload_n 0, 1) := by decide +kernel
theorem d_Mo_note_26 : decode b_Mo_note 26 = .ok (.getfield 522, 3) := by decide +kernel
theorem d_Mo_note_29 : decode b_Mo_note 29 = .ok (.getfield 905, 3) := by decide +kernel
theorem d_Mo_note_32 : decode b_Mo_note 32 = .ok (.iload_n 3, 1) := by decide +kernel
theorem d_Mo_note_33 : decode b_Mo_note 33 = .ok (.aload_n 0, 1) := by decide +kernel
theorem d_Mo_note_34 : decode b_Mo_note 34 = .ok (.getfield 908, 3) := by decide +kernel
theorem d_Mo_note_37 : decode b_Mo_note 37 = .ok (.iastore, 1) := by decide +kernel
theorem d_Mo_note_38 : decode b_Mo_note 38 = .ok (.aload_n 0, 1) := by decide +kernel
theorem d_Mo_note_39 : decode b_Mo_note 39 = .ok (.getfield 522, 3) := by decide +kernel
theorem d_Mo_note_42 : decode b_Mo_note 42 = .ok (.getfield 911, 3) := by decide +kernel
theorem d_Mo_note_45 : decode b_Mo_note 45 = .ok (.iload_n 3, 1) := by decide +kernel
theorem d_Mo_note_46 : decode b_Mo_note 46 = .ok (.iload_n 2, 1) := by decide +kernel
theorem d_Mo_note_47 : decode b_Mo_note 47 = .ok (.iastore, 1) := by decide +kernel
theorem d_Mo_note_48 : decode b_Mo_note 48 = .ok (.aload_n 0, 1) := by decide +kernel
theorem d_Mo_note_49 : decode b_Mo_note 49 = .ok (.getfield 522, 3) := by decide +kernel
theorem d_Mo_note_52 : decode b_Mo_note 52 = .ok (.getfield 914, 3) := by decide +kernel
theorem d_Mo_note_55 : decode b_Mo_note 55 = .ok (.iload_n 3, 1) := by decide +kernel
theorem d_Mo_note_56 : decode b_Mo_note 56 = .ok (.aload_n 0, 1) := by decide +kernel
theorem d_Mo_note_57 : decode b_Mo_note 57 = .ok (.getfield 917, 3) := by decide +kernel
theorem d_Mo_note_60 : decode b_Mo_note 60 = .ok (.getfield 921, 3) := by decide +kernel
theorem d_Mo_note_63 : decode b_Mo_note 63 = .ok (.iastore, 1) := by decide +kernel
theorem d_Mo_note_64 : decode b_Mo_note 64 = .ok (.aload_n 0, 1) := by decide +kernel
theorem d_Mo_note_65 : decode b_Mo_note 65 = .ok (.getfield 522, 3) := by decide +kernel
theorem d_Mo_note_68 : decode b_Mo_note 68 = .ok (.dup, 1) := by decide +kernel
theorem d_Mo_note_69 : decode b_Mo_note 69 = .ok (.getfield 501, 3) := by decide +kernel
theorem d_Mo_note_72 : decode b_Mo_note 72 = .ok (.iconst 1, 1) := by decide +kernel
theorem d_Mo_note_73 : decode b_Mo_note 73 = .ok (.iadd, 1) := by decide +kernel
theorem d_Mo_note_74 : decode b_Mo_note 74 = .ok (.putfield 501, 3) := by decide +kernel
theorem d_Mo_note_77 : decode b_Mo_note 77 = .ok (.return_, 1) := by decide +kernel
abbrev ru_Mo_note : Room := { frames := 0, cells := 0, slots := 0, locals := 0 }
def wj_Mo_note_77 (y : Ly) (Post : St → Prop) (a0 : Nat) (s_j77 : St) : Prop := Post s_j77
def wu_Mo_note (y : Ly) (Post : St → Prop) (σ : St) (a0 : Nat) (v1 : Int32) (v2 : Int32) : Prop := ∃ b_1 : Nat, sO σ a0 45 = some b_1 ∧ cl b_1 = 13 ∧ ((400 ≤ (sV σ b_1 70) → wj_Mo_note_77 y Post a0 σ) ∧ (¬ (400 ≤ (sV σ b_1 70)) → ∃ b_4 : Nat, sO σ a0 45 = some b_4 ∧ cl b_4 = 13 ∧ xS y σ b_4 66 (sV σ b_1 70) v1 (fun s_7 : St => ∃ b_8 : Nat, sO s_7 a0 45 = some b_8 ∧ cl b_8 = 13 ∧ xS y s_7 b_8 67 (sV σ b_1 70) (sV s_7 a0 47) (fun s_11 : St => ∃ b_12 : Nat, sO s_11 a0 45 = some b_12 ∧ cl b_12 = 13 ∧ xS y s_11 b_12 68 (sV σ b_1 70) v2 (fun s_15 : St => ∃ b_16 : Nat, sO s_15 a0 45 = some b_16 ∧ cl b_16 = 13 ∧ ∃ b_19 : Nat, sO s_15 a0 46 = some b_19 ∧ cl b_19 = 12 ∧ xS y s_15 b_16 69 (sV σ b_1 70) (sV s_15 b_19 3) (fun s_22 : St => ∃ b_23 : Nat, sO s_22 a0 45 = some b_23 ∧ cl b_23 = 13 ∧ xP (uV s_22 b_23 70 ((sV s_22 b_23 70) + 1)) (fun s_26 : St => wj_Mo_note_77 y Post a0 s_26)))))))
set_option maxHeartbeats 4000000 in
set_option maxRecDepth 100000 in
theorem cu_Mo_note (l : Launch) (D : va_G) (g : Nat → ClassId) (ad : Nat → Nat) (y : Ly) (Post : St → Prop) (σ : St) (a0 : Nat) (v1 : Int32) (v2 : Int32) (sz : Nat) (h_a0 : cl a0 = 14) (h : wu_Mo_note y Post σ a0 v1 v2) : Met l y_Mo_note (mw y_Mo_note b_Mo_note 4 (none)) ru_Mo_note (PC g D [] [.ref (ad a0), .int v1, .int v2] sz (ws g ad y σ)) (va_Qv (fun u : St => Post u) (QW D (va_A (ws g ad y σ) sz) (fun u => ws g ad y u)) (va_A (ws g ad y σ) sz)) 0 0 (va_A (ws g ad y σ) sz) := by
  refine ofV (by decide +kernel) (Nat.le_of_ble_eq_true rfl) ?_
  intro p e s m args below meth c A Q ls H locs G hsz hP hD hS hl hret
  subst hsz
  have hl : lv_has ls 4 [(0, .ref (ad a0)), (1, .int v1), (2, .int v2)] := hl
  unfold wu_Mo_note at h
  refine lv_aload_n G.1 G.2.1 d_Mo_note_0 rfl (lv_at hl 0 rfl) ?_
  obtain ⟨b_1, e_2, c_3, h⟩ := h
  refine ugf (v := .ref (ad b_1)) G hP h_a0 iMo rfl 45 (by decide) rfl q3109 rfl (by show va_rf ((sO σ a0 45).map ad) = _; rw [e_2]; rfl) d_Mo_note_1 ?_
  refine ugfN (v := .int (sV σ b_1 70)) G hP c_3 iMw rfl 70 (by decide) rfl q2832 rfl rfl d_Mo_note_4 ?_
  refine lv_istore_n (lv' := [(3, .int (sV σ b_1 70)), (0, .ref (ad a0)), (1, .int v1), (2, .int v2)]) G.1 G.2.1 d_Mo_note_7 rfl hl (by decide) rfl (fun ls hl => ?_)
  refine lv_iload_n G.1 G.2.1 d_Mo_note_8 rfl (lv_at hl 0 rfl) ?_
  refine lv_sipush (v := 400) G.1 G.2.1 d_Mo_note_9 (by decide) ?_
  have J_77 : ∀ (s_j77 : St) (H : Heap) (locs : List Loc), wj_Mo_note_77 y Post a0 s_j77 → va_P D CL (ws g ad y s_j77) H → va_D A (ws g ad y s_j77) → va_S A s.heap H locs → ∀ ls, lv_has ls 4 [] → W p l e ru_Mo_note s m args below meth c H locs 0 0 Q (F0 m 77 ls []) := by
    intro s_j77 H locs h hP hD hS ls hl
    unfold wj_Mo_note_77 at h
    exact hret _ _ _ _ _ _ ls h hP hD hS (Nat.le_refl _) (Nat.le_refl _) d_Mo_note_77
  refine lv_icmp_ge (tgt := 77) G.1 G.2.1 d_Mo_note_12 (by decide) (fun c12 => ?_) (fun c12 => ?_)
  · skip
    have h := h.1 c12
    exact J_77 σ H locs h hP hD hS ls (lv_sub hl [] rfl)
  · skip
    have h := h.2 c12
    refine lv_aload_n G.1 G.2.1 d_Mo_note_15 rfl (lv_at hl 1 rfl) ?_
    obtain ⟨b_4, e_5, c_6, h⟩ := h
    refine ugf (v := .ref (ad b_4)) G hP h_a0 iMo rfl 45 (by decide) rfl q3109 rfl (by show va_rf ((sO σ a0 45).map ad) = _; rw [e_5]; rfl) d_Mo_note_16 ?_
    refine ugfN (v := .ref (yP y b_4 66)) G hP c_6 iMw rfl 66 (by decide) rfl q2825 rfl rfl d_Mo_note_19 ?_
    refine lv_iload_n G.1 G.2.1 d_Mo_note_22 rfl (lv_at hl 0 rfl) ?_
    refine W.eq (g2 := F0 m 23 ls [.int (sV σ b_1 70), .ref (yP y b_4 66)]) rfl ?_
    refine lv_iload_n G.1 G.2.1 d_Mo_note_23 rfl (lv_at hl 2 rfl) ?_
    refine uiast G hP hD hS (kdp c_6 rfl) (typ c_6 rfl) h d_Mo_note_24 (fun s_7 H locs h hP hD hS => ?_)
    refine lv_aload_n G.1 G.2.1 d_Mo_note_25 rfl (lv_at hl 1 rfl) ?_
    obtain ⟨b_8, e_9, c_10, h⟩ := h
    refine ugf (v := .ref (ad b_8)) G hP h_a0 iMo rfl 45 (by decide) rfl q3109 rfl (by show va_rf ((sO s_7 a0 45).map ad) = _; rw [e_9]; rfl) d_Mo_note_26 ?_
    refine ugfN (v := .ref (yP y b_8 67)) G hP c_10 iMw rfl 67 (by decide) rfl q2827 rfl rfl d_Mo_note_29 ?_
    refine lv_iload_n G.1 G.2.1 d_Mo_note_32 rfl (lv_at hl 0 rfl) ?_
    refine lv_aload_n G.1 G.2.1 d_Mo_note_33 rfl (lv_at hl 1 rfl) ?_
    refine ugf (v := .int (sV s_7 a0 47)) G hP h_a0 iMo rfl 47 (by decide) rfl q3111 rfl rfl d_Mo_note_34 ?_
    refine uiast G hP hD hS (kdp c_10 rfl) (typ c_10 rfl) h d_Mo_note_37 (fun s_11 H locs h hP hD hS => ?_)
    refine lv_aload_n G.1 G.2.1 d_Mo_note_38 rfl (lv_at hl 1 rfl) ?_
    obtain ⟨b_12, e_13, c_14, h⟩ := h
    refine ugf (v := .ref (ad b_12)) G hP h_a0 iMo rfl 45 (by decide) rfl q3109 rfl (by show va_rf ((sO s_11 a0 45).map ad) = _; rw [e_13]; rfl) d_Mo_note_39 ?_
    refine ugfN (v := .ref (yP y b_12 68)) G hP c_14 iMw rfl 68 (by decide) rfl q2829 rfl rfl d_Mo_note_42 ?_
    refine W.eq (g2 := F0 m 45 ls [.ref (yP y b_12 68)]) rfl ?_
    refine lv_iload_n G.1 G.2.1 d_Mo_note_45 rfl (lv_at hl 0 rfl) ?_
    refine lv_iload_n G.1 G.2.1 d_Mo_note_46 rfl (lv_at hl 3 rfl) ?_
    refine uiast G hP hD hS (kdp c_14 rfl) (typ c_14 rfl) h d_Mo_note_47 (fun s_15 H locs h hP hD hS => ?_)
    refine lv_aload_n G.1 G.2.1 d_Mo_note_48 rfl (lv_at hl 1 rfl) ?_
    obtain ⟨b_16, e_17, c_18, h⟩ := h
    refine ugf (v := .ref (ad b_16)) G hP h_a0 iMo rfl 45 (by decide) rfl q3109 rfl (by show va_rf ((sO s_15 a0 45).map ad) = _; rw [e_17]; rfl) d_Mo_note_49 ?_
    refine ugfN (v := .ref (yP y b_16 69)) G hP c_18 iMw rfl 69 (by decide) rfl q2831 rfl rfl d_Mo_note_52 ?_
    refine lv_iload_n G.1 G.2.1 d_Mo_note_55 rfl (lv_at hl 0 rfl) ?_
    refine lv_aload_n G.1 G.2.1 d_Mo_note_56 rfl (lv_at hl 1 rfl) ?_
    obtain ⟨b_19, e_20, c_21, h⟩ := h
    refine ugf (v := .ref (ad b_19)) G hP h_a0 iMo rfl 46 (by decide) rfl q3110 rfl (by show va_rf ((sO s_15 a0 46).map ad) = _; rw [e_20]; rfl) d_Mo_note_57 ?_
    refine ugfN (v := .int (sV s_15 b_19 3)) G hP c_21 iMr rfl 3 (by decide) rfl q2990 rfl rfl d_Mo_note_60 ?_
    refine uiast G hP hD hS (kdp c_18 rfl) (typ c_18 rfl) h d_Mo_note_63 (fun s_22 H locs h hP hD hS => ?_)
    refine lv_aload_n G.1 G.2.1 d_Mo_note_64 rfl (lv_at hl 1 rfl) ?_
    refine W.eq (g2 := F0 m 65 ls [.ref (ad a0)]) rfl ?_
    obtain ⟨b_23, e_24, c_25, h⟩ := h
    refine ugf (v := .ref (ad b_23)) G hP h_a0 iMo rfl 45 (by decide) rfl q3109 rfl (by show va_rf ((sO s_22 a0 45).map ad) = _; rw [e_24]; rfl) d_Mo_note_65 ?_
    refine lv_dup G.1 G.2.1 d_Mo_note_68 rfl ?_
    refine ugfN (v := .int (sV s_22 b_23 70)) G hP c_25 iMw rfl 70 (by decide) rfl q2832 rfl rfl d_Mo_note_69 ?_
    refine lv_iconst (v := 1) G.1 G.2.1 d_Mo_note_72 (by decide) ?_
    refine lv_iadd G.1 G.2.1 d_Mo_note_73 ?_
    refine upfN G hP hD hS h 70 putV c_25 iMw tMw tMw_ok nMw rfl (by decide) rfl q2832 rfl rfl fV rfl rfl d_Mo_note_74 (fun s_26 H locs h hP hD hS => ?_)
    exact J_77 s_26 H locs h hP hD hS ls (lv_sub hl [] rfl)
def y_Mo_classOfRef : MethodName := ⟨"ClassWorksModel", "classOfRef", "(I)I"⟩
abbrev b_Mo_classOfRef : ByteArray := prog_14_method_87_code
theorem q2790 : Cond.fieldLinkNest "ClassWorksModel" 872 "ClassWorksModel$World" "thingClasses" "[I" "ClassWorksModel" ∈ lw_nest := lw_nestmem (List.mem_of_getElem? (i := 2790) (by decide +kernel)) rfl
theorem q2804 : Cond.fieldLinkNest "ClassWorksModel" 869 "ClassWorksModel$World" "faultClasses" "[I" "ClassWorksModel" ∈ lw_nest := lw_nestmem (List.mem_of_getElem? (i := 2804) (by decide +kernel)) rfl
theorem d_Mo_classOfRef_0 : decode b_Mo_classOfRef 0 = .ok (.iload_n 1, 1) := by decide +kernel
theorem d_Mo_classOfRef_1 : decode b_Mo_classOfRef 1 = .ok (.sipush 1001, 3) := by decide +kernel
theorem d_Mo_classOfRef_4 : decode b_Mo_classOfRef 4 = .ok (.if_icmp .lt 19, 3) := by decide +kernel
theorem d_Mo_classOfRef_7 : decode b_Mo_classOfRef 7 = .ok (.aload_n 0, 1) := by decide +kernel
theorem d_Mo_classOfRef_8 : decode b_Mo_classOfRef 8 = .ok (.getfield 522, 3) := by decide +kernel
theorem d_Mo_classOfRef_11 : decode b_Mo_classOfRef 11 = .ok (.getfield 869, 3) := by decide +kernel
theorem d_Mo_classOfRef_14 : decode b_Mo_classOfRef 14 = .ok (.iload_n 1, 1) := by decide +kernel
theorem d_Mo_classOfRef_15 : decode b_Mo_classOfRef 15 = .ok (.sipush 1001, 3) := by decide +kernel
theorem d_Mo_classOfRef_18 : decode b_Mo_classOfRef 18 = .ok (.isub, 1) := by decide +kernel
theorem d_Mo_classOfRef_19 : decode b_Mo_classOfRef 19 = .ok (.iaload, 1) := by decide +kernel
theorem d_Mo_classOfRef_20 : decode b_Mo_classOfRef 20 = .ok (.goto 29, 3) := by decide +kernel
theorem d_Mo_classOfRef_23 : decode b_Mo_classOfRef 23 = .ok (.aload_n 0, 1) := by decide +kernel
theorem d_Mo_classOfRef_24 : decode b_Mo_classOfRef 24 = .ok (.getfield 522, 3) := by decide +kernel
theorem d_Mo_classOfRef_27 : decode b_Mo_classOfRef 27 = .ok (.getfield 872, 3) := by decide +kernel
theorem d_Mo_classOfRef_30 : decode b_Mo_classOfRef 30 = .ok (.iload_n 1, 1) := by decide +kernel
theorem d_Mo_classOfRef_31 : decode b_Mo_classOfRef 31 = .ok (.iaload, 1) := by decide +kernel
theorem d_Mo_classOfRef_32 : decode b_Mo_classOfRef 32 = .ok (.iconst (-1), 1) := by decide +kernel
theorem d_Mo_classOfRef_33 : decode b_Mo_classOfRef 33 = .ok (.if_icmp .ne 7, 3) := by decide +kernel
theorem d_Mo_classOfRef_36 : decode b_Mo_classOfRef 36 = .ok (.iconst 0, 1) := by decide +kernel
theorem d_Mo_classOfRef_37 : decode b_Mo_classOfRef 37 = .ok (.goto 12, 3) := by decide +kernel
theorem d_Mo_classOfRef_40 : decode b_Mo_classOfRef 40 = .ok (.aload_n 0, 1) := by decide +kernel
theorem d_Mo_classOfRef_41 : decode b_Mo_classOfRef 41 = .ok (.getfield 522, 3) := by decide +kernel
theorem d_Mo_classOfRef_44 : decode b_Mo_classOfRef 44 = .ok (.getfield 872, 3) := by decide +kernel
theorem d_Mo_classOfRef_47 : decode b_Mo_classOfRef 47 = .ok (.iload_n 1, 1) := by decide +kernel
theorem d_Mo_classOfRef_48 : decode b_Mo_classOfRef 48 = .ok (.iaload, 1) := by decide +kernel
theorem d_Mo_classOfRef_49 : decode b_Mo_classOfRef 49 = .ok (.ireturn, 1) := by decide +kernel
abbrev ru_Mo_classOfRef : Room := { frames := 0, cells := 0, slots := 0, locals := 0 }
def wj_Mo_classOfRef_49 (y : Ly) (Post : St → Int32 → Prop) (a0 : Nat) (s_j49 : St) (z0j49 : Int32) : Prop := Post s_j49 z0j49
def wu_Mo_classOfRef (y : Ly) (Post : St → Int32 → Prop) (σ : St) (a0 : Nat) (v1 : Int32) : Prop := ((v1 < 1001 → ∃ b_1 : Nat, sO σ a0 45 = some b_1 ∧ cl b_1 = 13 ∧ xA y σ b_1 45 v1 (fun x_4 : Int32 => ((¬ x_4 = (-1) → ∃ b_5 : Nat, sO σ a0 45 = some b_5 ∧ cl b_5 = 13 ∧ xA y σ b_5 45 v1 (fun x_8 : Int32 => wj_Mo_classOfRef_49 y Post a0 σ x_8)) ∧ (x_4 = (-1) → wj_Mo_classOfRef_49 y Post a0 σ 0)))) ∧ (¬ (v1 < 1001) → ∃ b_9 : Nat, sO σ a0 45 = some b_9 ∧ cl b_9 = 13 ∧ xA y σ b_9 53 (v1 - 1001) (fun x_12 : Int32 => wj_Mo_classOfRef_49 y Post a0 σ x_12)))
set_option maxHeartbeats 4000000 in
set_option maxRecDepth 100000 in
theorem cu_Mo_classOfRef (l : Launch) (D : va_G) (g : Nat → ClassId) (ad : Nat → Nat) (y : Ly) (Post : St → Int32 → Prop) (σ : St) (a0 : Nat) (v1 : Int32) (sz : Nat) (h_a0 : cl a0 = 14) (h : wu_Mo_classOfRef y Post σ a0 v1) : Met l y_Mo_classOfRef (mw y_Mo_classOfRef b_Mo_classOfRef 2 (some .int)) ru_Mo_classOfRef (PC g D [] [.ref (ad a0), .int v1] sz (ws g ad y σ)) (va_Qi (fun (r : Int32) (u : St) => Post u r) (QW D (va_A (ws g ad y σ) sz) (fun u => ws g ad y u)) (va_A (ws g ad y σ) sz)) 0 0 (va_A (ws g ad y σ) sz) := by
  refine ofI (by decide +kernel) (Nat.le_of_ble_eq_true rfl) ?_
  intro p e s m args below meth c A Q ls H locs G hsz hP hD hS hl hret
  subst hsz
  have hl : lv_has ls 2 [(0, .ref (ad a0)), (1, .int v1)] := hl
  unfold wu_Mo_classOfRef at h
  refine lv_iload_n G.1 G.2.1 d_Mo_classOfRef_0 rfl (lv_at hl 1 rfl) ?_
  refine lv_sipush (v := 1001) G.1 G.2.1 d_Mo_classOfRef_1 (by decide) ?_
  have J_49 : ∀ (s_j49 : St) (z0j49 : Int32) (H : Heap) (locs : List Loc), wj_Mo_classOfRef_49 y Post a0 s_j49 z0j49 → va_P D CL (ws g ad y s_j49) H → va_D A (ws g ad y s_j49) → va_S A s.heap H locs → ∀ ls, lv_has ls 2 [] → W p l e ru_Mo_classOfRef s m args below meth c H locs 0 0 Q (F0 m 49 ls [.int z0j49]) := by
    intro s_j49 z0j49 H locs h hP hD hS ls hl
    unfold wj_Mo_classOfRef_49 at h
    exact hret _ _ _ _ _ _ _ ls h hP hD hS (Nat.le_refl _) (Nat.le_refl _) d_Mo_classOfRef_49
  refine lv_icmp_lt (tgt := 23) G.1 G.2.1 d_Mo_classOfRef_4 (by decide) (fun c4 => ?_) (fun c4 => ?_)
  · skip
    have h := h.1 c4
    refine lv_aload_n G.1 G.2.1 d_Mo_classOfRef_23 rfl (lv_at hl 0 rfl) ?_
    obtain ⟨b_1, e_2, c_3, h⟩ := h
    refine ugf (v := .ref (ad b_1)) G hP h_a0 iMo rfl 45 (by decide) rfl q3109 rfl (by show va_rf ((sO σ a0 45).map ad) = _; rw [e_2]; rfl) d_Mo_classOfRef_24 ?_
    refine ugfN (v := .ref (yP y b_1 45)) G hP c_3 iMw rfl 45 (by decide) rfl q2790 rfl rfl d_Mo_classOfRef_27 ?_
    refine lv_iload_n G.1 G.2.1 d_Mo_classOfRef_30 rfl (lv_at hl 1 rfl) ?_
    refine uiald G hP (kdp c_3 rfl) (typ c_3 rfl) h d_Mo_classOfRef_31 (fun x_4 h => ?_)
    refine lv_iconst (v := (-1)) G.1 G.2.1 d_Mo_classOfRef_32 (by decide) ?_
    refine lv_icmp_ne (tgt := 40) G.1 G.2.1 d_Mo_classOfRef_33 (by decide) (fun c33 => ?_) (fun c33 => ?_)
    · skip
      have h := h.1 c33
      refine lv_aload_n G.1 G.2.1 d_Mo_classOfRef_40 rfl (lv_at hl 0 rfl) ?_
      refine W.eq (g2 := F0 m 41 ls [.ref (ad a0)]) rfl ?_
      obtain ⟨b_5, e_6, c_7, h⟩ := h
      refine ugf (v := .ref (ad b_5)) G hP h_a0 iMo rfl 45 (by decide) rfl q3109 rfl (by show va_rf ((sO σ a0 45).map ad) = _; rw [e_6]; rfl) d_Mo_classOfRef_41 ?_
      refine ugfN (v := .ref (yP y b_5 45)) G hP c_7 iMw rfl 45 (by decide) rfl q2790 rfl rfl d_Mo_classOfRef_44 ?_
      refine lv_iload_n G.1 G.2.1 d_Mo_classOfRef_47 rfl (lv_at hl 1 rfl) ?_
      refine uiald G hP (kdp c_7 rfl) (typ c_7 rfl) h d_Mo_classOfRef_48 (fun x_8 h => ?_)
      exact J_49 σ x_8 H locs h hP hD hS ls (lv_sub hl [] rfl)
    · skip
      have h := h.2 c33
      refine lv_iconst (v := 0) G.1 G.2.1 d_Mo_classOfRef_36 (by decide) ?_
      refine W.eq (g2 := F0 m 37 ls [.int 0]) rfl ?_
      refine lv_goto (tgt := 49) G.1 G.2.1 d_Mo_classOfRef_37 (by decide) ?_
      exact J_49 σ 0 H locs h hP hD hS ls (lv_sub hl [] rfl)
  · skip
    have h := h.2 c4
    refine lv_aload_n G.1 G.2.1 d_Mo_classOfRef_7 rfl (lv_at hl 0 rfl) ?_
    obtain ⟨b_9, e_10, c_11, h⟩ := h
    refine ugf (v := .ref (ad b_9)) G hP h_a0 iMo rfl 45 (by decide) rfl q3109 rfl (by show va_rf ((sO σ a0 45).map ad) = _; rw [e_10]; rfl) d_Mo_classOfRef_8 ?_
    refine ugfN (v := .ref (yP y b_9 53)) G hP c_11 iMw rfl 53 (by decide) rfl q2804 rfl rfl d_Mo_classOfRef_11 ?_
    refine lv_iload_n G.1 G.2.1 d_Mo_classOfRef_14 rfl (lv_at hl 1 rfl) ?_
    refine lv_sipush (v := 1001) G.1 G.2.1 d_Mo_classOfRef_15 (by decide) ?_
    refine lv_isub G.1 G.2.1 d_Mo_classOfRef_18 ?_
    refine uiald G hP (kdp c_11 rfl) (typ c_11 rfl) h d_Mo_classOfRef_19 (fun x_12 h => ?_)
    refine lv_goto (tgt := 49) G.1 G.2.1 d_Mo_classOfRef_20 (by decide) ?_
    exact J_49 σ x_12 H locs h hP hD hS ls (lv_sub hl [] rfl)
theorem q3693 : Cond.methodLink "ClassWorksModel" 732 y_Mo_upFrom ∈ lw_ok := lw_okmem (List.mem_of_getElem? (i := 3693) (by decide +kernel)) rfl
theorem q3696 : Cond.code y_Mo_upFrom b_Mo_upFrom 10 (some (.long)) ∈ lw_ok := lw_okmem (List.mem_of_getElem? (i := 3696) (by decide +kernel)) rfl
theorem q3695 : Cond.instanceMethod y_Mo_upFrom ∈ lw_ok := lw_okmem (List.mem_of_getElem? (i := 3695) (by decide +kernel)) rfl
theorem q220 : Cond.selects y_Mo_upFrom.cls y_Mo_upFrom y_Mo_upFrom ∈ lw_ok := lw_okmem (List.mem_of_getElem? (i := 220) (by decide +kernel)) rfl
theorem w9_Mo_upFrom : CWv y_Mo_upFrom b_Mo_upFrom 10 (some (.long)) 2 ∧ Cond.instanceMethod y_Mo_upFrom ∈ lw_ok ∧ Cond.selects y_Mo_upFrom.cls y_Mo_upFrom y_Mo_upFrom ∈ lw_ok := ⟨⟨q3696, q348, by decide +kernel, by decide +kernel, by decide +kernel⟩, q3695, q220⟩
def y_Mo_isBelow : MethodName := ⟨"ClassWorksModel", "isBelow", "(II)Z"⟩
abbrev b_Mo_isBelow : ByteArray := prog_14_method_52_code
theorem d_Mo_isBelow_0 : decode b_Mo_isBelow 0 = .ok (.iload_n 1, 1) := by decide +kernel
theorem d_Mo_isBelow_1 : decode b_Mo_isBelow 1 = .ok (.iload_n 2, 1) := by decide +kernel
theorem d_Mo_isBelow_2 : decode b_Mo_isBelow 2 = .ok (.if_icmp .eq 20, 3) := by decide +kernel
theorem d_Mo_isBelow_5 : decode b_Mo_isBelow 5 = .ok (.aload_n 0, 1) := by decide +kernel
theorem d_Mo_isBelow_6 : decode b_Mo_isBelow 6 = .ok (.lconst 1, 1) := by decide +kernel
theorem d_Mo_isBelow_7 : decode b_Mo_isBelow 7 = .ok (.iload_n 1, 1) := by decide +kernel
theorem d_Mo_isBelow_8 : decode b_Mo_isBelow 8 = .ok (.lshl, 1) := by decide +kernel
theorem d_Mo_isBelow_9 : decode b_Mo_isBelow 9 = .ok (.iconst 0, 1) := by decide +kernel
theorem d_Mo_isBelow_10 : decode b_Mo_isBelow 10 = .ok (.invokevirtual 732, 3) := by decide +kernel
theorem d_Mo_isBelow_13 : decode b_Mo_isBelow 13 = .ok (.iload_n 2, 1) := by decide +kernel
theorem d_Mo_isBelow_14 : decode b_Mo_isBelow 14 = .ok (.lshr, 1) := by decide +kernel
theorem d_Mo_isBelow_15 : decode b_Mo_isBelow 15 = .ok (.lconst 1, 1) := by decide +kernel
theorem d_Mo_isBelow_16 : decode b_Mo_isBelow 16 = .ok (.land, 1) := by decide +kernel
theorem d_Mo_isBelow_17 : decode b_Mo_isBelow 17 = .ok (.lconst 1, 1) := by decide +kernel
theorem d_Mo_isBelow_18 : decode b_Mo_isBelow 18 = .ok (.lcmp, 1) := by decide +kernel
theorem d_Mo_isBelow_19 : decode b_Mo_isBelow 19 = .ok (.ifCond .ne 7, 3) := by decide +kernel
theorem d_Mo_isBelow_22 : decode b_Mo_isBelow 22 = .ok (.iconst 1, 1) := by decide +kernel
theorem d_Mo_isBelow_23 : decode b_Mo_isBelow 23 = .ok (.goto 4, 3) := by decide +kernel
theorem d_Mo_isBelow_26 : decode b_Mo_isBelow 26 = .ok (.iconst 0, 1) := by decide +kernel
theorem d_Mo_isBelow_27 : decode b_Mo_isBelow 27 = .ok (.ireturn, 1) := by decide +kernel
abbrev ru_Mo_isBelow : Room := { frames := 4, cells := 0, slots := 0, locals := 99 }
def wj_Mo_isBelow_27 (y : Ly) (Post : St → Int32 → Prop) (a0 : Nat) (s_j27 : St) (z0j27 : Int32) : Prop := (nb z0j27 ∧ Post s_j27 z0j27)
def wj_Mo_isBelow_22 (y : Ly) (Post : St → Int32 → Prop) (a0 : Nat) (s_j22 : St) : Prop := wj_Mo_isBelow_27 y Post a0 s_j22 1
def wu_Mo_isBelow (y : Ly) (Post : St → Int32 → Prop) (σ : St) (a0 : Nat) (v1 : Int32) (v2 : Int32) : Prop := ((v1 = v2 → wj_Mo_isBelow_22 y Post a0 σ) ∧ (¬ (v1 = v2) → wu_Mo_upFrom y (fun (s_2 : St) (r_1 : Int64) => ((¬ (lg_cmp ((r_1 >>> (v2.toInt64 &&& 63)) &&& 1) 1) = 0 → wj_Mo_isBelow_27 y Post a0 s_2 0) ∧ ((lg_cmp ((r_1 >>> (v2.toInt64 &&& 63)) &&& 1) 1) = 0 → wj_Mo_isBelow_22 y Post a0 s_2))) σ a0 (1 <<< (v1.toInt64 &&& 63)) 0))
set_option maxHeartbeats 4000000 in
set_option maxRecDepth 100000 in
theorem cu_Mo_isBelow (l : Launch) (D : va_G) (g : Nat → ClassId) (ad : Nat → Nat) (y : Ly) (Post : St → Int32 → Prop) (σ : St) (a0 : Nat) (v1 : Int32) (v2 : Int32) (sz : Nat) (h_a0 : cl a0 = 14) (h : wu_Mo_isBelow y Post σ a0 v1 v2) : Met l y_Mo_isBelow (mw y_Mo_isBelow b_Mo_isBelow 3 (some (.boolean))) ru_Mo_isBelow (PC g D [] [.ref (ad a0), .int v1, .int v2] sz (ws g ad y σ)) (va_Qi (fun (r : Int32) (u : St) => Post u r) (QW D (va_A (ws g ad y σ) sz) (fun u => ws g ad y u)) (va_A (ws g ad y σ) sz)) 0 0 (va_A (ws g ad y σ) sz) := by
  refine ofZ (by decide +kernel) (Nat.le_of_ble_eq_true rfl) ?_
  intro p e s m args below meth c A Q ls H locs G hsz hP hD hS hl hret
  subst hsz
  have hl : lv_has ls 3 [(0, .ref (ad a0)), (1, .int v1), (2, .int v2)] := hl
  unfold wu_Mo_isBelow at h
  refine lv_iload_n G.1 G.2.1 d_Mo_isBelow_0 rfl (lv_at hl 1 rfl) ?_
  refine lv_iload_n G.1 G.2.1 d_Mo_isBelow_1 rfl (lv_at hl 2 rfl) ?_
  have J_27 : ∀ (s_j27 : St) (z0j27 : Int32) (H : Heap) (locs : List Loc), wj_Mo_isBelow_27 y Post a0 s_j27 z0j27 → va_P D CL (ws g ad y s_j27) H → va_D A (ws g ad y s_j27) → va_S A s.heap H locs → ∀ ls, lv_has ls 3 [] → W p l e ru_Mo_isBelow s m args below meth c H locs 0 0 Q (F0 m 27 ls [.int z0j27]) := by
    intro s_j27 z0j27 H locs h hP hD hS ls hl
    unfold wj_Mo_isBelow_27 at h
    exact hret _ _ _ _ _ _ _ ls (nb_n h.1) h.2 hP hD hS (Nat.le_refl _) (Nat.le_refl _) d_Mo_isBelow_27
  have J_22 : ∀ (s_j22 : St) (H : Heap) (locs : List Loc), wj_Mo_isBelow_22 y Post a0 s_j22 → va_P D CL (ws g ad y s_j22) H → va_D A (ws g ad y s_j22) → va_S A s.heap H locs → ∀ ls, lv_has ls 3 [] → W p l e ru_Mo_isBelow s m args below meth c H locs 0 0 Q (F0 m 22 ls []) := by
    intro s_j22 H locs h hP hD hS ls hl
    unfold wj_Mo_isBelow_22 at h
    refine lv_iconst (v := 1) G.1 G.2.1 d_Mo_isBelow_22 (by decide) ?_
    refine lv_goto (tgt := 27) G.1 G.2.1 d_Mo_isBelow_23 (by decide) ?_
    exact J_27 s_j22 1 H locs h hP hD hS ls (lv_sub hl [] rfl)
  refine lv_icmp_eq (tgt := 22) G.1 G.2.1 d_Mo_isBelow_2 (by decide) (fun c2 => ?_) (fun c2 => ?_)
  · skip
    have h := h.1 c2
    exact J_22 σ H locs h hP hD hS ls (lv_sub hl [] rfl)
  · skip
    have h := h.2 c2
    refine lv_aload_n G.1 G.2.1 d_Mo_isBelow_5 rfl (lv_at hl 0 rfl) ?_
    refine lv_lconst (v := 1) G.1 G.2.1 d_Mo_isBelow_6 (by decide) ?_
    refine lv_iload_n G.1 G.2.1 d_Mo_isBelow_7 rfl (lv_at hl 1 rfl) ?_
    refine lv_lshl G.1 G.2.1 d_Mo_isBelow_8 rfl ?_
    refine lv_iconst (v := 0) G.1 G.2.1 d_Mo_isBelow_9 (by decide) ?_
    refine ucVl (As := [.long (1 <<< (v1.toInt64 &&& 63)), .int 0]) (rest := []) G hP hD hS (cu_Mo_upFrom l D g ad y _ σ a0 (1 <<< (v1.toInt64 &&& 63)) 0 H.size h_a0 h) w9_Mo_upFrom q3693 ⟨Nat.le_of_ble_eq_true rfl, Nat.le_of_ble_eq_true rfl⟩ rfl rfl h_a0 (q := (RMo, TMo, 131)) rfl rfl hl.1 rfl (Nat.le_of_ble_eq_true rfl) rfl ⟨Nat.le_refl _, Nat.le_refl _⟩ d_Mo_isBelow_10 (fun r_1 s_2 H locs h hP hD hS => ?_)
    refine lv_iload_n G.1 G.2.1 d_Mo_isBelow_13 rfl (lv_at hl 2 rfl) ?_
    refine lv_lshr G.1 G.2.1 d_Mo_isBelow_14 rfl ?_
    refine W.eq (g2 := F0 m 15 ls [.long (r_1 >>> (v2.toInt64 &&& 63))]) rfl ?_
    refine lv_lconst (v := 1) G.1 G.2.1 d_Mo_isBelow_15 (by decide) ?_
    refine lv_land G.1 G.2.1 d_Mo_isBelow_16 ?_
    refine lv_lconst (v := 1) G.1 G.2.1 d_Mo_isBelow_17 (by decide) ?_
    refine W.lcmp G.1 G.2.1 d_Mo_isBelow_18 ?_
    refine lv_if_ne (tgt := 26) G.1 G.2.1 d_Mo_isBelow_19 (by decide) (fun c19 => ?_) (fun c19 => ?_)
    · skip
      have h := h.1 c19
      refine lv_iconst (v := 0) G.1 G.2.1 d_Mo_isBelow_26 (by decide) ?_
      exact J_27 s_2 0 H locs h hP hD hS ls (lv_sub hl [] rfl)
    · skip
      have h := h.2 c19
      exact J_22 s_2 H locs h hP hD hS ls (lv_sub hl [] rfl)
theorem q3007 : Cond.fieldLinkNest "ClassWorksModel" 927 "ClassWorksModel$Run" "frameMethods" "[I" "ClassWorksModel" ∈ lw_nest := lw_nestmem (List.mem_of_getElem? (i := 3007) (by decide +kernel)) rfl
theorem q3009 : Cond.fieldLinkNest "ClassWorksModel" 930 "ClassWorksModel$Run" "places" "[I" "ClassWorksModel" ∈ lw_nest := lw_nestmem (List.mem_of_getElem? (i := 3009) (by decide +kernel)) rfl
theorem q3899 : Cond.methodLink "ClassWorksModel" 960 y_Mo_classOfRef ∈ lw_ok := lw_okmem (List.mem_of_getElem? (i := 3899) (by decide +kernel)) rfl
theorem q3902 : Cond.code y_Mo_classOfRef b_Mo_classOfRef 2 (some .int) ∈ lw_ok := lw_okmem (List.mem_of_getElem? (i := 3902) (by decide +kernel)) rfl
theorem q3901 : Cond.instanceMethod y_Mo_classOfRef ∈ lw_ok := lw_okmem (List.mem_of_getElem? (i := 3901) (by decide +kernel)) rfl
theorem q264 : Cond.selects y_Mo_classOfRef.cls y_Mo_classOfRef y_Mo_classOfRef ∈ lw_ok := lw_okmem (List.mem_of_getElem? (i := 264) (by decide +kernel)) rfl
theorem w9_Mo_classOfRef : CWv y_Mo_classOfRef b_Mo_classOfRef 2 (some .int) 1 ∧ Cond.instanceMethod y_Mo_classOfRef ∈ lw_ok ∧ Cond.selects y_Mo_classOfRef.cls y_Mo_classOfRef y_Mo_classOfRef ∈ lw_ok := ⟨⟨q3902, q348, by decide +kernel, by decide +kernel, by decide +kernel⟩, q3901, q264⟩
theorem q3903 : Cond.methodLink "ClassWorksModel" 963 y_Mo_isBelow ∈ lw_ok := lw_okmem (List.mem_of_getElem? (i := 3903) (by decide +kernel)) rfl
theorem q3906 : Cond.code y_Mo_isBelow b_Mo_isBelow 3 (some (.boolean)) ∈ lw_ok := lw_okmem (List.mem_of_getElem? (i := 3906) (by decide +kernel)) rfl
theorem q3905 : Cond.instanceMethod y_Mo_isBelow ∈ lw_ok := lw_okmem (List.mem_of_getElem? (i := 3905) (by decide +kernel)) rfl
theorem q265 : Cond.selects y_Mo_isBelow.cls y_Mo_isBelow y_Mo_isBelow ∈ lw_ok := lw_okmem (List.mem_of_getElem? (i := 265) (by decide +kernel)) rfl
theorem w9_Mo_isBelow : CWv y_Mo_isBelow b_Mo_isBelow 3 (some (.boolean)) 2 ∧ Cond.instanceMethod y_Mo_isBelow ∈ lw_ok ∧ Cond.selects y_Mo_isBelow.cls y_Mo_isBelow y_Mo_isBelow ∈ lw_ok := ⟨⟨q3906, q348, by decide +kernel, by decide +kernel, by decide +kernel⟩, q3905, q265⟩
def y_Mo_handlerOf : MethodName := ⟨"ClassWorksModel", "handlerOf", "(II)I"⟩
abbrev b_Mo_handlerOf : ByteArray := prog_14_method_99_code
theorem d_Mo_handlerOf_0 : decode b_Mo_handlerOf 0 = .ok (.aload_n 0, 1) := by decide +kernel
theorem d_Mo_handlerOf_1 : decode b_Mo_handlerOf 1 = .ok (.getfield 917, 3) := by decide +kernel
theorem d_Mo_handlerOf_4 : decode b_Mo_handlerOf 4 = .ok (.getfield 927, 3) := by decide +kernel
theorem d_Mo_handlerOf_7 : decode b_Mo_handlerOf 7 = .ok (.iload_n 1, 1) := by decide +kernel
theorem d_Mo_handlerOf_8 : decode b_Mo_handlerOf 8 = .ok (.iaload, 1) := by decide +kernel
theorem d_Mo_handlerOf_9 : decode b_Mo_handlerOf 9 = .ok (.istore_n 3, 1) := by decide +kernel
theorem d_Mo_handlerOf_10 : decode b_Mo_handlerOf 10 = .ok (.aload_n 0, 1) := by decide +kernel
theorem d_Mo_handlerOf_11 : decode b_Mo_handlerOf 11 = .ok (.getfield 917, 3) := by decide +kernel
theorem d_Mo_handlerOf_14 : decode b_Mo_handlerOf 14 = .ok (.getfield 930, 3) := by decide +kernel
theorem d_Mo_handlerOf_17 : decode b_Mo_handlerOf 17 = .ok (.iload_n 1, 1) := by decide +kernel
theorem d_Mo_handlerOf_18 : decode b_Mo_handlerOf 18 = .ok (.iaload, 1) := by decide +kernel
theorem d_Mo_handlerOf_19 : decode b_Mo_handlerOf 19 = .ok (.istore 4, 2) := by decide +kernel
theorem d_Mo_handlerOf_21 : decode b_Mo_handlerOf 21 = .ok (.bipush 8, 2) := by decide +kernel
theorem d_Mo_handlerOf_23 : decode b_Mo_handlerOf 23 = .ok (.iload_n 3, 1) := by decide +kernel
theorem d_Mo_handlerOf_24 : decode b_Mo_handlerOf 24 = .ok (.imul, 1) := by decide +kernel
theorem d_Mo_handlerOf_25 : decode b_Mo_handlerOf 25 = .ok (.istore 5, 2) := by decide +kernel
theorem d_Mo_handlerOf_27 : decode b_Mo_handlerOf 27 = .ok (.iload 5, 2) := by decide +kernel
theorem d_Mo_handlerOf_29 : decode b_Mo_handlerOf 29 = .ok (.bipush 8, 2) := by decide +kernel
theorem d_Mo_handlerOf_31 : decode b_Mo_handlerOf 31 = .ok (.iload_n 3, 1) := by decide +kernel
theorem d_Mo_handlerOf_32 : decode b_Mo_handlerOf 32 = .ok (.imul, 1) := by decide +kernel
theorem d_Mo_handlerOf_33 : decode b_Mo_handlerOf 33 = .ok (.aload_n 0, 1) := by decide +kernel
theorem d_Mo_handlerOf_34 : decode b_Mo_handlerOf 34 = .ok (.getfield 522, 3) := by decide +kernel
theorem d_Mo_handlerOf_37 : decode b_Mo_handlerOf 37 = .ok (.getfield 468, 3) := by decide +kernel
theorem d_Mo_handlerOf_40 : decode b_Mo_handlerOf 40 = .ok (.iload_n 3, 1) := by decide +kernel
theorem d_Mo_handlerOf_41 : decode b_Mo_handlerOf 41 = .ok (.iaload, 1) := by decide +kernel
theorem d_Mo_handlerOf_42 : decode b_Mo_handlerOf 42 = .ok (.iadd, 1) := by decide +kernel
theorem d_Mo_handlerOf_43 : decode b_Mo_handlerOf 43 = .ok (.if_icmp .ge 108, 3) := by decide +kernel
theorem d_Mo_handlerOf_46 : decode b_Mo_handlerOf 46 = .ok (.iload 4, 2) := by decide +kernel
theorem d_Mo_handlerOf_48 : decode b_Mo_handlerOf 48 = .ok (.aload_n 0, 1) := by decide +kernel
theorem d_Mo_handlerOf_49 : decode b_Mo_handlerOf 49 = .ok (.getfield 522, 3) := by decide +kernel
theorem d_Mo_handlerOf_52 : decode b_Mo_handlerOf 52 = .ok (.getfield 713, 3) := by decide +kernel
theorem d_Mo_handlerOf_55 : decode b_Mo_handlerOf 55 = .ok (.iload 5, 2) := by decide +kernel
theorem d_Mo_handlerOf_57 : decode b_Mo_handlerOf 57 = .ok (.iaload, 1) := by decide +kernel
theorem d_Mo_handlerOf_58 : decode b_Mo_handlerOf 58 = .ok (.if_icmp .lt 87, 3) := by decide +kernel
theorem d_Mo_handlerOf_61 : decode b_Mo_handlerOf 61 = .ok (.iload 4, 2) := by decide +kernel
theorem d_Mo_handlerOf_63 : decode b_Mo_handlerOf 63 = .ok (.aload_n 0, 1) := by decide +kernel
theorem d_Mo_handlerOf_64 : decode b_Mo_handlerOf 64 = .ok (.getfield 522, 3) := by decide +kernel
theorem d_Mo_handlerOf_67 : decode b_Mo_handlerOf 67 = .ok (.getfield 716, 3) := by decide +kernel
theorem d_Mo_handlerOf_70 : decode b_Mo_handlerOf 70 = .ok (.iload 5, 2) := by decide +kernel
theorem d_Mo_handlerOf_72 : decode b_Mo_handlerOf 72 = .ok (.iaload, 1) := by decide +kernel
theorem d_Mo_handlerOf_73 : decode b_Mo_handlerOf 73 = .ok (.if_icmp .ge 72, 3) := by decide +kernel
theorem d_Mo_handlerOf_76 : decode b_Mo_handlerOf 76 = .ok (.aload_n 0, 1) := by decide +kernel
theorem d_Mo_handlerOf_77 : decode b_Mo_handlerOf 77 = .ok (.getfield 522, 3) := by decide +kernel
theorem d_Mo_handlerOf_80 : decode b_Mo_handlerOf 80 = .ok (.getfield 722, 3) := by decide +kernel
theorem d_Mo_handlerOf_83 : decode b_Mo_handlerOf 83 = .ok (.iload 5, 2) := by decide +kernel
theorem d_Mo_handlerOf_85 : decode b_Mo_handlerOf 85 = .ok (.iaload, 1) := by decide +kernel
theorem d_Mo_handlerOf_86 : decode b_Mo_handlerOf 86 = .ok (.ifCond .ge 8, 3) := by decide +kernel
theorem d_Mo_handlerOf_89 : decode b_Mo_handlerOf 89 = .ok (.bipush (-2), 2) := by decide +kernel
theorem d_Mo_handlerOf_91 : decode b_Mo_handlerOf 91 = .ok (.goto 17, 3) := by decide +kernel
theorem d_Mo_handlerOf_94 : decode b_Mo_handlerOf 94 = .ok (.aload_n 0, 1) := by decide +kernel
theorem d_Mo_handlerOf_95 : decode b_Mo_handlerOf 95 = .ok (.aload_n 0, 1) := by decide +kernel
theorem d_Mo_handlerOf_96 : decode b_Mo_handlerOf 96 = .ok (.getfield 522, 3) := by decide +kernel
theorem d_Mo_handlerOf_99 : decode b_Mo_handlerOf 99 = .ok (.getfield 722, 3) := by decide +kernel
theorem d_Mo_handlerOf_102 : decode b_Mo_handlerOf 102 = .ok (.iload 5, 2) := by decide +kernel
theorem d_Mo_handlerOf_104 : decode b_Mo_handlerOf 104 = .ok (.iaload, 1) := by decide +kernel
theorem d_Mo_handlerOf_105 : decode b_Mo_handlerOf 105 = .ok (.invokevirtual 601, 3) := by decide +kernel
theorem d_Mo_handlerOf_108 : decode b_Mo_handlerOf 108 = .ok (.istore 6, 2) := by decide +kernel
theorem d_Mo_handlerOf_110 : decode b_Mo_handlerOf 110 = .ok (.aload_n 0, 1) := by decide +kernel
theorem d_Mo_handlerOf_111 : decode b_Mo_handlerOf 111 = .ok (.getfield 522, 3) := by decide +kernel
theorem d_Mo_handlerOf_114 : decode b_Mo_handlerOf 114 = .ok (.getfield 722, 3) := by decide +kernel
theorem d_Mo_handlerOf_117 : decode b_Mo_handlerOf 117 = .ok (.iload 5, 2) := by decide +kernel
theorem d_Mo_handlerOf_119 : decode b_Mo_handlerOf 119 = .ok (.iaload, 1) := by decide +kernel
theorem d_Mo_handlerOf_120 : decode b_Mo_handlerOf 120 = .ok (.ifCond .lt 22, 3) := by decide +kernel
theorem d_Mo_handlerOf_123 : decode b_Mo_handlerOf 123 = .ok (.iload 6, 2) := by decide +kernel
theorem d_Mo_handlerOf_125 : decode b_Mo_handlerOf 125 = .ok (.ifCond .lt 20, 3) := by decide +kernel
theorem d_Mo_handlerOf_128 : decode b_Mo_handlerOf 128 = .ok (.aload_n 0, 1) := by decide +kernel
theorem d_Mo_handlerOf_129 : decode b_Mo_handlerOf 129 = .ok (.aload_n 0, 1) := by decide +kernel
theorem d_Mo_handlerOf_130 : decode b_Mo_handlerOf 130 = .ok (.iload_n 2, 1) := by decide +kernel
theorem d_Mo_handlerOf_131 : decode b_Mo_handlerOf 131 = .ok (.invokevirtual 960, 3) := by decide +kernel
theorem d_Mo_handlerOf_134 : decode b_Mo_handlerOf 134 = .ok (.iload 6, 2) := by decide +kernel
theorem d_Mo_handlerOf_136 : decode b_Mo_handlerOf 136 = .ok (.invokevirtual 963, 3) := by decide +kernel
theorem d_Mo_handlerOf_139 : decode b_Mo_handlerOf 139 = .ok (.ifCond .eq 6, 3) := by decide +kernel
theorem d_Mo_handlerOf_142 : decode b_Mo_handlerOf 142 = .ok (.iload 5, 2) := by decide +kernel
theorem d_Mo_handlerOf_144 : decode b_Mo_handlerOf 144 = .ok (.ireturn, 1) := by decide +kernel
theorem d_Mo_handlerOf_145 : decode b_Mo_handlerOf 145 = .ok (.iinc 5 1, 3) := by decide +kernel
theorem d_Mo_handlerOf_148 : decode b_Mo_handlerOf 148 = .ok (.goto (-121), 3) := by decide +kernel
theorem d_Mo_handlerOf_151 : decode b_Mo_handlerOf 151 = .ok (.bipush (-2), 2) := by decide +kernel
theorem d_Mo_handlerOf_153 : decode b_Mo_handlerOf 153 = .ok (.ireturn, 1) := by decide +kernel
abbrev ru_Mo_handlerOf : Room := { frames := 5, cells := 0, slots := 0, locals := 121 }
def wj_Mo_handlerOf_145 (y : Ly) (Post : St → Int32 → Prop) (K_27 : St → Int32 → Int32 → Int32 → Int32 → Prop) (a0 : Nat) (s_j145 : St) (x2j145 : Int32) (x3j145 : Int32) (x4j145 : Int32) (x5j145 : Int32) : Prop := K_27 s_j145 x2j145 x3j145 x4j145 (x5j145 + 1)
def wj_Mo_handlerOf_142 (y : Ly) (Post : St → Int32 → Prop) (a0 : Nat) (s_j142 : St) (x5j142 : Int32) : Prop := Post s_j142 x5j142
def wj_Mo_handlerOf_108 (y : Ly) (Post : St → Int32 → Prop) (K_27 : St → Int32 → Int32 → Int32 → Int32 → Prop) (a0 : Nat) (s_j108 : St) (x2j108 : Int32) (x3j108 : Int32) (x4j108 : Int32) (x5j108 : Int32) (z0j108 : Int32) : Prop := ∃ b_25 : Nat, sO s_j108 a0 45 = some b_25 ∧ cl b_25 = 13 ∧ xA y s_j108 b_25 29 x5j108 (fun x_28 : Int32 => ((x_28 < 0 → wj_Mo_handlerOf_142 y Post a0 s_j108 x5j108) ∧ (¬ (x_28 < 0) → ((z0j108 < 0 → wj_Mo_handlerOf_145 y Post K_27 a0 s_j108 x2j108 x3j108 x4j108 x5j108) ∧ (¬ (z0j108 < 0) → wu_Mo_classOfRef y (fun (s_30 : St) (r_29 : Int32) => wu_Mo_isBelow y (fun (s_32 : St) (r_31 : Int32) => ((r_31 = 0 → wj_Mo_handlerOf_145 y Post K_27 a0 s_32 x2j108 x3j108 x4j108 x5j108) ∧ (¬ (r_31 = 0) → wj_Mo_handlerOf_142 y Post a0 s_32 x5j108))) s_30 a0 r_29 z0j108) s_j108 a0 x2j108)))))
def wb_Mo_handlerOf_27 (y : Ly) (Post : St → Int32 → Prop) (K_27 : St → Int32 → Int32 → Int32 → Int32 → Prop) (a0 : Nat) (s_h27 : St) (x2h27 : Int32) (x3h27 : Int32) (x4h27 : Int32) (x5h27 : Int32) : Prop := ∃ b_9 : Nat, sO s_h27 a0 45 = some b_9 ∧ cl b_9 = 13 ∧ xA y s_h27 b_9 25 x3h27 (fun x_12 : Int32 => ((((8 * x3h27) + x_12) ≤ x5h27 → Post s_h27 (-2)) ∧ (¬ (((8 * x3h27) + x_12) ≤ x5h27) → ∃ b_13 : Nat, sO s_h27 a0 45 = some b_13 ∧ cl b_13 = 13 ∧ xA y s_h27 b_13 26 x5h27 (fun x_16 : Int32 => ((x4h27 < x_16 → wj_Mo_handlerOf_145 y Post K_27 a0 s_h27 x2h27 x3h27 x4h27 x5h27) ∧ (¬ (x4h27 < x_16) → ∃ b_17 : Nat, sO s_h27 a0 45 = some b_17 ∧ cl b_17 = 13 ∧ xA y s_h27 b_17 27 x5h27 (fun x_20 : Int32 => ((x_20 ≤ x4h27 → wj_Mo_handlerOf_145 y Post K_27 a0 s_h27 x2h27 x3h27 x4h27 x5h27) ∧ (¬ (x_20 ≤ x4h27) → ∃ b_21 : Nat, sO s_h27 a0 45 = some b_21 ∧ cl b_21 = 13 ∧ xA y s_h27 b_21 29 x5h27 (fun x_24 : Int32 => ((0 ≤ x_24 → ∃ b_33 : Nat, sO s_h27 a0 45 = some b_33 ∧ cl b_33 = 13 ∧ xA y s_h27 b_33 29 x5h27 (fun x_36 : Int32 => wu_Mo_classOf y (fun (s_38 : St) (r_37 : Int32) => wj_Mo_handlerOf_108 y Post K_27 a0 s_38 x2h27 x3h27 x4h27 x5h27 r_37) s_h27 a0 x_36)) ∧ (¬ (0 ≤ x_24) → wj_Mo_handlerOf_108 y Post K_27 a0 s_h27 x2h27 x3h27 x4h27 x5h27 (-2)))))))))))))
def wl_Mo_handlerOf_27 (y : Ly) (Post : St → Int32 → Prop) (a0 : Nat) (s_h27 : St) (x2h27 : Int32) (x3h27 : Int32) (x4h27 : Int32) (x5h27 : Int32) : Prop := ∃ (I : St → Int32 → Int32 → Int32 → Int32 → Prop) (μ : St → Int32 → Int32 → Int32 → Int32 → Nat), I s_h27 x2h27 x3h27 x4h27 x5h27 ∧ ∀ (u : St) (t0 : Int32) (t1 : Int32) (t2 : Int32) (t3 : Int32), I u t0 t1 t2 t3 → wb_Mo_handlerOf_27 y Post (fun z t0q t1q t2q t3q => I z t0q t1q t2q t3q ∧ μ z t0q t1q t2q t3q < μ u t0 t1 t2 t3) a0 u t0 t1 t2 t3
def wu_Mo_handlerOf (y : Ly) (Post : St → Int32 → Prop) (σ : St) (a0 : Nat) (v1 : Int32) (v2 : Int32) : Prop := ∃ b_1 : Nat, sO σ a0 46 = some b_1 ∧ cl b_1 = 12 ∧ xA y σ b_1 17 v1 (fun x_4 : Int32 => ∃ b_5 : Nat, sO σ a0 46 = some b_5 ∧ cl b_5 = 12 ∧ xA y σ b_5 18 v1 (fun x_8 : Int32 => wl_Mo_handlerOf_27 y Post a0 σ v2 x_4 x_8 (8 * x_4)))
set_option maxHeartbeats 4000000 in
set_option maxRecDepth 100000 in
theorem cu_Mo_handlerOf (l : Launch) (D : va_G) (g : Nat → ClassId) (ad : Nat → Nat) (y : Ly) (Post : St → Int32 → Prop) (σ : St) (a0 : Nat) (v1 : Int32) (v2 : Int32) (sz : Nat) (h_a0 : cl a0 = 14) (h : wu_Mo_handlerOf y Post σ a0 v1 v2) : Met l y_Mo_handlerOf (mw y_Mo_handlerOf b_Mo_handlerOf 7 (some .int)) ru_Mo_handlerOf (PC g D [] [.ref (ad a0), .int v1, .int v2] sz (ws g ad y σ)) (va_Qi (fun (r : Int32) (u : St) => Post u r) (QW D (va_A (ws g ad y σ) sz) (fun u => ws g ad y u)) (va_A (ws g ad y σ) sz)) 0 0 (va_A (ws g ad y σ) sz) := by
  refine ofI (by decide +kernel) (Nat.le_of_ble_eq_true rfl) ?_
  intro p e s m args below meth c A Q ls H locs G hsz hP hD hS hl hret
  subst hsz
  have hl : lv_has ls 7 [(0, .ref (ad a0)), (1, .int v1), (2, .int v2)] := hl
  unfold wu_Mo_handlerOf at h
  refine lv_aload_n G.1 G.2.1 d_Mo_handlerOf_0 rfl (lv_at hl 0 rfl) ?_
  obtain ⟨b_1, e_2, c_3, h⟩ := h
  refine ugf (v := .ref (ad b_1)) G hP h_a0 iMo rfl 46 (by decide) rfl q3110 rfl (by show va_rf ((sO σ a0 46).map ad) = _; rw [e_2]; rfl) d_Mo_handlerOf_1 ?_
  refine ugfN (v := .ref (yP y b_1 17)) G hP c_3 iMr rfl 17 (by decide) rfl q3007 rfl rfl d_Mo_handlerOf_4 ?_
  refine lv_iload_n G.1 G.2.1 d_Mo_handlerOf_7 rfl (lv_at hl 1 rfl) ?_
  refine uiald G hP (kdp c_3 rfl) (typ c_3 rfl) h d_Mo_handlerOf_8 (fun x_4 h => ?_)
  refine lv_istore_n (lv' := [(3, .int x_4), (0, .ref (ad a0)), (1, .int v1), (2, .int v2)]) G.1 G.2.1 d_Mo_handlerOf_9 rfl hl (by decide) rfl (fun ls hl => ?_)
  refine lv_aload_n G.1 G.2.1 d_Mo_handlerOf_10 rfl (lv_at hl 1 rfl) ?_
  obtain ⟨b_5, e_6, c_7, h⟩ := h
  refine ugf (v := .ref (ad b_5)) G hP h_a0 iMo rfl 46 (by decide) rfl q3110 rfl (by show va_rf ((sO σ a0 46).map ad) = _; rw [e_6]; rfl) d_Mo_handlerOf_11 ?_
  refine ugfN (v := .ref (yP y b_5 18)) G hP c_7 iMr rfl 18 (by decide) rfl q3009 rfl rfl d_Mo_handlerOf_14 ?_
  refine lv_iload_n G.1 G.2.1 d_Mo_handlerOf_17 rfl (lv_at hl 2 rfl) ?_
  refine uiald G hP (kdp c_7 rfl) (typ c_7 rfl) h d_Mo_handlerOf_18 (fun x_8 h => ?_)
  refine W.eq (g2 := F0 m 19 ls [.int x_8]) rfl ?_
  refine lv_istore (lv' := [(4, .int x_8), (3, .int x_4), (0, .ref (ad a0)), (1, .int v1), (2, .int v2)]) G.1 G.2.1 d_Mo_handlerOf_19 hl (by decide) rfl (fun ls hl => ?_)
  refine lv_bipush (v := 8) G.1 G.2.1 d_Mo_handlerOf_21 (by decide) ?_
  refine lv_iload_n G.1 G.2.1 d_Mo_handlerOf_23 rfl (lv_at hl 1 rfl) ?_
  refine lv_imul G.1 G.2.1 d_Mo_handlerOf_24 ?_
  refine lv_istore (lv' := [(5, .int (8 * x_4)), (4, .int x_8), (3, .int x_4), (0, .ref (ad a0)), (1, .int v1), (2, .int v2)]) G.1 G.2.1 d_Mo_handlerOf_25 hl (by decide) rfl (fun ls hl => ?_)
  unfold wl_Mo_handlerOf_27 at h
  obtain ⟨I_27, μ_27, hI_27, hB_27⟩ := h
  have L_27 : ∀ (n_27 : Nat) (s_h27 : St) (x2h27 : Int32) (x3h27 : Int32) (x4h27 : Int32) (x5h27 : Int32), μ_27 s_h27 x2h27 x3h27 x4h27 x5h27 < n_27 → I_27 s_h27 x2h27 x3h27 x4h27 x5h27 → ∀ (H : Heap) (locs : List Loc), va_P D CL (ws g ad y s_h27) H → va_D A (ws g ad y s_h27) → va_S A s.heap H locs → ∀ ls, lv_has ls 7 [(0, .ref (ad a0)), (2, .int x2h27), (3, .int x3h27), (4, .int x4h27), (5, .int x5h27)] → W p l e ru_Mo_handlerOf s m args below meth c H locs 0 0 Q (F0 m 27 ls []) := by
    intro n_27
    induction n_27 with
    | zero => intro s_h27 x2h27 x3h27 x4h27 x5h27 hμ; exact absurd hμ (Nat.not_lt_zero _)
    | succ n_27 ih_27 =>
      intro s_h27 x2h27 x3h27 x4h27 x5h27 hμ_27 hJ H locs hP hD hS ls hl
      obtain ⟨K_27, hK_27, h⟩ : ∃ K : St → Int32 → Int32 → Int32 → Int32 → Prop, (∀ z (t0 : Int32) (t1 : Int32) (t2 : Int32) (t3 : Int32), K z t0 t1 t2 t3 → I_27 z t0 t1 t2 t3 ∧ μ_27 z t0 t1 t2 t3 < μ_27 s_h27 x2h27 x3h27 x4h27 x5h27) ∧ wb_Mo_handlerOf_27 y Post K a0 s_h27 x2h27 x3h27 x4h27 x5h27 := ⟨_, fun _ _ _ _ _ h => h, hB_27 s_h27 x2h27 x3h27 x4h27 x5h27 hJ⟩
      unfold wb_Mo_handlerOf_27 at h
      refine lv_iload G.1 G.2.1 d_Mo_handlerOf_27 (lv_at hl 4 rfl) ?_
      refine lv_bipush (v := 8) G.1 G.2.1 d_Mo_handlerOf_29 (by decide) ?_
      refine lv_iload_n G.1 G.2.1 d_Mo_handlerOf_31 rfl (lv_at hl 2 rfl) ?_
      refine lv_imul G.1 G.2.1 d_Mo_handlerOf_32 ?_
      refine lv_aload_n G.1 G.2.1 d_Mo_handlerOf_33 rfl (lv_at hl 0 rfl) ?_
      obtain ⟨b_9, e_10, c_11, h⟩ := h
      refine ugf (v := .ref (ad b_9)) G hP h_a0 iMo rfl 45 (by decide) rfl q3109 rfl (by show va_rf ((sO s_h27 a0 45).map ad) = _; rw [e_10]; rfl) d_Mo_handlerOf_34 ?_
      refine ugfN (v := .ref (yP y b_9 25)) G hP c_11 iMw rfl 25 (by decide) rfl q2754 rfl rfl d_Mo_handlerOf_37 ?_
      refine lv_iload_n G.1 G.2.1 d_Mo_handlerOf_40 rfl (lv_at hl 2 rfl) ?_
      refine uiald G hP (kdp c_11 rfl) (typ c_11 rfl) h d_Mo_handlerOf_41 (fun x_12 h => ?_)
      refine lv_iadd G.1 G.2.1 d_Mo_handlerOf_42 ?_
      refine lv_icmp_ge (tgt := 151) G.1 G.2.1 d_Mo_handlerOf_43 (by decide) (fun c43 => ?_) (fun c43 => ?_)
      · skip
        have h := h.1 c43
        refine W.eq (g2 := F0 m 151 ls []) rfl ?_
        refine lv_bipush (v := (-2)) G.1 G.2.1 d_Mo_handlerOf_151 (by decide) ?_
        exact hret _ _ _ _ _ _ _ ls h hP hD hS (Nat.le_refl _) (Nat.le_refl _) d_Mo_handlerOf_153
      · skip
        have h := h.2 c43
        refine W.eq (g2 := F0 m 46 ls []) rfl ?_
        refine lv_iload G.1 G.2.1 d_Mo_handlerOf_46 (lv_at hl 3 rfl) ?_
        refine lv_aload_n G.1 G.2.1 d_Mo_handlerOf_48 rfl (lv_at hl 0 rfl) ?_
        obtain ⟨b_13, e_14, c_15, h⟩ := h
        refine ugf (v := .ref (ad b_13)) G hP h_a0 iMo rfl 45 (by decide) rfl q3109 rfl (by show va_rf ((sO s_h27 a0 45).map ad) = _; rw [e_14]; rfl) d_Mo_handlerOf_49 ?_
        refine ugfN (v := .ref (yP y b_13 26)) G hP c_15 iMw rfl 26 (by decide) rfl q2756 rfl rfl d_Mo_handlerOf_52 ?_
        refine lv_iload G.1 G.2.1 d_Mo_handlerOf_55 (lv_at hl 4 rfl) ?_
        refine uiald G hP (kdp c_15 rfl) (typ c_15 rfl) h d_Mo_handlerOf_57 (fun x_16 h => ?_)
        have J_145 : ∀ (s_j145 : St) (x2j145 : Int32) (x3j145 : Int32) (x4j145 : Int32) (x5j145 : Int32) (H : Heap) (locs : List Loc), wj_Mo_handlerOf_145 y Post K_27 a0 s_j145 x2j145 x3j145 x4j145 x5j145 → va_P D CL (ws g ad y s_j145) H → va_D A (ws g ad y s_j145) → va_S A s.heap H locs → ∀ ls, lv_has ls 7 [(0, .ref (ad a0)), (2, .int x2j145), (3, .int x3j145), (4, .int x4j145), (5, .int x5j145)] → W p l e ru_Mo_handlerOf s m args below meth c H locs 0 0 Q (F0 m 145 ls []) := by
          intro s_j145 x2j145 x3j145 x4j145 x5j145 H locs h hP hD hS ls hl
          unfold wj_Mo_handlerOf_145 at h
          refine lv_iinc (v := x5j145 + 1) (lv' := [(5, .int (x5j145 + 1)), (0, .ref (ad a0)), (2, .int x2j145), (3, .int x3j145), (4, .int x4j145)]) G.1 G.2.1 d_Mo_handlerOf_145 hl (k := 4) rfl rfl (by decide) rfl (fun ls hl => ?_)
          refine lv_goto (tgt := 27) G.1 G.2.1 d_Mo_handlerOf_148 (by decide) ?_
          have h := hK_27 s_j145 x2j145 x3j145 x4j145 (x5j145 + 1) h
          exact ih_27 s_j145 x2j145 x3j145 x4j145 (x5j145 + 1) (Nat.lt_of_lt_of_le h.2 (Nat.le_of_lt_succ hμ_27)) h.1 H locs hP hD hS ls (lv_sub hl [1, 2, 3, 4, 0] rfl)
        refine lv_icmp_lt (tgt := 145) G.1 G.2.1 d_Mo_handlerOf_58 (by decide) (fun c58 => ?_) (fun c58 => ?_)
        · skip
          have h := h.1 c58
          exact J_145 s_h27 x2h27 x3h27 x4h27 x5h27 H locs h hP hD hS ls (lv_sub hl [0, 1, 2, 3, 4] rfl)
        · skip
          have h := h.2 c58
          refine lv_iload G.1 G.2.1 d_Mo_handlerOf_61 (lv_at hl 3 rfl) ?_
          refine lv_aload_n G.1 G.2.1 d_Mo_handlerOf_63 rfl (lv_at hl 0 rfl) ?_
          obtain ⟨b_17, e_18, c_19, h⟩ := h
          refine ugf (v := .ref (ad b_17)) G hP h_a0 iMo rfl 45 (by decide) rfl q3109 rfl (by show va_rf ((sO s_h27 a0 45).map ad) = _; rw [e_18]; rfl) d_Mo_handlerOf_64 ?_
          refine ugfN (v := .ref (yP y b_17 27)) G hP c_19 iMw rfl 27 (by decide) rfl q2758 rfl rfl d_Mo_handlerOf_67 ?_
          refine lv_iload G.1 G.2.1 d_Mo_handlerOf_70 (lv_at hl 4 rfl) ?_
          refine W.eq (g2 := F0 m 72 ls [.int x5h27, .ref (yP y b_17 27), .int x4h27]) rfl ?_
          refine uiald G hP (kdp c_19 rfl) (typ c_19 rfl) h d_Mo_handlerOf_72 (fun x_20 h => ?_)
          refine lv_icmp_ge (tgt := 145) G.1 G.2.1 d_Mo_handlerOf_73 (by decide) (fun c73 => ?_) (fun c73 => ?_)
          · skip
            have h := h.1 c73
            exact J_145 s_h27 x2h27 x3h27 x4h27 x5h27 H locs h hP hD hS ls (lv_sub hl [0, 1, 2, 3, 4] rfl)
          · skip
            have h := h.2 c73
            refine lv_aload_n G.1 G.2.1 d_Mo_handlerOf_76 rfl (lv_at hl 0 rfl) ?_
            obtain ⟨b_21, e_22, c_23, h⟩ := h
            refine ugf (v := .ref (ad b_21)) G hP h_a0 iMo rfl 45 (by decide) rfl q3109 rfl (by show va_rf ((sO s_h27 a0 45).map ad) = _; rw [e_22]; rfl) d_Mo_handlerOf_77 ?_
            refine ugfN (v := .ref (yP y b_21 29)) G hP c_23 iMw rfl 29 (by decide) rfl q2762 rfl rfl d_Mo_handlerOf_80 ?_
            refine lv_iload G.1 G.2.1 d_Mo_handlerOf_83 (lv_at hl 4 rfl) ?_
            refine uiald G hP (kdp c_23 rfl) (typ c_23 rfl) h d_Mo_handlerOf_85 (fun x_24 h => ?_)
            have J_108 : ∀ (s_j108 : St) (x2j108 : Int32) (x3j108 : Int32) (x4j108 : Int32) (x5j108 : Int32) (z0j108 : Int32) (H : Heap) (locs : List Loc), wj_Mo_handlerOf_108 y Post K_27 a0 s_j108 x2j108 x3j108 x4j108 x5j108 z0j108 → va_P D CL (ws g ad y s_j108) H → va_D A (ws g ad y s_j108) → va_S A s.heap H locs → ∀ ls, lv_has ls 7 [(0, .ref (ad a0)), (2, .int x2j108), (3, .int x3j108), (4, .int x4j108), (5, .int x5j108)] → W p l e ru_Mo_handlerOf s m args below meth c H locs 0 0 Q (F0 m 108 ls [.int z0j108]) := by
              intro s_j108 x2j108 x3j108 x4j108 x5j108 z0j108 H locs h hP hD hS ls hl
              unfold wj_Mo_handlerOf_108 at h
              refine lv_istore (lv' := [(6, .int z0j108), (0, .ref (ad a0)), (2, .int x2j108), (3, .int x3j108), (4, .int x4j108), (5, .int x5j108)]) G.1 G.2.1 d_Mo_handlerOf_108 hl (by decide) rfl (fun ls hl => ?_)
              refine lv_aload_n G.1 G.2.1 d_Mo_handlerOf_110 rfl (lv_at hl 1 rfl) ?_
              obtain ⟨b_25, e_26, c_27, h⟩ := h
              refine ugf (v := .ref (ad b_25)) G hP h_a0 iMo rfl 45 (by decide) rfl q3109 rfl (by show va_rf ((sO s_j108 a0 45).map ad) = _; rw [e_26]; rfl) d_Mo_handlerOf_111 ?_
              refine ugfN (v := .ref (yP y b_25 29)) G hP c_27 iMw rfl 29 (by decide) rfl q2762 rfl rfl d_Mo_handlerOf_114 ?_
              refine lv_iload G.1 G.2.1 d_Mo_handlerOf_117 (lv_at hl 5 rfl) ?_
              refine uiald G hP (kdp c_27 rfl) (typ c_27 rfl) h d_Mo_handlerOf_119 (fun x_28 h => ?_)
              have J_142 : ∀ (s_j142 : St) (x5j142 : Int32) (H : Heap) (locs : List Loc), wj_Mo_handlerOf_142 y Post a0 s_j142 x5j142 → va_P D CL (ws g ad y s_j142) H → va_D A (ws g ad y s_j142) → va_S A s.heap H locs → ∀ ls, lv_has ls 7 [(5, .int x5j142)] → W p l e ru_Mo_handlerOf s m args below meth c H locs 0 0 Q (F0 m 142 ls []) := by
                intro s_j142 x5j142 H locs h hP hD hS ls hl
                unfold wj_Mo_handlerOf_142 at h
                refine lv_iload G.1 G.2.1 d_Mo_handlerOf_142 (lv_at hl 0 rfl) ?_
                exact hret _ _ _ _ _ _ _ ls h hP hD hS (Nat.le_refl _) (Nat.le_refl _) d_Mo_handlerOf_144
              refine lv_if_lt (tgt := 142) G.1 G.2.1 d_Mo_handlerOf_120 (by decide) (fun c120 => ?_) (fun c120 => ?_)
              · skip
                have h := h.1 c120
                exact J_142 s_j108 x5j108 H locs h hP hD hS ls (lv_sub hl [5] rfl)
              · skip
                have h := h.2 c120
                refine lv_iload G.1 G.2.1 d_Mo_handlerOf_123 (lv_at hl 0 rfl) ?_
                refine lv_if_lt (tgt := 145) G.1 G.2.1 d_Mo_handlerOf_125 (by decide) (fun c125 => ?_) (fun c125 => ?_)
                · skip
                  have h := h.1 c125
                  exact J_145 s_j108 x2j108 x3j108 x4j108 x5j108 H locs h hP hD hS ls (lv_sub hl [1, 2, 3, 4, 5] rfl)
                · skip
                  have h := h.2 c125
                  refine lv_aload_n G.1 G.2.1 d_Mo_handlerOf_128 rfl (lv_at hl 1 rfl) ?_
                  refine lv_aload_n G.1 G.2.1 d_Mo_handlerOf_129 rfl (lv_at hl 1 rfl) ?_
                  refine W.eq (g2 := F0 m 130 ls [.ref (ad a0), .ref (ad a0)]) rfl ?_
                  refine lv_iload_n G.1 G.2.1 d_Mo_handlerOf_130 rfl (lv_at hl 2 rfl) ?_
                  refine ucVi (As := [.int x2j108]) (rest := [.ref (ad a0)]) G hP hD hS (cu_Mo_classOfRef l D g ad y _ s_j108 a0 x2j108 H.size h_a0 h) w9_Mo_classOfRef q3899 ⟨Nat.le_of_ble_eq_true rfl, Nat.le_of_ble_eq_true rfl⟩ rfl rfl h_a0 (q := (RMo, TMo, 131)) rfl rfl hl.1 rfl (Nat.le_of_ble_eq_true rfl) rfl ⟨Nat.le_refl _, Nat.le_refl _⟩ d_Mo_handlerOf_131 (fun r_29 s_30 H locs h hP hD hS => ?_)
                  refine lv_iload G.1 G.2.1 d_Mo_handlerOf_134 (lv_at hl 0 rfl) ?_
                  refine ucVi (As := [.int r_29, .int z0j108]) (rest := []) G hP hD hS (cu_Mo_isBelow l D g ad y _ s_30 a0 r_29 z0j108 H.size h_a0 h) w9_Mo_isBelow q3903 ⟨Nat.le_of_ble_eq_true rfl, Nat.le_of_ble_eq_true rfl⟩ rfl rfl h_a0 (q := (RMo, TMo, 131)) rfl rfl hl.1 rfl (Nat.le_of_ble_eq_true rfl) rfl ⟨Nat.le_refl _, Nat.le_refl _⟩ d_Mo_handlerOf_136 (fun r_31 s_32 H locs h hP hD hS => ?_)
                  refine lv_if_eq (tgt := 145) G.1 G.2.1 d_Mo_handlerOf_139 (by decide) (fun c139 => ?_) (fun c139 => ?_)
                  · skip
                    have h := h.1 c139
                    exact J_145 s_32 x2j108 x3j108 x4j108 x5j108 H locs h hP hD hS ls (lv_sub hl [1, 2, 3, 4, 5] rfl)
                  · skip
                    have h := h.2 c139
                    exact J_142 s_32 x5j108 H locs h hP hD hS ls (lv_sub hl [5] rfl)
            refine lv_if_ge (tgt := 94) G.1 G.2.1 d_Mo_handlerOf_86 (by decide) (fun c86 => ?_) (fun c86 => ?_)
            · skip
              have h := h.1 c86
              refine lv_aload_n G.1 G.2.1 d_Mo_handlerOf_94 rfl (lv_at hl 0 rfl) ?_
              refine lv_aload_n G.1 G.2.1 d_Mo_handlerOf_95 rfl (lv_at hl 0 rfl) ?_
              obtain ⟨b_33, e_34, c_35, h⟩ := h
              refine ugf (v := .ref (ad b_33)) G hP h_a0 iMo rfl 45 (by decide) rfl q3109 rfl (by show va_rf ((sO s_h27 a0 45).map ad) = _; rw [e_34]; rfl) d_Mo_handlerOf_96 ?_
              refine ugfN (v := .ref (yP y b_33 29)) G hP c_35 iMw rfl 29 (by decide) rfl q2762 rfl rfl d_Mo_handlerOf_99 ?_
              refine W.eq (g2 := F0 m 102 ls [.ref (yP y b_33 29), .ref (ad a0)]) rfl ?_
              refine lv_iload G.1 G.2.1 d_Mo_handlerOf_102 (lv_at hl 4 rfl) ?_
              refine uiald G hP (kdp c_35 rfl) (typ c_35 rfl) h d_Mo_handlerOf_104 (fun x_36 h => ?_)
              refine ucVi (As := [.int x_36]) (rest := []) G hP hD hS (cu_Mo_classOf l D g ad y _ s_h27 a0 x_36 H.size h_a0 h) w9_Mo_classOf q3571 ⟨Nat.le_of_ble_eq_true rfl, Nat.le_of_ble_eq_true rfl⟩ rfl rfl h_a0 (q := (RMo, TMo, 131)) rfl rfl hl.1 rfl (Nat.le_of_ble_eq_true rfl) rfl ⟨Nat.le_refl _, Nat.le_refl _⟩ d_Mo_handlerOf_105 (fun r_37 s_38 H locs h hP hD hS => ?_)
              exact J_108 s_38 x2h27 x3h27 x4h27 x5h27 r_37 H locs h hP hD hS ls (lv_sub hl [0, 1, 2, 3, 4] rfl)
            · skip
              have h := h.2 c86
              refine lv_bipush (v := (-2)) G.1 G.2.1 d_Mo_handlerOf_89 (by decide) ?_
              refine lv_goto (tgt := 108) G.1 G.2.1 d_Mo_handlerOf_91 (by decide) ?_
              exact J_108 s_h27 x2h27 x3h27 x4h27 x5h27 (-2) H locs h hP hD hS ls (lv_sub hl [0, 1, 2, 3, 4] rfl)
  exact L_27 _ σ v2 x_4 x_8 (8 * x_4) (Nat.lt_succ_self _) hI_27 H locs hP hD hS ls (lv_sub hl [3, 5, 2, 1, 0] rfl)
def y_Mo_push : MethodName := ⟨"ClassWorksModel", "push", "(IIZ)V"⟩
abbrev b_Mo_push : ByteArray := prog_14_method_95_code
theorem q3011 : Cond.fieldLinkNest "ClassWorksModel" 933 "ClassWorksModel$Run" "tops" "[I" "ClassWorksModel" ∈ lw_nest := lw_nestmem (List.mem_of_getElem? (i := 3011) (by decide +kernel)) rfl
theorem q3013 : Cond.fieldLinkNest "ClassWorksModel" 936 "ClassWorksModel$Run" "slots" "[I" "ClassWorksModel" ∈ lw_nest := lw_nestmem (List.mem_of_getElem? (i := 3013) (by decide +kernel)) rfl
theorem q3015 : Cond.fieldLinkNest "ClassWorksModel" 939 "ClassWorksModel$Run" "refers" "[Z" "ClassWorksModel" ∈ lw_nest := lw_nestmem (List.mem_of_getElem? (i := 3015) (by decide +kernel)) rfl
theorem d_Mo_push_0 : decode b_Mo_push 0 = .ok (.bipush 44, 2) := by decide +kernel
theorem d_Mo_push_2 : decode b_Mo_push 2 = .ok (.iload_n 1, 1) := by decide +kernel
theorem d_Mo_push_3 : decode b_Mo_push 3 = .ok (.imul, 1) := by decide +kernel
theorem d_Mo_push_4 : decode b_Mo_push 4 = .ok (.bipush 20, 2) := by decide +kernel
theorem d_Mo_push_6 : decode b_Mo_push 6 = .ok (.iadd, 1) := by decide +kernel
theorem d_Mo_push_7 : decode b_Mo_push 7 = .ok (.aload_n 0, 1) := by decide +kernel
theorem d_Mo_push_8 : decode b_Mo_push 8 = .ok (.getfield 917, 3) := by decide +kernel
theorem d_Mo_push_11 : decode b_Mo_push 11 = .ok (.getfield 933, 3) := by decide +kernel
theorem d_Mo_push_14 : decode b_Mo_push 14 = .ok (.iload_n 1, 1) := by decide +kernel
theorem d_Mo_push_15 : decode b_Mo_push 15 = .ok (.iaload, 1) := by decide +kernel
theorem d_Mo_push_16 : decode b_Mo_push 16 = .ok (.iadd, 1) := by decide +kernel
theorem d_Mo_push_17 : decode b_Mo_push 17 = .ok (.istore 4, 2) := by decide +kernel
theorem d_Mo_push_19 : decode b_Mo_push 19 = .ok (.aload_n 0, 1) := by decide +kernel
theorem d_Mo_push_20 : decode b_Mo_push 20 = .ok (.getfield 917, 3) := by decide +kernel
theorem d_Mo_push_23 : decode b_Mo_push 23 = .ok (.getfield 936, 3) := by decide +kernel
theorem d_Mo_push_26 : decode b_Mo_push 26 = .ok (.iload 4, 2) := by decide +kernel
theorem d_Mo_push_28 : decode b_Mo_push 28 = .ok (.iload_n 2, 1) := by decide +kernel
theorem d_Mo_push_29 : decode b_Mo_push 29 = .ok (.iastore, 1) := by decide +kernel
theorem d_Mo_push_30 : decode b_Mo_push 30 = .ok (.aload_n 0, 1) := by decide +kernel
theorem d_Mo_push_31 : decode b_Mo_push 31 = .ok (.getfield 917, 3) := by decide +kernel
theorem d_Mo_push_34 : decode b_Mo_push 34 = .ok (.getfield 939, 3) := by decide +kernel
theorem d_Mo_push_37 : decode b_Mo_push 37 = .ok (.iload 4, 2) := by decide +kernel
theorem d_Mo_push_39 : decode b_Mo_push 39 = .ok (.iload_n 3, 1) := by decide +kernel
theorem d_Mo_push_40 : decode b_Mo_push 40 = .ok (.bastore, 1) := by decide +kernel
theorem d_Mo_push_41 : decode b_Mo_push 41 = .ok (.aload_n 0, 1) := by decide +kernel
theorem d_Mo_push_42 : decode b_Mo_push 42 = .ok (.getfield 917, 3) := by decide +kernel
theorem d_Mo_push_45 : decode b_Mo_push 45 = .ok (.getfield 933, 3) := by decide +kernel
theorem d_Mo_push_48 : decode b_Mo_push 48 = .ok (.iload_n 1, 1) := by decide +kernel
theorem d_Mo_push_49 : decode b_Mo_push 49 = .ok (.dup2, 1) := by decide +kernel
theorem d_Mo_push_50 : decode b_Mo_push 50 = .ok (.iaload, 1) := by decide +kernel
theorem d_Mo_push_51 : decode b_Mo_push 51 = .ok (.iconst 1, 1) := by decide +kernel
theorem d_Mo_push_52 : decode b_Mo_push 52 = .ok (.iadd, 1) := by decide +kernel
theorem d_Mo_push_53 : decode b_Mo_push 53 = .ok (.iastore, 1) := by decide +kernel
theorem d_Mo_push_54 : decode b_Mo_push 54 = .ok (.return_, 1) := by decide +kernel
abbrev ru_Mo_push : Room := { frames := 0, cells := 0, slots := 0, locals := 0 }
def wu_Mo_push (y : Ly) (Post : St → Prop) (σ : St) (a0 : Nat) (v1 : Int32) (v2 : Int32) (v3 : Int32) : Prop := ∃ b_1 : Nat, sO σ a0 46 = some b_1 ∧ cl b_1 = 12 ∧ xA y σ b_1 19 v1 (fun x_4 : Int32 => ∃ b_5 : Nat, sO σ a0 46 = some b_5 ∧ cl b_5 = 12 ∧ xS y σ b_5 20 (((44 * v1) + 20) + x_4) v2 (fun s_8 : St => ∃ b_9 : Nat, sO s_8 a0 46 = some b_9 ∧ cl b_9 = 12 ∧ xS y s_8 b_9 21 (((44 * v1) + 20) + x_4) (vp_nar .boolean v3) (fun s_12 : St => ∃ b_13 : Nat, sO s_12 a0 46 = some b_13 ∧ cl b_13 = 12 ∧ xA y s_12 b_13 19 v1 (fun x_16 : Int32 => xS y s_12 b_13 19 v1 (x_16 + 1) (fun s_17 : St => Post s_17)))))
set_option maxHeartbeats 4000000 in
set_option maxRecDepth 100000 in
theorem cu_Mo_push (l : Launch) (D : va_G) (g : Nat → ClassId) (ad : Nat → Nat) (y : Ly) (Post : St → Prop) (σ : St) (a0 : Nat) (v1 : Int32) (v2 : Int32) (v3 : Int32) (sz : Nat) (h_a0 : cl a0 = 14) (h : wu_Mo_push y Post σ a0 v1 v2 v3) : Met l y_Mo_push (mw y_Mo_push b_Mo_push 5 (none)) ru_Mo_push (PC g D [] [.ref (ad a0), .int v1, .int v2, .int v3] sz (ws g ad y σ)) (va_Qv (fun u : St => Post u) (QW D (va_A (ws g ad y σ) sz) (fun u => ws g ad y u)) (va_A (ws g ad y σ) sz)) 0 0 (va_A (ws g ad y σ) sz) := by
  refine ofV (by decide +kernel) (Nat.le_of_ble_eq_true rfl) ?_
  intro p e s m args below meth c A Q ls H locs G hsz hP hD hS hl hret
  subst hsz
  have hl : lv_has ls 5 [(0, .ref (ad a0)), (1, .int v1), (2, .int v2), (3, .int v3)] := hl
  unfold wu_Mo_push at h
  refine lv_bipush (v := 44) G.1 G.2.1 d_Mo_push_0 (by decide) ?_
  refine lv_iload_n G.1 G.2.1 d_Mo_push_2 rfl (lv_at hl 1 rfl) ?_
  refine lv_imul G.1 G.2.1 d_Mo_push_3 ?_
  refine lv_bipush (v := 20) G.1 G.2.1 d_Mo_push_4 (by decide) ?_
  refine lv_iadd G.1 G.2.1 d_Mo_push_6 ?_
  refine lv_aload_n G.1 G.2.1 d_Mo_push_7 rfl (lv_at hl 0 rfl) ?_
  obtain ⟨b_1, e_2, c_3, h⟩ := h
  refine ugf (v := .ref (ad b_1)) G hP h_a0 iMo rfl 46 (by decide) rfl q3110 rfl (by show va_rf ((sO σ a0 46).map ad) = _; rw [e_2]; rfl) d_Mo_push_8 ?_
  refine ugfN (v := .ref (yP y b_1 19)) G hP c_3 iMr rfl 19 (by decide) rfl q3011 rfl rfl d_Mo_push_11 ?_
  refine lv_iload_n G.1 G.2.1 d_Mo_push_14 rfl (lv_at hl 1 rfl) ?_
  refine uiald G hP (kdp c_3 rfl) (typ c_3 rfl) h d_Mo_push_15 (fun x_4 h => ?_)
  refine lv_iadd G.1 G.2.1 d_Mo_push_16 ?_
  refine W.eq (g2 := F0 m 17 ls [.int (((44 * v1) + 20) + x_4)]) rfl ?_
  refine lv_istore (lv' := [(4, .int (((44 * v1) + 20) + x_4)), (0, .ref (ad a0)), (1, .int v1), (2, .int v2), (3, .int v3)]) G.1 G.2.1 d_Mo_push_17 hl (by decide) rfl (fun ls hl => ?_)
  refine lv_aload_n G.1 G.2.1 d_Mo_push_19 rfl (lv_at hl 1 rfl) ?_
  obtain ⟨b_5, e_6, c_7, h⟩ := h
  refine ugf (v := .ref (ad b_5)) G hP h_a0 iMo rfl 46 (by decide) rfl q3110 rfl (by show va_rf ((sO σ a0 46).map ad) = _; rw [e_6]; rfl) d_Mo_push_20 ?_
  refine ugfN (v := .ref (yP y b_5 20)) G hP c_7 iMr rfl 20 (by decide) rfl q3013 rfl rfl d_Mo_push_23 ?_
  refine lv_iload G.1 G.2.1 d_Mo_push_26 (lv_at hl 0 rfl) ?_
  refine lv_iload_n G.1 G.2.1 d_Mo_push_28 rfl (lv_at hl 3 rfl) ?_
  refine uiast G hP hD hS (kdp c_7 rfl) (typ c_7 rfl) h d_Mo_push_29 (fun s_8 H locs h hP hD hS => ?_)
  refine lv_aload_n G.1 G.2.1 d_Mo_push_30 rfl (lv_at hl 1 rfl) ?_
  obtain ⟨b_9, e_10, c_11, h⟩ := h
  refine ugf (v := .ref (ad b_9)) G hP h_a0 iMo rfl 46 (by decide) rfl q3110 rfl (by show va_rf ((sO s_8 a0 46).map ad) = _; rw [e_10]; rfl) d_Mo_push_31 ?_
  refine ugfN (v := .ref (yP y b_9 21)) G hP c_11 iMr rfl 21 (by decide) rfl q3015 rfl rfl d_Mo_push_34 ?_
  refine lv_iload G.1 G.2.1 d_Mo_push_37 (lv_at hl 0 rfl) ?_
  refine lv_iload_n G.1 G.2.1 d_Mo_push_39 rfl (lv_at hl 4 rfl) ?_
  refine W.eq (g2 := F0 m 40 ls [.int v3, .int (((44 * v1) + 20) + x_4), .ref (yP y b_9 21)]) rfl ?_
  refine uzast G hP hD hS (kdp c_11 rfl) (typ c_11 rfl) h d_Mo_push_40 (fun s_12 H locs h hP hD hS => ?_)
  refine lv_aload_n G.1 G.2.1 d_Mo_push_41 rfl (lv_at hl 1 rfl) ?_
  obtain ⟨b_13, e_14, c_15, h⟩ := h
  refine ugf (v := .ref (ad b_13)) G hP h_a0 iMo rfl 46 (by decide) rfl q3110 rfl (by show va_rf ((sO s_12 a0 46).map ad) = _; rw [e_14]; rfl) d_Mo_push_42 ?_
  refine ugfN (v := .ref (yP y b_13 19)) G hP c_15 iMr rfl 19 (by decide) rfl q3011 rfl rfl d_Mo_push_45 ?_
  refine lv_iload_n G.1 G.2.1 d_Mo_push_48 rfl (lv_at hl 2 rfl) ?_
  refine lv_dup2_11 G.1 G.2.1 d_Mo_push_49 rfl rfl ?_
  refine uiald G hP (kdp c_15 rfl) (typ c_15 rfl) h d_Mo_push_50 (fun x_16 h => ?_)
  refine lv_iconst (v := 1) G.1 G.2.1 d_Mo_push_51 (by decide) ?_
  refine lv_iadd G.1 G.2.1 d_Mo_push_52 ?_
  refine uiast G hP hD hS (kdp c_15 rfl) (typ c_15 rfl) h d_Mo_push_53 (fun s_17 H locs h hP hD hS => ?_)
  exact hret _ _ _ _ _ _ ls h hP hD hS (Nat.le_refl _) (Nat.le_refl _) d_Mo_push_54
theorem q3002 : Cond.fieldLinkNest "ClassWorksModel" 942 "ClassWorksModel$Run" "units" "[I" "ClassWorksModel" ∈ lw_nest := lw_nestmem (List.mem_of_getElem? (i := 3002) (by decide +kernel)) rfl
theorem q3004 : Cond.fieldLinkNest "ClassWorksModel" 948 "ClassWorksModel$Run" "unitPhases" "[I" "ClassWorksModel" ∈ lw_nest := lw_nestmem (List.mem_of_getElem? (i := 3004) (by decide +kernel)) rfl
theorem q3879 : Cond.methodLink "ClassWorksModel" 951 y_Mo_note ∈ lw_ok := lw_okmem (List.mem_of_getElem? (i := 3879) (by decide +kernel)) rfl
theorem q3882 : Cond.code y_Mo_note b_Mo_note 4 (none) ∈ lw_ok := lw_okmem (List.mem_of_getElem? (i := 3882) (by decide +kernel)) rfl
theorem q3881 : Cond.instanceMethod y_Mo_note ∈ lw_ok := lw_okmem (List.mem_of_getElem? (i := 3881) (by decide +kernel)) rfl
theorem q259 : Cond.selects y_Mo_note.cls y_Mo_note y_Mo_note ∈ lw_ok := lw_okmem (List.mem_of_getElem? (i := 259) (by decide +kernel)) rfl
theorem w9_Mo_note : CWv y_Mo_note b_Mo_note 4 (none) 2 ∧ Cond.instanceMethod y_Mo_note ∈ lw_ok ∧ Cond.selects y_Mo_note.cls y_Mo_note y_Mo_note ∈ lw_ok := ⟨⟨q3882, q348, by decide +kernel, by decide +kernel, by decide +kernel⟩, q3881, q259⟩
def y_Mo_newFrame : MethodName := ⟨"ClassWorksModel", "newFrame", "(I)V"⟩
abbrev b_Mo_newFrame : ByteArray := prog_14_method_94_code
theorem d_Mo_newFrame_0 : decode b_Mo_newFrame 0 = .ok (.aload_n 0, 1) := by decide +kernel
theorem d_Mo_newFrame_1 : decode b_Mo_newFrame 1 = .ok (.getfield 917, 3) := by decide +kernel
theorem d_Mo_newFrame_4 : decode b_Mo_newFrame 4 = .ok (.getfield 924, 3) := by decide +kernel
theorem d_Mo_newFrame_7 : decode b_Mo_newFrame 7 = .ok (.istore_n 2, 1) := by decide +kernel
theorem d_Mo_newFrame_8 : decode b_Mo_newFrame 8 = .ok (.aload_n 0, 1) := by decide +kernel
theorem d_Mo_newFrame_9 : decode b_Mo_newFrame 9 = .ok (.getfield 917, 3) := by decide +kernel
theorem d_Mo_newFrame_12 : decode b_Mo_newFrame 12 = .ok (.getfield 927, 3) := by decide +kernel
theorem d_Mo_newFrame_15 : decode b_Mo_newFrame 15 = .ok (.iload_n 2, 1) := by decide +kernel
theorem d_Mo_newFrame_16 : decode b_Mo_newFrame 16 = .ok (.iload_n 1, 1) := by decide +kernel
theorem d_Mo_newFrame_17 : decode b_Mo_newFrame 17 = .ok (.iastore, 1) := by decide +kernel
theorem d_Mo_newFrame_18 : decode b_Mo_newFrame 18 = .ok (.aload_n 0, 1) := by decide +kernel
theorem d_Mo_newFrame_19 : decode b_Mo_newFrame 19 = .ok (.getfield 917, 3) := by decide +kernel
theorem d_Mo_newFrame_22 : decode b_Mo_newFrame 22 = .ok (.getfield 930, 3) := by decide +kernel
theorem d_Mo_newFrame_25 : decode b_Mo_newFrame 25 = .ok (.iload_n 2, 1) := by decide +kernel
theorem d_Mo_newFrame_26 : decode b_Mo_newFrame 26 = .ok (.iconst 0, 1) := by decide +kernel
theorem d_Mo_newFrame_27 : decode b_Mo_newFrame 27 = .ok (.iastore, 1) := by decide +kernel
theorem d_Mo_newFrame_28 : decode b_Mo_newFrame 28 = .ok (.aload_n 0, 1) := by decide +kernel
theorem d_Mo_newFrame_29 : decode b_Mo_newFrame 29 = .ok (.getfield 917, 3) := by decide +kernel
theorem d_Mo_newFrame_32 : decode b_Mo_newFrame 32 = .ok (.getfield 933, 3) := by decide +kernel
theorem d_Mo_newFrame_35 : decode b_Mo_newFrame 35 = .ok (.iload_n 2, 1) := by decide +kernel
theorem d_Mo_newFrame_36 : decode b_Mo_newFrame 36 = .ok (.iconst 0, 1) := by decide +kernel
theorem d_Mo_newFrame_37 : decode b_Mo_newFrame 37 = .ok (.iastore, 1) := by decide +kernel
theorem d_Mo_newFrame_38 : decode b_Mo_newFrame 38 = .ok (.iconst 0, 1) := by decide +kernel
theorem d_Mo_newFrame_39 : decode b_Mo_newFrame 39 = .ok (.istore_n 3, 1) := by decide +kernel
theorem d_Mo_newFrame_40 : decode b_Mo_newFrame 40 = .ok (.iload_n 3, 1) := by decide +kernel
theorem d_Mo_newFrame_41 : decode b_Mo_newFrame 41 = .ok (.bipush 20, 2) := by decide +kernel
theorem d_Mo_newFrame_43 : decode b_Mo_newFrame 43 = .ok (.if_icmp .ge 39, 3) := by decide +kernel
theorem d_Mo_newFrame_46 : decode b_Mo_newFrame 46 = .ok (.aload_n 0, 1) := by decide +kernel
theorem d_Mo_newFrame_47 : decode b_Mo_newFrame 47 = .ok (.getfield 917, 3) := by decide +kernel
theorem d_Mo_newFrame_50 : decode b_Mo_newFrame 50 = .ok (.getfield 936, 3) := by decide +kernel
theorem d_Mo_newFrame_53 : decode b_Mo_newFrame 53 = .ok (.bipush 44, 2) := by decide +kernel
theorem d_Mo_newFrame_55 : decode b_Mo_newFrame 55 = .ok (.iload_n 2, 1) := by decide +kernel
theorem d_Mo_newFrame_56 : decode b_Mo_newFrame 56 = .ok (.imul, 1) := by decide +kernel
theorem d_Mo_newFrame_57 : decode b_Mo_newFrame 57 = .ok (.iload_n 3, 1) := by decide +kernel
theorem d_Mo_newFrame_58 : decode b_Mo_newFrame 58 = .ok (.iadd, 1) := by decide +kernel
theorem d_Mo_newFrame_59 : decode b_Mo_newFrame 59 = .ok (.iconst 0, 1) := by decide +kernel
theorem d_Mo_newFrame_60 : decode b_Mo_newFrame 60 = .ok (.iastore, 1) := by decide +kernel
theorem d_Mo_newFrame_61 : decode b_Mo_newFrame 61 = .ok (.aload_n 0, 1) := by decide +kernel
theorem d_Mo_newFrame_62 : decode b_Mo_newFrame 62 = .ok (.getfield 917, 3) := by decide +kernel
theorem d_Mo_newFrame_65 : decode b_Mo_newFrame 65 = .ok (.getfield 939, 3) := by decide +kernel
theorem d_Mo_newFrame_68 : decode b_Mo_newFrame 68 = .ok (.bipush 44, 2) := by decide +kernel
theorem d_Mo_newFrame_70 : decode b_Mo_newFrame 70 = .ok (.iload_n 2, 1) := by decide +kernel
theorem d_Mo_newFrame_71 : decode b_Mo_newFrame 71 = .ok (.imul, 1) := by decide +kernel
theorem d_Mo_newFrame_72 : decode b_Mo_newFrame 72 = .ok (.iload_n 3, 1) := by decide +kernel
theorem d_Mo_newFrame_73 : decode b_Mo_newFrame 73 = .ok (.iadd, 1) := by decide +kernel
theorem d_Mo_newFrame_74 : decode b_Mo_newFrame 74 = .ok (.iconst 0, 1) := by decide +kernel
theorem d_Mo_newFrame_75 : decode b_Mo_newFrame 75 = .ok (.bastore, 1) := by decide +kernel
theorem d_Mo_newFrame_76 : decode b_Mo_newFrame 76 = .ok (.iinc 3 1, 3) := by decide +kernel
theorem d_Mo_newFrame_79 : decode b_Mo_newFrame 79 = .ok (.goto (-39), 3) := by decide +kernel
theorem d_Mo_newFrame_82 : decode b_Mo_newFrame 82 = .ok (.aload_n 0, 1) := by decide +kernel
theorem d_Mo_newFrame_83 : decode b_Mo_newFrame 83 = .ok (.getfield 917, 3) := by decide +kernel
theorem d_Mo_newFrame_86 : decode b_Mo_newFrame 86 = .ok (.dup, 1) := by decide +kernel
theorem d_Mo_newFrame_87 : decode b_Mo_newFrame 87 = .ok (.getfield 924, 3) := by decide +kernel
theorem d_Mo_newFrame_90 : decode b_Mo_newFrame 90 = .ok (.iconst 1, 1) := by decide +kernel
theorem d_Mo_newFrame_91 : decode b_Mo_newFrame 91 = .ok (.iadd, 1) := by decide +kernel
theorem d_Mo_newFrame_92 : decode b_Mo_newFrame 92 = .ok (.putfield 924, 3) := by decide +kernel
theorem d_Mo_newFrame_95 : decode b_Mo_newFrame 95 = .ok (.aload_n 0, 1) := by decide +kernel
theorem d_Mo_newFrame_96 : decode b_Mo_newFrame 96 = .ok (.getfield 917, 3) := by decide +kernel
theorem d_Mo_newFrame_99 : decode b_Mo_newFrame 99 = .ok (.getfield 942, 3) := by decide +kernel
theorem d_Mo_newFrame_102 : decode b_Mo_newFrame 102 = .ok (.aload_n 0, 1) := by decide +kernel
theorem d_Mo_newFrame_103 : decode b_Mo_newFrame 103 = .ok (.getfield 917, 3) := by decide +kernel
theorem d_Mo_newFrame_106 : decode b_Mo_newFrame 106 = .ok (.getfield 945, 3) := by decide +kernel
theorem d_Mo_newFrame_109 : decode b_Mo_newFrame 109 = .ok (.iload_n 2, 1) := by decide +kernel
theorem d_Mo_newFrame_110 : decode b_Mo_newFrame 110 = .ok (.iastore, 1) := by decide +kernel
theorem d_Mo_newFrame_111 : decode b_Mo_newFrame 111 = .ok (.aload_n 0, 1) := by decide +kernel
theorem d_Mo_newFrame_112 : decode b_Mo_newFrame 112 = .ok (.getfield 917, 3) := by decide +kernel
theorem d_Mo_newFrame_115 : decode b_Mo_newFrame 115 = .ok (.getfield 948, 3) := by decide +kernel
theorem d_Mo_newFrame_118 : decode b_Mo_newFrame 118 = .ok (.aload_n 0, 1) := by decide +kernel
theorem d_Mo_newFrame_119 : decode b_Mo_newFrame 119 = .ok (.getfield 917, 3) := by decide +kernel
theorem d_Mo_newFrame_122 : decode b_Mo_newFrame 122 = .ok (.getfield 945, 3) := by decide +kernel
theorem d_Mo_newFrame_125 : decode b_Mo_newFrame 125 = .ok (.iconst 0, 1) := by decide +kernel
theorem d_Mo_newFrame_126 : decode b_Mo_newFrame 126 = .ok (.iastore, 1) := by decide +kernel
theorem d_Mo_newFrame_127 : decode b_Mo_newFrame 127 = .ok (.aload_n 0, 1) := by decide +kernel
theorem d_Mo_newFrame_128 : decode b_Mo_newFrame 128 = .ok (.getfield 917, 3) := by decide +kernel
theorem d_Mo_newFrame_131 : decode b_Mo_newFrame 131 = .ok (.dup, 1) := by decide +kernel
theorem d_Mo_newFrame_132 : decode b_Mo_newFrame 132 = .ok (.getfield 945, 3) := by decide +kernel
theorem d_Mo_newFrame_135 : decode b_Mo_newFrame 135 = .ok (.iconst 1, 1) := by decide +kernel
theorem d_Mo_newFrame_136 : decode b_Mo_newFrame 136 = .ok (.iadd, 1) := by decide +kernel
theorem d_Mo_newFrame_137 : decode b_Mo_newFrame 137 = .ok (.putfield 945, 3) := by decide +kernel
theorem d_Mo_newFrame_140 : decode b_Mo_newFrame 140 = .ok (.aload_n 0, 1) := by decide +kernel
theorem d_Mo_newFrame_141 : decode b_Mo_newFrame 141 = .ok (.iconst 1, 1) := by decide +kernel
theorem d_Mo_newFrame_142 : decode b_Mo_newFrame 142 = .ok (.iload_n 1, 1) := by decide +kernel
theorem d_Mo_newFrame_143 : decode b_Mo_newFrame 143 = .ok (.invokevirtual 951, 3) := by decide +kernel
theorem d_Mo_newFrame_146 : decode b_Mo_newFrame 146 = .ok (.return_, 1) := by decide +kernel
abbrev ru_Mo_newFrame : Room := { frames := 1, cells := 0, slots := 0, locals := 23 }
def wb_Mo_newFrame_40 (y : Ly) (Post : St → Prop) (K_40 : St → Int32 → Int32 → Int32 → Prop) (a0 : Nat) (s_h40 : St) (x1h40 : Int32) (x2h40 : Int32) (x3h40 : Int32) : Prop := ((20 ≤ x3h40 → ∃ b_16 : Nat, sO s_h40 a0 46 = some b_16 ∧ cl b_16 = 12 ∧ xP (uV s_h40 b_16 22 ((sV s_h40 b_16 22) + 1)) (fun s_19 : St => ∃ b_20 : Nat, sO s_19 a0 46 = some b_20 ∧ cl b_20 = 12 ∧ ∃ b_23 : Nat, sO s_19 a0 46 = some b_23 ∧ cl b_23 = 12 ∧ xS y s_19 b_20 14 (sV s_19 b_23 16) x2h40 (fun s_26 : St => ∃ b_27 : Nat, sO s_26 a0 46 = some b_27 ∧ cl b_27 = 12 ∧ ∃ b_30 : Nat, sO s_26 a0 46 = some b_30 ∧ cl b_30 = 12 ∧ xS y s_26 b_27 15 (sV s_26 b_30 16) 0 (fun s_33 : St => ∃ b_34 : Nat, sO s_33 a0 46 = some b_34 ∧ cl b_34 = 12 ∧ xP (uV s_33 b_34 16 ((sV s_33 b_34 16) + 1)) (fun s_37 : St => wu_Mo_note y (fun (s_39 : St) => Post s_39) s_37 a0 1 x1h40))))) ∧ (¬ (20 ≤ x3h40) → ∃ b_40 : Nat, sO s_h40 a0 46 = some b_40 ∧ cl b_40 = 12 ∧ xS y s_h40 b_40 20 ((44 * x2h40) + x3h40) 0 (fun s_43 : St => ∃ b_44 : Nat, sO s_43 a0 46 = some b_44 ∧ cl b_44 = 12 ∧ xS y s_43 b_44 21 ((44 * x2h40) + x3h40) (vp_nar .boolean 0) (fun s_47 : St => K_40 s_47 x1h40 x2h40 (x3h40 + 1)))))
def wl_Mo_newFrame_40 (y : Ly) (Post : St → Prop) (a0 : Nat) (s_h40 : St) (x1h40 : Int32) (x2h40 : Int32) (x3h40 : Int32) : Prop := ∃ (I : St → Int32 → Int32 → Int32 → Prop) (μ : St → Int32 → Int32 → Int32 → Nat), I s_h40 x1h40 x2h40 x3h40 ∧ ∀ (u : St) (t0 : Int32) (t1 : Int32) (t2 : Int32), I u t0 t1 t2 → wb_Mo_newFrame_40 y Post (fun z t0q t1q t2q => I z t0q t1q t2q ∧ μ z t0q t1q t2q < μ u t0 t1 t2) a0 u t0 t1 t2
def wu_Mo_newFrame (y : Ly) (Post : St → Prop) (σ : St) (a0 : Nat) (v1 : Int32) : Prop := ∃ b_1 : Nat, sO σ a0 46 = some b_1 ∧ cl b_1 = 12 ∧ ∃ b_4 : Nat, sO σ a0 46 = some b_4 ∧ cl b_4 = 12 ∧ xS y σ b_4 17 (sV σ b_1 22) v1 (fun s_7 : St => ∃ b_8 : Nat, sO s_7 a0 46 = some b_8 ∧ cl b_8 = 12 ∧ xS y s_7 b_8 18 (sV σ b_1 22) 0 (fun s_11 : St => ∃ b_12 : Nat, sO s_11 a0 46 = some b_12 ∧ cl b_12 = 12 ∧ xS y s_11 b_12 19 (sV σ b_1 22) 0 (fun s_15 : St => wl_Mo_newFrame_40 y Post a0 s_15 v1 (sV σ b_1 22) 0)))
set_option maxHeartbeats 4000000 in
set_option maxRecDepth 100000 in
theorem cu_Mo_newFrame (l : Launch) (D : va_G) (g : Nat → ClassId) (ad : Nat → Nat) (y : Ly) (Post : St → Prop) (σ : St) (a0 : Nat) (v1 : Int32) (sz : Nat) (h_a0 : cl a0 = 14) (h : wu_Mo_newFrame y Post σ a0 v1) : Met l y_Mo_newFrame (mw y_Mo_newFrame b_Mo_newFrame 4 (none)) ru_Mo_newFrame (PC g D [] [.ref (ad a0), .int v1] sz (ws g ad y σ)) (va_Qv (fun u : St => Post u) (QW D (va_A (ws g ad y σ) sz) (fun u => ws g ad y u)) (va_A (ws g ad y σ) sz)) 0 0 (va_A (ws g ad y σ) sz) := by
  refine ofV (by decide +kernel) (Nat.le_of_ble_eq_true rfl) ?_
  intro p e s m args below meth c A Q ls H locs G hsz hP hD hS hl hret
  subst hsz
  have hl : lv_has ls 4 [(0, .ref (ad a0)), (1, .int v1)] := hl
  unfold wu_Mo_newFrame at h
  refine lv_aload_n G.1 G.2.1 d_Mo_newFrame_0 rfl (lv_at hl 0 rfl) ?_
  obtain ⟨b_1, e_2, c_3, h⟩ := h
  refine ugf (v := .ref (ad b_1)) G hP h_a0 iMo rfl 46 (by decide) rfl q3110 rfl (by show va_rf ((sO σ a0 46).map ad) = _; rw [e_2]; rfl) d_Mo_newFrame_1 ?_
  refine ugfN (v := .int (sV σ b_1 22)) G hP c_3 iMr rfl 22 (by decide) rfl q3016 rfl rfl d_Mo_newFrame_4 ?_
  refine lv_istore_n (lv' := [(2, .int (sV σ b_1 22)), (0, .ref (ad a0)), (1, .int v1)]) G.1 G.2.1 d_Mo_newFrame_7 rfl hl (by decide) rfl (fun ls hl => ?_)
  refine lv_aload_n G.1 G.2.1 d_Mo_newFrame_8 rfl (lv_at hl 1 rfl) ?_
  obtain ⟨b_4, e_5, c_6, h⟩ := h
  refine ugf (v := .ref (ad b_4)) G hP h_a0 iMo rfl 46 (by decide) rfl q3110 rfl (by show va_rf ((sO σ a0 46).map ad) = _; rw [e_5]; rfl) d_Mo_newFrame_9 ?_
  refine ugfN (v := .ref (yP y b_4 17)) G hP c_6 iMr rfl 17 (by decide) rfl q3007 rfl rfl d_Mo_newFrame_12 ?_
  refine lv_iload_n G.1 G.2.1 d_Mo_newFrame_15 rfl (lv_at hl 0 rfl) ?_
  refine lv_iload_n G.1 G.2.1 d_Mo_newFrame_16 rfl (lv_at hl 2 rfl) ?_
  refine uiast G hP hD hS (kdp c_6 rfl) (typ c_6 rfl) h d_Mo_newFrame_17 (fun s_7 H locs h hP hD hS => ?_)
  refine lv_aload_n G.1 G.2.1 d_Mo_newFrame_18 rfl (lv_at hl 1 rfl) ?_
  refine W.eq (g2 := F0 m 19 ls [.ref (ad a0)]) rfl ?_
  obtain ⟨b_8, e_9, c_10, h⟩ := h
  refine ugf (v := .ref (ad b_8)) G hP h_a0 iMo rfl 46 (by decide) rfl q3110 rfl (by show va_rf ((sO s_7 a0 46).map ad) = _; rw [e_9]; rfl) d_Mo_newFrame_19 ?_
  refine ugfN (v := .ref (yP y b_8 18)) G hP c_10 iMr rfl 18 (by decide) rfl q3009 rfl rfl d_Mo_newFrame_22 ?_
  refine lv_iload_n G.1 G.2.1 d_Mo_newFrame_25 rfl (lv_at hl 0 rfl) ?_
  refine lv_iconst (v := 0) G.1 G.2.1 d_Mo_newFrame_26 (by decide) ?_
  refine uiast G hP hD hS (kdp c_10 rfl) (typ c_10 rfl) h d_Mo_newFrame_27 (fun s_11 H locs h hP hD hS => ?_)
  refine lv_aload_n G.1 G.2.1 d_Mo_newFrame_28 rfl (lv_at hl 1 rfl) ?_
  obtain ⟨b_12, e_13, c_14, h⟩ := h
  refine ugf (v := .ref (ad b_12)) G hP h_a0 iMo rfl 46 (by decide) rfl q3110 rfl (by show va_rf ((sO s_11 a0 46).map ad) = _; rw [e_13]; rfl) d_Mo_newFrame_29 ?_
  refine ugfN (v := .ref (yP y b_12 19)) G hP c_14 iMr rfl 19 (by decide) rfl q3011 rfl rfl d_Mo_newFrame_32 ?_
  refine lv_iload_n G.1 G.2.1 d_Mo_newFrame_35 rfl (lv_at hl 0 rfl) ?_
  refine lv_iconst (v := 0) G.1 G.2.1 d_Mo_newFrame_36 (by decide) ?_
  refine uiast G hP hD hS (kdp c_14 rfl) (typ c_14 rfl) h d_Mo_newFrame_37 (fun s_15 H locs h hP hD hS => ?_)
  refine lv_iconst (v := 0) G.1 G.2.1 d_Mo_newFrame_38 (by decide) ?_
  refine W.eq (g2 := F0 m 39 ls [.int 0]) rfl ?_
  refine lv_istore_n (lv' := [(3, .int 0), (2, .int (sV σ b_1 22)), (0, .ref (ad a0)), (1, .int v1)]) G.1 G.2.1 d_Mo_newFrame_39 rfl hl (by decide) rfl (fun ls hl => ?_)
  unfold wl_Mo_newFrame_40 at h
  obtain ⟨I_40, μ_40, hI_40, hB_40⟩ := h
  have L_40 : ∀ (n_40 : Nat) (s_h40 : St) (x1h40 : Int32) (x2h40 : Int32) (x3h40 : Int32), μ_40 s_h40 x1h40 x2h40 x3h40 < n_40 → I_40 s_h40 x1h40 x2h40 x3h40 → ∀ (H : Heap) (locs : List Loc), va_P D CL (ws g ad y s_h40) H → va_D A (ws g ad y s_h40) → va_S A s.heap H locs → ∀ ls, lv_has ls 4 [(0, .ref (ad a0)), (1, .int x1h40), (2, .int x2h40), (3, .int x3h40)] → W p l e ru_Mo_newFrame s m args below meth c H locs 0 0 Q (F0 m 40 ls []) := by
    intro n_40
    induction n_40 with
    | zero => intro s_h40 x1h40 x2h40 x3h40 hμ; exact absurd hμ (Nat.not_lt_zero _)
    | succ n_40 ih_40 =>
      intro s_h40 x1h40 x2h40 x3h40 hμ_40 hJ H locs hP hD hS ls hl
      obtain ⟨K_40, hK_40, h⟩ : ∃ K : St → Int32 → Int32 → Int32 → Prop, (∀ z (t0 : Int32) (t1 : Int32) (t2 : Int32), K z t0 t1 t2 → I_40 z t0 t1 t2 ∧ μ_40 z t0 t1 t2 < μ_40 s_h40 x1h40 x2h40 x3h40) ∧ wb_Mo_newFrame_40 y Post K a0 s_h40 x1h40 x2h40 x3h40 := ⟨_, fun _ _ _ _ h => h, hB_40 s_h40 x1h40 x2h40 x3h40 hJ⟩
      unfold wb_Mo_newFrame_40 at h
      refine lv_iload_n G.1 G.2.1 d_Mo_newFrame_40 rfl (lv_at hl 3 rfl) ?_
      refine lv_bipush (v := 20) G.1 G.2.1 d_Mo_newFrame_41 (by decide) ?_
      refine lv_icmp_ge (tgt := 82) G.1 G.2.1 d_Mo_newFrame_43 (by decide) (fun c43 => ?_) (fun c43 => ?_)
      · skip
        have h := h.1 c43
        refine lv_aload_n G.1 G.2.1 d_Mo_newFrame_82 rfl (lv_at hl 0 rfl) ?_
        obtain ⟨b_16, e_17, c_18, h⟩ := h
        refine ugf (v := .ref (ad b_16)) G hP h_a0 iMo rfl 46 (by decide) rfl q3110 rfl (by show va_rf ((sO s_h40 a0 46).map ad) = _; rw [e_17]; rfl) d_Mo_newFrame_83 ?_
        refine lv_dup G.1 G.2.1 d_Mo_newFrame_86 rfl ?_
        refine ugfN (v := .int (sV s_h40 b_16 22)) G hP c_18 iMr rfl 22 (by decide) rfl q3016 rfl rfl d_Mo_newFrame_87 ?_
        refine lv_iconst (v := 1) G.1 G.2.1 d_Mo_newFrame_90 (by decide) ?_
        refine lv_iadd G.1 G.2.1 d_Mo_newFrame_91 ?_
        refine upfN G hP hD hS h 22 putV c_18 iMr tMr tMr_ok nMr rfl (by decide) rfl q3016 rfl rfl fV rfl rfl d_Mo_newFrame_92 (fun s_19 H locs h hP hD hS => ?_)
        refine lv_aload_n G.1 G.2.1 d_Mo_newFrame_95 rfl (lv_at hl 0 rfl) ?_
        refine W.eq (g2 := F0 m 96 ls [.ref (ad a0)]) rfl ?_
        obtain ⟨b_20, e_21, c_22, h⟩ := h
        refine ugf (v := .ref (ad b_20)) G hP h_a0 iMo rfl 46 (by decide) rfl q3110 rfl (by show va_rf ((sO s_19 a0 46).map ad) = _; rw [e_21]; rfl) d_Mo_newFrame_96 ?_
        refine ugfN (v := .ref (yP y b_20 14)) G hP c_22 iMr rfl 14 (by decide) rfl q3002 rfl rfl d_Mo_newFrame_99 ?_
        refine lv_aload_n G.1 G.2.1 d_Mo_newFrame_102 rfl (lv_at hl 0 rfl) ?_
        obtain ⟨b_23, e_24, c_25, h⟩ := h
        refine ugf (v := .ref (ad b_23)) G hP h_a0 iMo rfl 46 (by decide) rfl q3110 rfl (by show va_rf ((sO s_19 a0 46).map ad) = _; rw [e_24]; rfl) d_Mo_newFrame_103 ?_
        refine ugfN (v := .int (sV s_19 b_23 16)) G hP c_25 iMr rfl 16 (by decide) rfl q3005 rfl rfl d_Mo_newFrame_106 ?_
        refine lv_iload_n G.1 G.2.1 d_Mo_newFrame_109 rfl (lv_at hl 2 rfl) ?_
        refine uiast G hP hD hS (kdp c_22 rfl) (typ c_22 rfl) h d_Mo_newFrame_110 (fun s_26 H locs h hP hD hS => ?_)
        refine lv_aload_n G.1 G.2.1 d_Mo_newFrame_111 rfl (lv_at hl 0 rfl) ?_
        obtain ⟨b_27, e_28, c_29, h⟩ := h
        refine ugf (v := .ref (ad b_27)) G hP h_a0 iMo rfl 46 (by decide) rfl q3110 rfl (by show va_rf ((sO s_26 a0 46).map ad) = _; rw [e_28]; rfl) d_Mo_newFrame_112 ?_
        refine ugfN (v := .ref (yP y b_27 15)) G hP c_29 iMr rfl 15 (by decide) rfl q3004 rfl rfl d_Mo_newFrame_115 ?_
        refine lv_aload_n G.1 G.2.1 d_Mo_newFrame_118 rfl (lv_at hl 0 rfl) ?_
        obtain ⟨b_30, e_31, c_32, h⟩ := h
        refine ugf (v := .ref (ad b_30)) G hP h_a0 iMo rfl 46 (by decide) rfl q3110 rfl (by show va_rf ((sO s_26 a0 46).map ad) = _; rw [e_31]; rfl) d_Mo_newFrame_119 ?_
        refine W.eq (g2 := F0 m 122 ls [.ref (ad b_30), .ref (yP y b_27 15)]) rfl ?_
        refine ugfN (v := .int (sV s_26 b_30 16)) G hP c_32 iMr rfl 16 (by decide) rfl q3005 rfl rfl d_Mo_newFrame_122 ?_
        refine lv_iconst (v := 0) G.1 G.2.1 d_Mo_newFrame_125 (by decide) ?_
        refine uiast G hP hD hS (kdp c_29 rfl) (typ c_29 rfl) h d_Mo_newFrame_126 (fun s_33 H locs h hP hD hS => ?_)
        refine lv_aload_n G.1 G.2.1 d_Mo_newFrame_127 rfl (lv_at hl 0 rfl) ?_
        obtain ⟨b_34, e_35, c_36, h⟩ := h
        refine ugf (v := .ref (ad b_34)) G hP h_a0 iMo rfl 46 (by decide) rfl q3110 rfl (by show va_rf ((sO s_33 a0 46).map ad) = _; rw [e_35]; rfl) d_Mo_newFrame_128 ?_
        refine lv_dup G.1 G.2.1 d_Mo_newFrame_131 rfl ?_
        refine ugfN (v := .int (sV s_33 b_34 16)) G hP c_36 iMr rfl 16 (by decide) rfl q3005 rfl rfl d_Mo_newFrame_132 ?_
        refine lv_iconst (v := 1) G.1 G.2.1 d_Mo_newFrame_135 (by decide) ?_
        refine lv_iadd G.1 G.2.1 d_Mo_newFrame_136 ?_
        refine upfN G hP hD hS h 16 putV c_36 iMr tMr tMr_ok nMr rfl (by decide) rfl q3005 rfl rfl fV rfl rfl d_Mo_newFrame_137 (fun s_37 H locs h hP hD hS => ?_)
        refine lv_aload_n G.1 G.2.1 d_Mo_newFrame_140 rfl (lv_at hl 0 rfl) ?_
        refine lv_iconst (v := 1) G.1 G.2.1 d_Mo_newFrame_141 (by decide) ?_
        refine W.eq (g2 := F0 m 142 ls [.int 1, .ref (ad a0)]) rfl ?_
        refine lv_iload_n G.1 G.2.1 d_Mo_newFrame_142 rfl (lv_at hl 1 rfl) ?_
        refine ucVv (As := [.int 1, .int x1h40]) (rest := []) G hP hD hS (cu_Mo_note l D g ad y _ s_37 a0 1 x1h40 H.size h_a0 h) w9_Mo_note q3879 ⟨Nat.le_of_ble_eq_true rfl, Nat.le_of_ble_eq_true rfl⟩ rfl rfl h_a0 (q := (RMo, TMo, 131)) rfl rfl hl.1 rfl (Nat.le_of_ble_eq_true rfl) rfl ⟨Nat.le_refl _, Nat.le_refl _⟩ d_Mo_newFrame_143 (fun s_39 H locs h hP hD hS => ?_)
        exact hret _ _ _ _ _ _ ls h hP hD hS (Nat.le_refl _) (Nat.le_refl _) d_Mo_newFrame_146
      · skip
        have h := h.2 c43
        refine lv_aload_n G.1 G.2.1 d_Mo_newFrame_46 rfl (lv_at hl 0 rfl) ?_
        obtain ⟨b_40, e_41, c_42, h⟩ := h
        refine ugf (v := .ref (ad b_40)) G hP h_a0 iMo rfl 46 (by decide) rfl q3110 rfl (by show va_rf ((sO s_h40 a0 46).map ad) = _; rw [e_41]; rfl) d_Mo_newFrame_47 ?_
        refine ugfN (v := .ref (yP y b_40 20)) G hP c_42 iMr rfl 20 (by decide) rfl q3013 rfl rfl d_Mo_newFrame_50 ?_
        refine lv_bipush (v := 44) G.1 G.2.1 d_Mo_newFrame_53 (by decide) ?_
        refine lv_iload_n G.1 G.2.1 d_Mo_newFrame_55 rfl (lv_at hl 2 rfl) ?_
        refine lv_imul G.1 G.2.1 d_Mo_newFrame_56 ?_
        refine lv_iload_n G.1 G.2.1 d_Mo_newFrame_57 rfl (lv_at hl 3 rfl) ?_
        refine lv_iadd G.1 G.2.1 d_Mo_newFrame_58 ?_
        refine W.eq (g2 := F0 m 59 ls [.int ((44 * x2h40) + x3h40), .ref (yP y b_40 20)]) rfl ?_
        refine lv_iconst (v := 0) G.1 G.2.1 d_Mo_newFrame_59 (by decide) ?_
        refine uiast G hP hD hS (kdp c_42 rfl) (typ c_42 rfl) h d_Mo_newFrame_60 (fun s_43 H locs h hP hD hS => ?_)
        refine lv_aload_n G.1 G.2.1 d_Mo_newFrame_61 rfl (lv_at hl 0 rfl) ?_
        obtain ⟨b_44, e_45, c_46, h⟩ := h
        refine ugf (v := .ref (ad b_44)) G hP h_a0 iMo rfl 46 (by decide) rfl q3110 rfl (by show va_rf ((sO s_43 a0 46).map ad) = _; rw [e_45]; rfl) d_Mo_newFrame_62 ?_
        refine ugfN (v := .ref (yP y b_44 21)) G hP c_46 iMr rfl 21 (by decide) rfl q3015 rfl rfl d_Mo_newFrame_65 ?_
        refine lv_bipush (v := 44) G.1 G.2.1 d_Mo_newFrame_68 (by decide) ?_
        refine lv_iload_n G.1 G.2.1 d_Mo_newFrame_70 rfl (lv_at hl 2 rfl) ?_
        refine lv_imul G.1 G.2.1 d_Mo_newFrame_71 ?_
        refine lv_iload_n G.1 G.2.1 d_Mo_newFrame_72 rfl (lv_at hl 3 rfl) ?_
        refine lv_iadd G.1 G.2.1 d_Mo_newFrame_73 ?_
        refine lv_iconst (v := 0) G.1 G.2.1 d_Mo_newFrame_74 (by decide) ?_
        refine uzast G hP hD hS (kdp c_46 rfl) (typ c_46 rfl) h d_Mo_newFrame_75 (fun s_47 H locs h hP hD hS => ?_)
        refine W.eq (g2 := F0 m 76 ls []) rfl ?_
        refine lv_iinc (v := x3h40 + 1) (lv' := [(3, .int (x3h40 + 1)), (0, .ref (ad a0)), (1, .int x1h40), (2, .int x2h40)]) G.1 G.2.1 d_Mo_newFrame_76 hl (k := 3) rfl rfl (by decide) rfl (fun ls hl => ?_)
        refine lv_goto (tgt := 40) G.1 G.2.1 d_Mo_newFrame_79 (by decide) ?_
        have h := hK_40 s_47 x1h40 x2h40 (x3h40 + 1) h
        exact ih_40 s_47 x1h40 x2h40 (x3h40 + 1) (Nat.lt_of_lt_of_le h.2 (Nat.le_of_lt_succ hμ_40)) h.1 H locs hP hD hS ls (lv_sub hl [1, 2, 3, 0] rfl)
  exact L_40 _ s_15 v1 (sV σ b_1 22) 0 (Nat.lt_succ_self _) hI_40 H locs hP hD hS ls (lv_sub hl [2, 3, 1, 0] rfl)
