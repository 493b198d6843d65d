def y_Mo_cut : MethodName := ⟨"ClassWorksModel", "cut", "(I)I"⟩
abbrev b_Mo_cut : ByteArray := prog_14_method_126_code
theorem d_Mo_cut_0 : decode b_Mo_cut 0 = .ok (.iload_n 1, 1) := by decide +kernel
theorem d_Mo_cut_1 : decode b_Mo_cut 1 = .ok (.ifCond .lt 11, 3) := by decide +kernel
theorem d_Mo_cut_4 : decode b_Mo_cut 4 = .ok (.iload_n 1, 1) := by decide +kernel
theorem d_Mo_cut_5 : decode b_Mo_cut 5 = .ok (.aload_n 0, 1) := by decide +kernel
theorem d_Mo_cut_6 : decode b_Mo_cut 6 = .ok (.getfield 1112, 3) := by decide +kernel
theorem d_Mo_cut_9 : decode b_Mo_cut 9 = .ok (.if_icmp .le 5, 3) := by decide +kernel
theorem d_Mo_cut_12 : decode b_Mo_cut 12 = .ok (.iconst (-1), 1) := by decide +kernel
theorem d_Mo_cut_13 : decode b_Mo_cut 13 = .ok (.ireturn, 1) := by decide +kernel
theorem d_Mo_cut_14 : decode b_Mo_cut 14 = .ok (.aload_n 0, 1) := by decide +kernel
theorem d_Mo_cut_15 : decode b_Mo_cut 15 = .ok (.dup, 1) := by decide +kernel
theorem d_Mo_cut_16 : decode b_Mo_cut 16 = .ok (.getfield 1112, 3) := by decide +kernel
theorem d_Mo_cut_19 : decode b_Mo_cut 19 = .ok (.iload_n 1, 1) := by decide +kernel
theorem d_Mo_cut_20 : decode b_Mo_cut 20 = .ok (.isub, 1) := by decide +kernel
theorem d_Mo_cut_21 : decode b_Mo_cut 21 = .ok (.putfield 1112, 3) := by decide +kernel
theorem d_Mo_cut_24 : decode b_Mo_cut 24 = .ok (.aload_n 0, 1) := by decide +kernel
theorem d_Mo_cut_25 : decode b_Mo_cut 25 = .ok (.getfield 1112, 3) := by decide +kernel
theorem d_Mo_cut_28 : decode b_Mo_cut 28 = .ok (.ireturn, 1) := by decide +kernel
abbrev ru_Mo_cut : Room := { frames := 0, cells := 0, slots := 0, locals := 0 }
def wj_Mo_cut_12 (y : Ly) (Post : St → Int32 → Prop) (a0 : Nat) (s_j12 : St) : Prop := Post s_j12 (-1)
def wu_Mo_cut (y : Ly) (Post : St → Int32 → Prop) (σ : St) (a0 : Nat) (v1 : Int32) : Prop := ((v1 < 0 → wj_Mo_cut_12 y Post a0 σ) ∧ (¬ (v1 < 0) → ((v1 ≤ (sV σ a0 85) → xP (uV σ a0 85 ((sV σ a0 85) - v1)) (fun s_1 : St => Post s_1 (sV s_1 a0 85))) ∧ (¬ (v1 ≤ (sV σ a0 85)) → wj_Mo_cut_12 y Post a0 σ))))
set_option maxHeartbeats 4000000 in
set_option maxRecDepth 100000 in
theorem cu_Mo_cut (l : Launch) (D : va_G) (g : Nat → ClassId) (ad : Nat → Nat) (y : Ly) (Post : St → Int32 → Prop) (σ : St) (a0 : Nat) (v1 : Int32) (sz : Nat) (h_a0 : cl a0 = 14) (h : wu_Mo_cut y Post σ a0 v1) : Met l y_Mo_cut (mw y_Mo_cut b_Mo_cut 2 (some .int)) ru_Mo_cut (PC g D [] [.ref (ad a0), .int v1] sz (ws g ad y σ)) (va_Qi (fun (r : Int32) (u : St) => Post u r) (QW D (va_A (ws g ad y σ) sz) (fun u => ws g ad y u)) (va_A (ws g ad y σ) sz)) 0 0 (va_A (ws g ad y σ) sz) := by
  refine ofI (by decide +kernel) (Nat.le_of_ble_eq_true rfl) ?_
  intro p e s m args below meth c A Q ls H locs G hsz hP hD hS hl hret
  subst hsz
  have hl : lv_has ls 2 [(0, .ref (ad a0)), (1, .int v1)] := hl
  unfold wu_Mo_cut at h
  refine lv_iload_n G.1 G.2.1 d_Mo_cut_0 rfl (lv_at hl 1 rfl) ?_
  have J_12 : ∀ (s_j12 : St) (H : Heap) (locs : List Loc), wj_Mo_cut_12 y Post a0 s_j12 → va_P D CL (ws g ad y s_j12) H → va_D A (ws g ad y s_j12) → va_S A s.heap H locs → ∀ ls, lv_has ls 2 [] → W p l e ru_Mo_cut s m args below meth c H locs 0 0 Q (F0 m 12 ls []) := by
    intro s_j12 H locs h hP hD hS ls hl
    unfold wj_Mo_cut_12 at h
    refine lv_iconst (v := (-1)) G.1 G.2.1 d_Mo_cut_12 (by decide) ?_
    exact hret _ _ _ _ _ _ _ ls h hP hD hS (Nat.le_refl _) (Nat.le_refl _) d_Mo_cut_13
  refine lv_if_lt (tgt := 12) G.1 G.2.1 d_Mo_cut_1 (by decide) (fun c1 => ?_) (fun c1 => ?_)
  · skip
    have h := h.1 c1
    exact J_12 σ H locs h hP hD hS ls (lv_sub hl [] rfl)
  · skip
    have h := h.2 c1
    refine lv_iload_n G.1 G.2.1 d_Mo_cut_4 rfl (lv_at hl 1 rfl) ?_
    refine lv_aload_n G.1 G.2.1 d_Mo_cut_5 rfl (lv_at hl 0 rfl) ?_
    refine ugf (v := .int (sV σ a0 85)) G hP h_a0 iMo rfl 85 (by decide) rfl q3149 rfl rfl d_Mo_cut_6 ?_
    refine lv_icmp_le (tgt := 14) G.1 G.2.1 d_Mo_cut_9 (by decide) (fun c9 => ?_) (fun c9 => ?_)
    · skip
      have h := h.1 c9
      refine lv_aload_n G.1 G.2.1 d_Mo_cut_14 rfl (lv_at hl 0 rfl) ?_
      refine lv_dup G.1 G.2.1 d_Mo_cut_15 rfl ?_
      refine ugf (v := .int (sV σ a0 85)) G hP h_a0 iMo rfl 85 (by decide) rfl q3149 rfl rfl d_Mo_cut_16 ?_
      refine lv_iload_n G.1 G.2.1 d_Mo_cut_19 rfl (lv_at hl 1 rfl) ?_
      refine lv_isub G.1 G.2.1 d_Mo_cut_20 ?_
      refine W.eq (g2 := F0 m 21 ls [.int ((sV σ a0 85) - v1), .ref (ad a0)]) rfl ?_
      refine upf G hP hD hS h 85 putV h_a0 iMo tMo tMo_ok nMo rfl (by decide) rfl q3149 rfl rfl fV rfl rfl d_Mo_cut_21 (fun s_1 H locs h hP hD hS => ?_)
      refine lv_aload_n G.1 G.2.1 d_Mo_cut_24 rfl (lv_at hl 0 rfl) ?_
      refine ugf (v := .int (sV s_1 a0 85)) G hP h_a0 iMo rfl 85 (by decide) rfl q3149 rfl rfl d_Mo_cut_25 ?_
      exact hret _ _ _ _ _ _ _ ls h hP hD hS (Nat.le_refl _) (Nat.le_refl _) d_Mo_cut_28
    · skip
      have h := h.2 c9
      exact J_12 σ H locs h hP hD hS ls (lv_sub hl [] rfl)
def y_Mo_beginWorld : MethodName := ⟨"ClassWorksModel", "beginWorld", "(LClassWorksModel$World;I)V"⟩
abbrev b_Mo_beginWorld : ByteArray := prog_14_method_16_code
theorem q2706 : Cond.fieldLinkNest "ClassWorksModel" 413 "ClassWorksModel$World" "there" "Z" "ClassWorksModel" ∈ lw_nest := lw_nestmem (List.mem_of_getElem? (i := 2706) (by decide +kernel)) rfl
theorem q2707 : Cond.fieldLinkNest "ClassWorksModel" 417 "ClassWorksModel$World" "breaks" "I" "ClassWorksModel" ∈ lw_nest := lw_nestmem (List.mem_of_getElem? (i := 2707) (by decide +kernel)) rfl
theorem q2708 : Cond.fieldLinkNest "ClassWorksModel" 420 "ClassWorksModel$World" "count" "I" "ClassWorksModel" ∈ lw_nest := lw_nestmem (List.mem_of_getElem? (i := 2708) (by decide +kernel)) rfl
theorem q2773 : Cond.fieldLinkNest "ClassWorksModel" 471 "ClassWorksModel$World" "codeSize" "I" "ClassWorksModel" ∈ lw_nest := lw_nestmem (List.mem_of_getElem? (i := 2773) (by decide +kernel)) rfl
theorem q2776 : Cond.fieldLinkNest "ClassWorksModel" 474 "ClassWorksModel$World" "listSize" "I" "ClassWorksModel" ∈ lw_nest := lw_nestmem (List.mem_of_getElem? (i := 2776) (by decide +kernel)) rfl
theorem q2783 : Cond.fieldLinkNest "ClassWorksModel" 477 "ClassWorksModel$World" "frameCount" "I" "ClassWorksModel" ∈ lw_nest := lw_nestmem (List.mem_of_getElem? (i := 2783) (by decide +kernel)) rfl
theorem q2786 : Cond.fieldLinkNest "ClassWorksModel" 480 "ClassWorksModel$World" "kindSize" "I" "ClassWorksModel" ∈ lw_nest := lw_nestmem (List.mem_of_getElem? (i := 2786) (by decide +kernel)) rfl
theorem q2788 : Cond.fieldLinkNest "ClassWorksModel" 483 "ClassWorksModel$World" "checked" "[I" "ClassWorksModel" ∈ lw_nest := lw_nestmem (List.mem_of_getElem? (i := 2788) (by decide +kernel)) rfl
theorem q2821 : Cond.fieldLinkNest "ClassWorksModel" 492 "ClassWorksModel$World" "present" "I" "ClassWorksModel" ∈ lw_nest := lw_nestmem (List.mem_of_getElem? (i := 2821) (by decide +kernel)) rfl
theorem q2823 : Cond.fieldLinkNest "ClassWorksModel" 495 "ClassWorksModel$World" "quantum" "I" "ClassWorksModel" ∈ lw_nest := lw_nestmem (List.mem_of_getElem? (i := 2823) (by decide +kernel)) rfl
theorem q2822 : Cond.fieldLinkNest "ClassWorksModel" 498 "ClassWorksModel$World" "left" "I" "ClassWorksModel" ∈ lw_nest := lw_nestmem (List.mem_of_getElem? (i := 2822) (by decide +kernel)) rfl
theorem q2832 : Cond.fieldLinkNest "ClassWorksModel" 501 "ClassWorksModel$World" "traced" "I" "ClassWorksModel" ∈ lw_nest := lw_nestmem (List.mem_of_getElem? (i := 2832) (by decide +kernel)) rfl
theorem q2799 : Cond.fieldLinkNest "ClassWorksModel" 507 "ClassWorksModel$World" "things" "I" "ClassWorksModel" ∈ lw_nest := lw_nestmem (List.mem_of_getElem? (i := 2799) (by decide +kernel)) rfl
theorem q2802 : Cond.fieldLinkNest "ClassWorksModel" 513 "ClassWorksModel$World" "cellCount" "I" "ClassWorksModel" ∈ lw_nest := lw_nestmem (List.mem_of_getElem? (i := 2802) (by decide +kernel)) rfl
theorem q2809 : Cond.fieldLinkNest "ClassWorksModel" 516 "ClassWorksModel$World" "faults" "I" "ClassWorksModel" ∈ lw_nest := lw_nestmem (List.mem_of_getElem? (i := 2809) (by decide +kernel)) rfl
theorem q2816 : Cond.fieldLinkNest "ClassWorksModel" 519 "ClassWorksModel$World" "begunCount" "I" "ClassWorksModel" ∈ lw_nest := lw_nestmem (List.mem_of_getElem? (i := 2816) (by decide +kernel)) rfl
theorem q2798 : Cond.fieldLinkNest "ClassWorksModel" 510 "ClassWorksModel$World" "thingThere" "[Z" "ClassWorksModel" ∈ lw_nest := lw_nestmem (List.mem_of_getElem? (i := 2798) (by decide +kernel)) rfl
theorem q2834 : Cond.fieldLinkNest "ClassWorksModel" 504 "ClassWorksModel$World" "doneCounts" "[I" "ClassWorksModel" ∈ lw_nest := lw_nestmem (List.mem_of_getElem? (i := 2834) (by decide +kernel)) rfl
theorem q2820 : Cond.fieldLinkNest "ClassWorksModel" 406 "ClassWorksModel$World" "runs" "[LClassWorksModel$Run;" "ClassWorksModel" ∈ lw_nest := lw_nestmem (List.mem_of_getElem? (i := 2820) (by decide +kernel)) rfl
theorem q2987 : Cond.fieldLinkNest "ClassWorksModel" 486 "ClassWorksModel$Run" "state" "I" "ClassWorksModel" ∈ lw_nest := lw_nestmem (List.mem_of_getElem? (i := 2987) (by decide +kernel)) rfl
theorem q2988 : Cond.fieldLinkNest "ClassWorksModel" 489 "ClassWorksModel$Run" "waits" "Z" "ClassWorksModel" ∈ lw_nest := lw_nestmem (List.mem_of_getElem? (i := 2988) (by decide +kernel)) rfl
theorem q2710 : Cond.fieldLinkNest "ClassWorksModel" 423 "ClassWorksModel$World" "classNames" "[I" "ClassWorksModel" ∈ lw_nest := lw_nestmem (List.mem_of_getElem? (i := 2710) (by decide +kernel)) rfl
theorem q3072 : Cond.fieldLink "ClassWorksModel" 153 "ClassWorksModel" "kThing" "I" ∈ lw_ok := lw_okmem (List.mem_of_getElem? (i := 3072) (by decide +kernel)) rfl
theorem q2712 : Cond.fieldLinkNest "ClassWorksModel" 426 "ClassWorksModel$World" "parents" "[I" "ClassWorksModel" ∈ lw_nest := lw_nestmem (List.mem_of_getElem? (i := 2712) (by decide +kernel)) rfl
theorem q2714 : Cond.fieldLinkNest "ClassWorksModel" 429 "ClassWorksModel$World" "flags" "[I" "ClassWorksModel" ∈ lw_nest := lw_nestmem (List.mem_of_getElem? (i := 2714) (by decide +kernel)) rfl
theorem q2718 : Cond.fieldLinkNest "ClassWorksModel" 432 "ClassWorksModel$World" "faceCounts" "[I" "ClassWorksModel" ∈ lw_nest := lw_nestmem (List.mem_of_getElem? (i := 2718) (by decide +kernel)) rfl
theorem q2720 : Cond.fieldLinkNest "ClassWorksModel" 435 "ClassWorksModel$World" "fieldCounts" "[I" "ClassWorksModel" ∈ lw_nest := lw_nestmem (List.mem_of_getElem? (i := 2720) (by decide +kernel)) rfl
theorem q2722 : Cond.fieldLinkNest "ClassWorksModel" 438 "ClassWorksModel$World" "methodCounts" "[I" "ClassWorksModel" ∈ lw_nest := lw_nestmem (List.mem_of_getElem? (i := 2722) (by decide +kernel)) rfl
theorem q2724 : Cond.fieldLinkNest "ClassWorksModel" 441 "ClassWorksModel$World" "states" "[I" "ClassWorksModel" ∈ lw_nest := lw_nestmem (List.mem_of_getElem? (i := 2724) (by decide +kernel)) rfl
theorem q2726 : Cond.fieldLinkNest "ClassWorksModel" 444 "ClassWorksModel$World" "links" "[I" "ClassWorksModel" ∈ lw_nest := lw_nestmem (List.mem_of_getElem? (i := 2726) (by decide +kernel)) rfl
theorem q2740 : Cond.fieldLinkNest "ClassWorksModel" 447 "ClassWorksModel$World" "methodNames" "[I" "ClassWorksModel" ∈ lw_nest := lw_nestmem (List.mem_of_getElem? (i := 2740) (by decide +kernel)) rfl
theorem q3070 : Cond.fieldLink "ClassWorksModel" 121 "ClassWorksModel" "kMake" "I" ∈ lw_ok := lw_okmem (List.mem_of_getElem? (i := 3070) (by decide +kernel)) rfl
theorem q2742 : Cond.fieldLinkNest "ClassWorksModel" 450 "ClassWorksModel$World" "methodSigs" "[I" "ClassWorksModel" ∈ lw_nest := lw_nestmem (List.mem_of_getElem? (i := 2742) (by decide +kernel)) rfl
theorem q3102 : Cond.fieldLink "ClassWorksModel" 258 "ClassWorksModel" "plainSig" "I" ∈ lw_ok := lw_okmem (List.mem_of_getElem? (i := 3102) (by decide +kernel)) rfl
theorem q2744 : Cond.fieldLinkNest "ClassWorksModel" 453 "ClassWorksModel$World" "methodFlags" "[I" "ClassWorksModel" ∈ lw_nest := lw_nestmem (List.mem_of_getElem? (i := 2744) (by decide +kernel)) rfl
theorem q2746 : Cond.fieldLinkNest "ClassWorksModel" 456 "ClassWorksModel$World" "stacks" "[I" "ClassWorksModel" ∈ lw_nest := lw_nestmem (List.mem_of_getElem? (i := 2746) (by decide +kernel)) rfl
theorem q2748 : Cond.fieldLinkNest "ClassWorksModel" 459 "ClassWorksModel$World" "localCounts" "[I" "ClassWorksModel" ∈ lw_nest := lw_nestmem (List.mem_of_getElem? (i := 2748) (by decide +kernel)) rfl
theorem q2750 : Cond.fieldLinkNest "ClassWorksModel" 462 "ClassWorksModel$World" "codeFroms" "[I" "ClassWorksModel" ∈ lw_nest := lw_nestmem (List.mem_of_getElem? (i := 2750) (by decide +kernel)) rfl
theorem q2752 : Cond.fieldLinkNest "ClassWorksModel" 465 "ClassWorksModel$World" "codeSizes" "[I" "ClassWorksModel" ∈ lw_nest := lw_nestmem (List.mem_of_getElem? (i := 2752) (by decide +kernel)) rfl
theorem q2754 : Cond.fieldLinkNest "ClassWorksModel" 468 "ClassWorksModel$World" "handlerCounts" "[I" "ClassWorksModel" ∈ lw_nest := lw_nestmem (List.mem_of_getElem? (i := 2754) (by decide +kernel)) rfl
theorem d_Mo_beginWorld_0 : decode b_Mo_beginWorld 0 = .ok (.aload_n 1, 1) := by decide +kernel
theorem d_Mo_beginWorld_1 : decode b_Mo_beginWorld 1 = .ok (.iconst 1, 1) := by decide +kernel
theorem d_Mo_beginWorld_2 : decode b_Mo_beginWorld 2 = .ok (.putfield 413, 3) := by decide +kernel
theorem d_Mo_beginWorld_5 : decode b_Mo_beginWorld 5 = .ok (.aload_n 1, 1) := by decide +kernel
theorem d_Mo_beginWorld_6 : decode b_Mo_beginWorld 6 = .ok (.iload_n 2, 1) := by decide +kernel
theorem d_Mo_beginWorld_7 : decode b_Mo_beginWorld 7 = .ok (.putfield 417, 3) := by decide +kernel
theorem d_Mo_beginWorld_10 : decode b_Mo_beginWorld 10 = .ok (.aload_n 1, 1) := by decide +kernel
theorem d_Mo_beginWorld_11 : decode b_Mo_beginWorld 11 = .ok (.bipush 21, 2) := by decide +kernel
theorem d_Mo_beginWorld_13 : decode b_Mo_beginWorld 13 = .ok (.putfield 420, 3) := by decide +kernel
theorem d_Mo_beginWorld_16 : decode b_Mo_beginWorld 16 = .ok (.iconst 0, 1) := by decide +kernel
theorem d_Mo_beginWorld_17 : decode b_Mo_beginWorld 17 = .ok (.istore_n 3, 1) := by decide +kernel
theorem d_Mo_beginWorld_18 : decode b_Mo_beginWorld 18 = .ok (.iload_n 3, 1) := by decide +kernel
theorem d_Mo_beginWorld_19 : decode b_Mo_beginWorld 19 = .ok (.bipush 21, 2) := by decide +kernel
theorem d_Mo_beginWorld_21 : decode b_Mo_beginWorld 21 = .ok (.if_icmp .ge 188, 3) := by decide +kernel
theorem d_Mo_beginWorld_24 : decode b_Mo_beginWorld 24 = .ok (.aload_n 1, 1) := by decide +kernel
theorem d_Mo_beginWorld_25 : decode b_Mo_beginWorld 25 = .ok (.getfield 423, 3) := by decide +kernel
theorem d_Mo_beginWorld_28 : decode b_Mo_beginWorld 28 = .ok (.iload_n 3, 1) := by decide +kernel
theorem d_Mo_beginWorld_29 : decode b_Mo_beginWorld 29 = .ok (.aload_n 0, 1) := by decide +kernel
theorem d_Mo_beginWorld_30 : decode b_Mo_beginWorld 30 = .ok (.getfield 153, 3) := by decide +kernel
theorem d_Mo_beginWorld_33 : decode b_Mo_beginWorld 33 = .ok (.iload_n 3, 1) := by decide +kernel
theorem d_Mo_beginWorld_34 : decode b_Mo_beginWorld 34 = .ok (.iadd, 1) := by decide +kernel
theorem d_Mo_beginWorld_35 : decode b_Mo_beginWorld 35 = .ok (.iastore, 1) := by decide +kernel
theorem d_Mo_beginWorld_36 : decode b_Mo_beginWorld 36 = .ok (.aload_n 1, 1) := by decide +kernel
theorem d_Mo_beginWorld_37 : decode b_Mo_beginWorld 37 = .ok (.getfield 426, 3) := by decide +kernel
theorem d_Mo_beginWorld_40 : decode b_Mo_beginWorld 40 = .ok (.iload_n 3, 1) := by decide +kernel
theorem d_Mo_beginWorld_41 : decode b_Mo_beginWorld 41 = .ok (.iload_n 3, 1) := by decide +kernel
theorem d_Mo_beginWorld_42 : decode b_Mo_beginWorld 42 = .ok (.ifCond .ne 8, 3) := by decide +kernel
theorem d_Mo_beginWorld_45 : decode b_Mo_beginWorld 45 = .ok (.bipush (-2), 2) := by decide +kernel
theorem d_Mo_beginWorld_47 : decode b_Mo_beginWorld 47 = .ok (.goto 37, 3) := by decide +kernel
theorem d_Mo_beginWorld_50 : decode b_Mo_beginWorld 50 = .ok (.iload_n 3, 1) := by decide +kernel
theorem d_Mo_beginWorld_51 : decode b_Mo_beginWorld 51 = .ok (.iconst 1, 1) := by decide +kernel
theorem d_Mo_beginWorld_52 : decode b_Mo_beginWorld 52 = .ok (.if_icmp .ne 10, 3) := by decide +kernel
theorem d_Mo_beginWorld_55 : decode b_Mo_beginWorld 55 = .ok (.aload_n 0, 1) := by decide +kernel
theorem d_Mo_beginWorld_56 : decode b_Mo_beginWorld 56 = .ok (.getfield 153, 3) := by decide +kernel
theorem d_Mo_beginWorld_59 : decode b_Mo_beginWorld 59 = .ok (.goto 25, 3) := by decide +kernel
theorem d_Mo_beginWorld_62 : decode b_Mo_beginWorld 62 = .ok (.iload_n 3, 1) := by decide +kernel
theorem d_Mo_beginWorld_63 : decode b_Mo_beginWorld 63 = .ok (.bipush 10, 2) := by decide +kernel
theorem d_Mo_beginWorld_65 : decode b_Mo_beginWorld 65 = .ok (.if_icmp .gt 12, 3) := by decide +kernel
theorem d_Mo_beginWorld_68 : decode b_Mo_beginWorld 68 = .ok (.aload_n 0, 1) := by decide +kernel
theorem d_Mo_beginWorld_69 : decode b_Mo_beginWorld 69 = .ok (.getfield 153, 3) := by decide +kernel
theorem d_Mo_beginWorld_72 : decode b_Mo_beginWorld 72 = .ok (.iconst 1, 1) := by decide +kernel
theorem d_Mo_beginWorld_73 : decode b_Mo_beginWorld 73 = .ok (.iadd, 1) := by decide +kernel
theorem d_Mo_beginWorld_74 : decode b_Mo_beginWorld 74 = .ok (.goto 10, 3) := by decide +kernel
theorem d_Mo_beginWorld_77 : decode b_Mo_beginWorld 77 = .ok (.aload_n 0, 1) := by decide +kernel
theorem d_Mo_beginWorld_78 : decode b_Mo_beginWorld 78 = .ok (.getfield 153, 3) := by decide +kernel
theorem d_Mo_beginWorld_81 : decode b_Mo_beginWorld 81 = .ok (.bipush 10, 2) := by decide +kernel
theorem d_Mo_beginWorld_83 : decode b_Mo_beginWorld 83 = .ok (.iadd, 1) := by decide +kernel
theorem d_Mo_beginWorld_84 : decode b_Mo_beginWorld 84 = .ok (.iastore, 1) := by decide +kernel
theorem d_Mo_beginWorld_85 : decode b_Mo_beginWorld 85 = .ok (.aload_n 1, 1) := by decide +kernel
theorem d_Mo_beginWorld_86 : decode b_Mo_beginWorld 86 = .ok (.getfield 429, 3) := by decide +kernel
theorem d_Mo_beginWorld_89 : decode b_Mo_beginWorld 89 = .ok (.iload_n 3, 1) := by decide +kernel
theorem d_Mo_beginWorld_90 : decode b_Mo_beginWorld 90 = .ok (.iconst 0, 1) := by decide +kernel
theorem d_Mo_beginWorld_91 : decode b_Mo_beginWorld 91 = .ok (.iastore, 1) := by decide +kernel
theorem d_Mo_beginWorld_92 : decode b_Mo_beginWorld 92 = .ok (.aload_n 1, 1) := by decide +kernel
theorem d_Mo_beginWorld_93 : decode b_Mo_beginWorld 93 = .ok (.getfield 432, 3) := by decide +kernel
theorem d_Mo_beginWorld_96 : decode b_Mo_beginWorld 96 = .ok (.iload_n 3, 1) := by decide +kernel
theorem d_Mo_beginWorld_97 : decode b_Mo_beginWorld 97 = .ok (.iconst 0, 1) := by decide +kernel
theorem d_Mo_beginWorld_98 : decode b_Mo_beginWorld 98 = .ok (.iastore, 1) := by decide +kernel
theorem d_Mo_beginWorld_99 : decode b_Mo_beginWorld 99 = .ok (.aload_n 1, 1) := by decide +kernel
theorem d_Mo_beginWorld_100 : decode b_Mo_beginWorld 100 = .ok (.getfield 435, 3) := by decide +kernel
theorem d_Mo_beginWorld_103 : decode b_Mo_beginWorld 103 = .ok (.iload_n 3, 1) := by decide +kernel
theorem d_Mo_beginWorld_104 : decode b_Mo_beginWorld 104 = .ok (.iconst 0, 1) := by decide +kernel
theorem d_Mo_beginWorld_105 : decode b_Mo_beginWorld 105 = .ok (.iastore, 1) := by decide +kernel
theorem d_Mo_beginWorld_106 : decode b_Mo_beginWorld 106 = .ok (.aload_n 1, 1) := by decide +kernel
theorem d_Mo_beginWorld_107 : decode b_Mo_beginWorld 107 = .ok (.getfield 438, 3) := by decide +kernel
theorem d_Mo_beginWorld_110 : decode b_Mo_beginWorld 110 = .ok (.iload_n 3, 1) := by decide +kernel
theorem d_Mo_beginWorld_111 : decode b_Mo_beginWorld 111 = .ok (.iconst 1, 1) := by decide +kernel
theorem d_Mo_beginWorld_112 : decode b_Mo_beginWorld 112 = .ok (.iastore, 1) := by decide +kernel
theorem d_Mo_beginWorld_113 : decode b_Mo_beginWorld 113 = .ok (.aload_n 1, 1) := by decide +kernel
theorem d_Mo_beginWorld_114 : decode b_Mo_beginWorld 114 = .ok (.getfield 441, 3) := by decide +kernel
theorem d_Mo_beginWorld_117 : decode b_Mo_beginWorld 117 = .ok (.iload_n 3, 1) := by decide +kernel
theorem d_Mo_beginWorld_118 : decode b_Mo_beginWorld 118 = .ok (.iconst 2, 1) := by decide +kernel
theorem d_Mo_beginWorld_119 : decode b_Mo_beginWorld 119 = .ok (.iastore, 1) := by decide +kernel
theorem d_Mo_beginWorld_120 : decode b_Mo_beginWorld 120 = .ok (.aload_n 1, 1) := by decide +kernel
theorem d_Mo_beginWorld_121 : decode b_Mo_beginWorld 121 = .ok (.getfield 444, 3) := by decide +kernel
theorem d_Mo_beginWorld_124 : decode b_Mo_beginWorld 124 = .ok (.iload_n 3, 1) := by decide +kernel
theorem d_Mo_beginWorld_125 : decode b_Mo_beginWorld 125 = .ok (.iconst 1, 1) := by decide +kernel
theorem d_Mo_beginWorld_126 : decode b_Mo_beginWorld 126 = .ok (.iastore, 1) := by decide +kernel
theorem d_Mo_beginWorld_127 : decode b_Mo_beginWorld 127 = .ok (.bipush 12, 2) := by decide +kernel
theorem d_Mo_beginWorld_129 : decode b_Mo_beginWorld 129 = .ok (.iload_n 3, 1) := by decide +kernel
theorem d_Mo_beginWorld_130 : decode b_Mo_beginWorld 130 = .ok (.imul, 1) := by decide +kernel
theorem d_Mo_beginWorld_131 : decode b_Mo_beginWorld 131 = .ok (.istore 4, 2) := by decide +kernel
theorem d_Mo_beginWorld_133 : decode b_Mo_beginWorld 133 = .ok (.aload_n 1, 1) := by decide +kernel
theorem d_Mo_beginWorld_134 : decode b_Mo_beginWorld 134 = .ok (.getfield 447, 3) := by decide +kernel
theorem d_Mo_beginWorld_137 : decode b_Mo_beginWorld 137 = .ok (.iload 4, 2) := by decide +kernel
theorem d_Mo_beginWorld_139 : decode b_Mo_beginWorld 139 = .ok (.aload_n 0, 1) := by decide +kernel
theorem d_Mo_beginWorld_140 : decode b_Mo_beginWorld 140 = .ok (.getfield 121, 3) := by decide +kernel
theorem d_Mo_beginWorld_143 : decode b_Mo_beginWorld 143 = .ok (.iastore, 1) := by decide +kernel
theorem d_Mo_beginWorld_144 : decode b_Mo_beginWorld 144 = .ok (.aload_n 1, 1) := by decide +kernel
theorem d_Mo_beginWorld_145 : decode b_Mo_beginWorld 145 = .ok (.getfield 450, 3) := by decide +kernel
theorem d_Mo_beginWorld_148 : decode b_Mo_beginWorld 148 = .ok (.iload 4, 2) := by decide +kernel
theorem d_Mo_beginWorld_150 : decode b_Mo_beginWorld 150 = .ok (.aload_n 0, 1) := by decide +kernel
theorem d_Mo_beginWorld_151 : decode b_Mo_beginWorld 151 = .ok (.getfield 258, 3) := by decide +kernel
theorem d_Mo_beginWorld_154 : decode b_Mo_beginWorld 154 = .ok (.iastore, 1) := by decide +kernel
theorem d_Mo_beginWorld_155 : decode b_Mo_beginWorld 155 = .ok (.aload_n 1, 1) := by decide +kernel
theorem d_Mo_beginWorld_156 : decode b_Mo_beginWorld 156 = .ok (.getfield 453, 3) := by decide +kernel
theorem d_Mo_beginWorld_159 : decode b_Mo_beginWorld 159 = .ok (.iload 4, 2) := by decide +kernel
theorem d_Mo_beginWorld_161 : decode b_Mo_beginWorld 161 = .ok (.iconst 0, 1) := by decide +kernel
theorem d_Mo_beginWorld_162 : decode b_Mo_beginWorld 162 = .ok (.iastore, 1) := by decide +kernel
theorem d_Mo_beginWorld_163 : decode b_Mo_beginWorld 163 = .ok (.aload_n 1, 1) := by decide +kernel
theorem d_Mo_beginWorld_164 : decode b_Mo_beginWorld 164 = .ok (.getfield 456, 3) := by decide +kernel
theorem d_Mo_beginWorld_167 : decode b_Mo_beginWorld 167 = .ok (.iload 4, 2) := by decide +kernel
theorem d_Mo_beginWorld_169 : decode b_Mo_beginWorld 169 = .ok (.iconst 0, 1) := by decide +kernel
theorem d_Mo_beginWorld_170 : decode b_Mo_beginWorld 170 = .ok (.iastore, 1) := by decide +kernel
theorem d_Mo_beginWorld_171 : decode b_Mo_beginWorld 171 = .ok (.aload_n 1, 1) := by decide +kernel
theorem d_Mo_beginWorld_172 : decode b_Mo_beginWorld 172 = .ok (.getfield 459, 3) := by decide +kernel
theorem d_Mo_beginWorld_175 : decode b_Mo_beginWorld 175 = .ok (.iload 4, 2) := by decide +kernel
theorem d_Mo_beginWorld_177 : decode b_Mo_beginWorld 177 = .ok (.iconst 0, 1) := by decide +kernel
theorem d_Mo_beginWorld_178 : decode b_Mo_beginWorld 178 = .ok (.iastore, 1) := by decide +kernel
theorem d_Mo_beginWorld_179 : decode b_Mo_beginWorld 179 = .ok (.aload_n 1, 1) := by decide +kernel
theorem d_Mo_beginWorld_180 : decode b_Mo_beginWorld 180 = .ok (.getfield 462, 3) := by decide +kernel
theorem d_Mo_beginWorld_183 : decode b_Mo_beginWorld 183 = .ok (.iload 4, 2) := by decide +kernel
theorem d_Mo_beginWorld_185 : decode b_Mo_beginWorld 185 = .ok (.iconst 0, 1) := by decide +kernel
theorem d_Mo_beginWorld_186 : decode b_Mo_beginWorld 186 = .ok (.iastore, 1) := by decide +kernel
theorem d_Mo_beginWorld_187 : decode b_Mo_beginWorld 187 = .ok (.aload_n 1, 1) := by decide +kernel
theorem d_Mo_beginWorld_188 : decode b_Mo_beginWorld 188 = .ok (.getfield 465, 3) := by decide +kernel
theorem d_Mo_beginWorld_191 : decode b_Mo_beginWorld 191 = .ok (.iload 4, 2) := by decide +kernel
theorem d_Mo_beginWorld_193 : decode b_Mo_beginWorld 193 = .ok (.iconst 0, 1) := by decide +kernel
theorem d_Mo_beginWorld_194 : decode b_Mo_beginWorld 194 = .ok (.iastore, 1) := by decide +kernel
theorem d_Mo_beginWorld_195 : decode b_Mo_beginWorld 195 = .ok (.aload_n 1, 1) := by decide +kernel
theorem d_Mo_beginWorld_196 : decode b_Mo_beginWorld 196 = .ok (.getfield 468, 3) := by decide +kernel
theorem d_Mo_beginWorld_199 : decode b_Mo_beginWorld 199 = .ok (.iload 4, 2) := by decide +kernel
theorem d_Mo_beginWorld_201 : decode b_Mo_beginWorld 201 = .ok (.iconst 0, 1) := by decide +kernel
theorem d_Mo_beginWorld_202 : decode b_Mo_beginWorld 202 = .ok (.iastore, 1) := by decide +kernel
theorem d_Mo_beginWorld_203 : decode b_Mo_beginWorld 203 = .ok (.iinc 3 1, 3) := by decide +kernel
theorem d_Mo_beginWorld_206 : decode b_Mo_beginWorld 206 = .ok (.goto (-188), 3) := by decide +kernel
theorem d_Mo_beginWorld_209 : decode b_Mo_beginWorld 209 = .ok (.aload_n 1, 1) := by decide +kernel
theorem d_Mo_beginWorld_210 : decode b_Mo_beginWorld 210 = .ok (.iconst 0, 1) := by decide +kernel
theorem d_Mo_beginWorld_211 : decode b_Mo_beginWorld 211 = .ok (.putfield 471, 3) := by decide +kernel
theorem d_Mo_beginWorld_214 : decode b_Mo_beginWorld 214 = .ok (.aload_n 1, 1) := by decide +kernel
theorem d_Mo_beginWorld_215 : decode b_Mo_beginWorld 215 = .ok (.iconst 0, 1) := by decide +kernel
theorem d_Mo_beginWorld_216 : decode b_Mo_beginWorld 216 = .ok (.putfield 474, 3) := by decide +kernel
theorem d_Mo_beginWorld_219 : decode b_Mo_beginWorld 219 = .ok (.aload_n 1, 1) := by decide +kernel
theorem d_Mo_beginWorld_220 : decode b_Mo_beginWorld 220 = .ok (.iconst 0, 1) := by decide +kernel
theorem d_Mo_beginWorld_221 : decode b_Mo_beginWorld 221 = .ok (.putfield 477, 3) := by decide +kernel
theorem d_Mo_beginWorld_224 : decode b_Mo_beginWorld 224 = .ok (.aload_n 1, 1) := by decide +kernel
theorem d_Mo_beginWorld_225 : decode b_Mo_beginWorld 225 = .ok (.iconst 0, 1) := by decide +kernel
theorem d_Mo_beginWorld_226 : decode b_Mo_beginWorld 226 = .ok (.putfield 480, 3) := by decide +kernel
theorem d_Mo_beginWorld_229 : decode b_Mo_beginWorld 229 = .ok (.aload_n 1, 1) := by decide +kernel
theorem d_Mo_beginWorld_230 : decode b_Mo_beginWorld 230 = .ok (.getfield 483, 3) := by decide +kernel
theorem d_Mo_beginWorld_233 : decode b_Mo_beginWorld 233 = .ok (.iconst 0, 1) := by decide +kernel
theorem d_Mo_beginWorld_234 : decode b_Mo_beginWorld 234 = .ok (.bipush (-2), 2) := by decide +kernel
theorem d_Mo_beginWorld_236 : decode b_Mo_beginWorld 236 = .ok (.iastore, 1) := by decide +kernel
theorem d_Mo_beginWorld_237 : decode b_Mo_beginWorld 237 = .ok (.aload_n 1, 1) := by decide +kernel
theorem d_Mo_beginWorld_238 : decode b_Mo_beginWorld 238 = .ok (.getfield 483, 3) := by decide +kernel
theorem d_Mo_beginWorld_241 : decode b_Mo_beginWorld 241 = .ok (.iconst 1, 1) := by decide +kernel
theorem d_Mo_beginWorld_242 : decode b_Mo_beginWorld 242 = .ok (.bipush (-2), 2) := by decide +kernel
theorem d_Mo_beginWorld_244 : decode b_Mo_beginWorld 244 = .ok (.iastore, 1) := by decide +kernel
theorem d_Mo_beginWorld_245 : decode b_Mo_beginWorld 245 = .ok (.aload_n 1, 1) := by decide +kernel
theorem d_Mo_beginWorld_246 : decode b_Mo_beginWorld 246 = .ok (.getfield 483, 3) := by decide +kernel
theorem d_Mo_beginWorld_249 : decode b_Mo_beginWorld 249 = .ok (.iconst 2, 1) := by decide +kernel
theorem d_Mo_beginWorld_250 : decode b_Mo_beginWorld 250 = .ok (.bipush (-2), 2) := by decide +kernel
theorem d_Mo_beginWorld_252 : decode b_Mo_beginWorld 252 = .ok (.iastore, 1) := by decide +kernel
theorem d_Mo_beginWorld_253 : decode b_Mo_beginWorld 253 = .ok (.iconst 0, 1) := by decide +kernel
theorem d_Mo_beginWorld_254 : decode b_Mo_beginWorld 254 = .ok (.istore_n 3, 1) := by decide +kernel
theorem d_Mo_beginWorld_255 : decode b_Mo_beginWorld 255 = .ok (.iload_n 3, 1) := by decide +kernel
theorem d_Mo_beginWorld_256 : decode b_Mo_beginWorld 256 = .ok (.iconst 3, 1) := by decide +kernel
theorem d_Mo_beginWorld_257 : decode b_Mo_beginWorld 257 = .ok (.if_icmp .ge 30, 3) := by decide +kernel
theorem d_Mo_beginWorld_260 : decode b_Mo_beginWorld 260 = .ok (.aload_n 1, 1) := by decide +kernel
theorem d_Mo_beginWorld_261 : decode b_Mo_beginWorld 261 = .ok (.getfield 406, 3) := by decide +kernel
theorem d_Mo_beginWorld_264 : decode b_Mo_beginWorld 264 = .ok (.iload_n 3, 1) := by decide +kernel
theorem d_Mo_beginWorld_265 : decode b_Mo_beginWorld 265 = .ok (.aaload, 1) := by decide +kernel
theorem d_Mo_beginWorld_266 : decode b_Mo_beginWorld 266 = .ok (.bipush (-2), 2) := by decide +kernel
theorem d_Mo_beginWorld_268 : decode b_Mo_beginWorld 268 = .ok (.putfield 486, 3) := by decide +kernel
theorem d_Mo_beginWorld_271 : decode b_Mo_beginWorld 271 = .ok (.aload_n 1, 1) := by decide +kernel
theorem d_Mo_beginWorld_272 : decode b_Mo_beginWorld 272 = .ok (.getfield 406, 3) := by decide +kernel
theorem d_Mo_beginWorld_275 : decode b_Mo_beginWorld 275 = .ok (.iload_n 3, 1) := by decide +kernel
theorem d_Mo_beginWorld_276 : decode b_Mo_beginWorld 276 = .ok (.aaload, 1) := by decide +kernel
theorem d_Mo_beginWorld_277 : decode b_Mo_beginWorld 277 = .ok (.iconst 0, 1) := by decide +kernel
theorem d_Mo_beginWorld_278 : decode b_Mo_beginWorld 278 = .ok (.putfield 489, 3) := by decide +kernel
theorem d_Mo_beginWorld_281 : decode b_Mo_beginWorld 281 = .ok (.iinc 3 1, 3) := by decide +kernel
theorem d_Mo_beginWorld_284 : decode b_Mo_beginWorld 284 = .ok (.goto (-29), 3) := by decide +kernel
theorem d_Mo_beginWorld_287 : decode b_Mo_beginWorld 287 = .ok (.aload_n 1, 1) := by decide +kernel
theorem d_Mo_beginWorld_288 : decode b_Mo_beginWorld 288 = .ok (.iconst 0, 1) := by decide +kernel
theorem d_Mo_beginWorld_289 : decode b_Mo_beginWorld 289 = .ok (.putfield 492, 3) := by decide +kernel
theorem d_Mo_beginWorld_292 : decode b_Mo_beginWorld 292 = .ok (.aload_n 1, 1) := by decide +kernel
theorem d_Mo_beginWorld_293 : decode b_Mo_beginWorld 293 = .ok (.bipush 50, 2) := by decide +kernel
theorem d_Mo_beginWorld_295 : decode b_Mo_beginWorld 295 = .ok (.putfield 495, 3) := by decide +kernel
theorem d_Mo_beginWorld_298 : decode b_Mo_beginWorld 298 = .ok (.aload_n 1, 1) := by decide +kernel
theorem d_Mo_beginWorld_299 : decode b_Mo_beginWorld 299 = .ok (.bipush 50, 2) := by decide +kernel
theorem d_Mo_beginWorld_301 : decode b_Mo_beginWorld 301 = .ok (.putfield 498, 3) := by decide +kernel
theorem d_Mo_beginWorld_304 : decode b_Mo_beginWorld 304 = .ok (.aload_n 1, 1) := by decide +kernel
theorem d_Mo_beginWorld_305 : decode b_Mo_beginWorld 305 = .ok (.iconst 0, 1) := by decide +kernel
theorem d_Mo_beginWorld_306 : decode b_Mo_beginWorld 306 = .ok (.putfield 501, 3) := by decide +kernel
theorem d_Mo_beginWorld_309 : decode b_Mo_beginWorld 309 = .ok (.iconst 0, 1) := by decide +kernel
theorem d_Mo_beginWorld_310 : decode b_Mo_beginWorld 310 = .ok (.istore_n 3, 1) := by decide +kernel
theorem d_Mo_beginWorld_311 : decode b_Mo_beginWorld 311 = .ok (.iload_n 3, 1) := by decide +kernel
theorem d_Mo_beginWorld_312 : decode b_Mo_beginWorld 312 = .ok (.bipush 62, 2) := by decide +kernel
theorem d_Mo_beginWorld_314 : decode b_Mo_beginWorld 314 = .ok (.if_icmp .ge 16, 3) := by decide +kernel
theorem d_Mo_beginWorld_317 : decode b_Mo_beginWorld 317 = .ok (.aload_n 1, 1) := by decide +kernel
theorem d_Mo_beginWorld_318 : decode b_Mo_beginWorld 318 = .ok (.getfield 504, 3) := by decide +kernel
theorem d_Mo_beginWorld_321 : decode b_Mo_beginWorld 321 = .ok (.iload_n 3, 1) := by decide +kernel
theorem d_Mo_beginWorld_322 : decode b_Mo_beginWorld 322 = .ok (.iconst 0, 1) := by decide +kernel
theorem d_Mo_beginWorld_323 : decode b_Mo_beginWorld 323 = .ok (.iastore, 1) := by decide +kernel
theorem d_Mo_beginWorld_324 : decode b_Mo_beginWorld 324 = .ok (.iinc 3 1, 3) := by decide +kernel
theorem d_Mo_beginWorld_327 : decode b_Mo_beginWorld 327 = .ok (.goto (-16), 3) := by decide +kernel
theorem d_Mo_beginWorld_330 : decode b_Mo_beginWorld 330 = .ok (.aload_n 1, 1) := by decide +kernel
theorem d_Mo_beginWorld_331 : decode b_Mo_beginWorld 331 = .ok (.iconst 0, 1) := by decide +kernel
theorem d_Mo_beginWorld_332 : decode b_Mo_beginWorld 332 = .ok (.putfield 507, 3) := by decide +kernel
theorem d_Mo_beginWorld_335 : decode b_Mo_beginWorld 335 = .ok (.iconst 0, 1) := by decide +kernel
theorem d_Mo_beginWorld_336 : decode b_Mo_beginWorld 336 = .ok (.istore_n 3, 1) := by decide +kernel
theorem d_Mo_beginWorld_337 : decode b_Mo_beginWorld 337 = .ok (.iload_n 3, 1) := by decide +kernel
theorem d_Mo_beginWorld_338 : decode b_Mo_beginWorld 338 = .ok (.sipush 800, 3) := by decide +kernel
theorem d_Mo_beginWorld_341 : decode b_Mo_beginWorld 341 = .ok (.if_icmp .gt 16, 3) := by decide +kernel
theorem d_Mo_beginWorld_344 : decode b_Mo_beginWorld 344 = .ok (.aload_n 1, 1) := by decide +kernel
theorem d_Mo_beginWorld_345 : decode b_Mo_beginWorld 345 = .ok (.getfield 510, 3) := by decide +kernel
theorem d_Mo_beginWorld_348 : decode b_Mo_beginWorld 348 = .ok (.iload_n 3, 1) := by decide +kernel
theorem d_Mo_beginWorld_349 : decode b_Mo_beginWorld 349 = .ok (.iconst 0, 1) := by decide +kernel
theorem d_Mo_beginWorld_350 : decode b_Mo_beginWorld 350 = .ok (.bastore, 1) := by decide +kernel
theorem d_Mo_beginWorld_351 : decode b_Mo_beginWorld 351 = .ok (.iinc 3 1, 3) := by decide +kernel
theorem d_Mo_beginWorld_354 : decode b_Mo_beginWorld 354 = .ok (.goto (-17), 3) := by decide +kernel
theorem d_Mo_beginWorld_357 : decode b_Mo_beginWorld 357 = .ok (.aload_n 1, 1) := by decide +kernel
theorem d_Mo_beginWorld_358 : decode b_Mo_beginWorld 358 = .ok (.iconst 0, 1) := by decide +kernel
theorem d_Mo_beginWorld_359 : decode b_Mo_beginWorld 359 = .ok (.putfield 513, 3) := by decide +kernel
theorem d_Mo_beginWorld_362 : decode b_Mo_beginWorld 362 = .ok (.aload_n 1, 1) := by decide +kernel
theorem d_Mo_beginWorld_363 : decode b_Mo_beginWorld 363 = .ok (.iconst 0, 1) := by decide +kernel
theorem d_Mo_beginWorld_364 : decode b_Mo_beginWorld 364 = .ok (.putfield 516, 3) := by decide +kernel
theorem d_Mo_beginWorld_367 : decode b_Mo_beginWorld 367 = .ok (.aload_n 1, 1) := by decide +kernel
theorem d_Mo_beginWorld_368 : decode b_Mo_beginWorld 368 = .ok (.iconst 0, 1) := by decide +kernel
theorem d_Mo_beginWorld_369 : decode b_Mo_beginWorld 369 = .ok (.putfield 519, 3) := by decide +kernel
theorem d_Mo_beginWorld_372 : decode b_Mo_beginWorld 372 = .ok (.return_, 1) := by decide +kernel
abbrev ru_Mo_beginWorld : Room := { frames := 0, cells := 0, slots := 0, locals := 0 }
def wb_Mo_beginWorld_337 (y : Ly) (Post : St → Prop) (K_337 : St → Int32 → Prop) (a0 : Nat) (a1 : Nat) (s_h337 : St) (x3h337 : Int32) : Prop := ((800 < x3h337 → xP (uV s_h337 a1 52 0) (fun s_17 : St => xP (uV s_17 a1 56 0) (fun s_18 : St => xP (uV s_18 a1 60 0) (fun s_19 : St => Post s_19)))) ∧ (¬ (800 < x3h337) → xS y s_h337 a1 49 x3h337 (vp_nar .boolean 0) (fun s_20 : St => K_337 s_20 (x3h337 + 1))))
def wl_Mo_beginWorld_337 (y : Ly) (Post : St → Prop) (a0 : Nat) (a1 : Nat) (s_h337 : St) (x3h337 : Int32) : Prop := ∃ (I : St → Int32 → Prop) (μ : St → Int32 → Nat), I s_h337 x3h337 ∧ ∀ (u : St) (t0 : Int32), I u t0 → wb_Mo_beginWorld_337 y Post (fun z t0q => I z t0q ∧ μ z t0q < μ u t0) a0 a1 u t0
def wb_Mo_beginWorld_311 (y : Ly) (Post : St → Prop) (K_311 : St → Int32 → Prop) (a0 : Nat) (a1 : Nat) (s_h311 : St) (x3h311 : Int32) : Prop := ((62 ≤ x3h311 → xP (uV s_h311 a1 50 0) (fun s_16 : St => wl_Mo_beginWorld_337 y Post a0 a1 s_16 0)) ∧ (¬ (62 ≤ x3h311) → xS y s_h311 a1 71 x3h311 0 (fun s_21 : St => K_311 s_21 (x3h311 + 1))))
def wl_Mo_beginWorld_311 (y : Ly) (Post : St → Prop) (a0 : Nat) (a1 : Nat) (s_h311 : St) (x3h311 : Int32) : Prop := ∃ (I : St → Int32 → Prop) (μ : St → Int32 → Nat), I s_h311 x3h311 ∧ ∀ (u : St) (t0 : Int32), I u t0 → wb_Mo_beginWorld_311 y Post (fun z t0q => I z t0q ∧ μ z t0q < μ u t0) a0 a1 u t0
def wb_Mo_beginWorld_255 (y : Ly) (Post : St → Prop) (K_255 : St → Int32 → Prop) (a0 : Nat) (a1 : Nat) (s_h255 : St) (x3h255 : Int32) : Prop := ((3 ≤ x3h255 → xP (uV s_h255 a1 63 0) (fun s_12 : St => xP (uV s_12 a1 65 50) (fun s_13 : St => xP (uV s_13 a1 64 50) (fun s_14 : St => xP (uV s_14 a1 70 0) (fun s_15 : St => wl_Mo_beginWorld_311 y Post a0 a1 s_15 0))))) ∧ (¬ (3 ≤ x3h255) → xQ y a1 62 x3h255 (fun b_22 : Nat => xP (uV s_h255 b_22 0 (-2)) (fun s_24 : St => xQ y a1 62 x3h255 (fun b_25 : Nat => nb 0 ∧ xP (uV s_24 b_25 1 0) (fun s_28 : St => K_255 s_28 (x3h255 + 1)))))))
def wl_Mo_beginWorld_255 (y : Ly) (Post : St → Prop) (a0 : Nat) (a1 : Nat) (s_h255 : St) (x3h255 : Int32) : Prop := ∃ (I : St → Int32 → Prop) (μ : St → Int32 → Nat), I s_h255 x3h255 ∧ ∀ (u : St) (t0 : Int32), I u t0 → wb_Mo_beginWorld_255 y Post (fun z t0q => I z t0q ∧ μ z t0q < μ u t0) a0 a1 u t0
def wj_Mo_beginWorld_84 (y : Ly) (Post : St → Prop) (K_18 : St → Int32 → Prop) (a0 : Nat) (a1 : Nat) (s_j84 : St) (x3j84 : Int32) (z1j84 : Int32) (z2j84 : Int32) : Prop := xS y s_j84 a1 4 z1j84 z2j84 (fun s_30 : St => xS y s_30 a1 5 x3j84 0 (fun s_31 : St => xS y s_31 a1 7 x3j84 0 (fun s_32 : St => xS y s_32 a1 8 x3j84 0 (fun s_33 : St => xS y s_33 a1 9 x3j84 1 (fun s_34 : St => xS y s_34 a1 10 x3j84 2 (fun s_35 : St => xS y s_35 a1 11 x3j84 1 (fun s_36 : St => xS y s_36 a1 18 (12 * x3j84) (sV s_36 a0 6) (fun s_37 : St => xS y s_37 a1 19 (12 * x3j84) (sV s_37 a0 38) (fun s_38 : St => xS y s_38 a1 20 (12 * x3j84) 0 (fun s_39 : St => xS y s_39 a1 21 (12 * x3j84) 0 (fun s_40 : St => xS y s_40 a1 22 (12 * x3j84) 0 (fun s_41 : St => xS y s_41 a1 23 (12 * x3j84) 0 (fun s_42 : St => xS y s_42 a1 24 (12 * x3j84) 0 (fun s_43 : St => xS y s_43 a1 25 (12 * x3j84) 0 (fun s_44 : St => K_18 s_44 (x3j84 + 1))))))))))))))))
def wb_Mo_beginWorld_18 (y : Ly) (Post : St → Prop) (K_18 : St → Int32 → Prop) (a0 : Nat) (a1 : Nat) (s_h18 : St) (x3h18 : Int32) : Prop := ((21 ≤ x3h18 → xP (uV s_h18 a1 35 0) (fun s_5 : St => xP (uV s_5 a1 37 0) (fun s_6 : St => xP (uV s_6 a1 41 0) (fun s_7 : St => xP (uV s_7 a1 43 0) (fun s_8 : St => xS y s_8 a1 44 0 (-2) (fun s_9 : St => xS y s_9 a1 44 1 (-2) (fun s_10 : St => xS y s_10 a1 44 2 (-2) (fun s_11 : St => wl_Mo_beginWorld_255 y Post a0 a1 s_11 0)))))))) ∧ (¬ (21 ≤ x3h18) → xS y s_h18 a1 3 x3h18 ((sV s_h18 a0 8) + x3h18) (fun s_29 : St => ((¬ x3h18 = 0 → ((¬ x3h18 = 1 → ((10 < x3h18 → wj_Mo_beginWorld_84 y Post K_18 a0 a1 s_29 x3h18 x3h18 ((sV s_29 a0 8) + 10)) ∧ (¬ (10 < x3h18) → wj_Mo_beginWorld_84 y Post K_18 a0 a1 s_29 x3h18 x3h18 ((sV s_29 a0 8) + 1)))) ∧ (x3h18 = 1 → wj_Mo_beginWorld_84 y Post K_18 a0 a1 s_29 x3h18 x3h18 (sV s_29 a0 8)))) ∧ (x3h18 = 0 → wj_Mo_beginWorld_84 y Post K_18 a0 a1 s_29 x3h18 x3h18 (-2))))))
def wl_Mo_beginWorld_18 (y : Ly) (Post : St → Prop) (a0 : Nat) (a1 : Nat) (s_h18 : St) (x3h18 : Int32) : Prop := ∃ (I : St → Int32 → Prop) (μ : St → Int32 → Nat), I s_h18 x3h18 ∧ ∀ (u : St) (t0 : Int32), I u t0 → wb_Mo_beginWorld_18 y Post (fun z t0q => I z t0q ∧ μ z t0q < μ u t0) a0 a1 u t0
def wu_Mo_beginWorld (y : Ly) (Post : St → Prop) (σ : St) (a0 : Nat) (a1 : Nat) (v2 : Int32) : Prop := nb 1 ∧ xP (uV σ a1 0 1) (fun s_2 : St => xP (uV s_2 a1 1 v2) (fun s_3 : St => xP (uV s_3 a1 2 21) (fun s_4 : St => wl_Mo_beginWorld_18 y Post a0 a1 s_4 0)))
set_option maxHeartbeats 4000000 in
set_option maxRecDepth 100000 in
theorem cu_Mo_beginWorld (l : Launch) (D : va_G) (g : Nat → ClassId) (ad : Nat → Nat) (y : Ly) (Post : St → Prop) (σ : St) (a0 : Nat) (a1 : Nat) (v2 : Int32) (sz : Nat) (h_a0 : cl a0 = 14) (h_a1 : cl a1 = 13) (h : wu_Mo_beginWorld y Post σ a0 a1 v2) : Met l y_Mo_beginWorld (mw y_Mo_beginWorld b_Mo_beginWorld 5 (none)) ru_Mo_beginWorld (PC g D [] [.ref (ad a0), .ref (ad a1), .int v2] sz (ws g ad y σ)) (va_Qv (fun u : St => Post u) (QW D (va_A (ws g ad y σ) sz) (fun u => ws g ad y u)) (va_A (ws g ad y σ) sz)) 0 0 (va_A (ws g ad y σ) sz) := by
  refine ofV (by decide +kernel) (Nat.le_of_ble_eq_true rfl) ?_
  intro p e s m args below meth c A Q ls H locs G hsz hP hD hS hl hret
  subst hsz
  have hl : lv_has ls 5 [(0, .ref (ad a0)), (1, .ref (ad a1)), (2, .int v2)] := hl
  unfold wu_Mo_beginWorld at h
  refine lv_aload_n G.1 G.2.1 d_Mo_beginWorld_0 rfl (lv_at hl 1 rfl) ?_
  refine lv_iconst (v := 1) G.1 G.2.1 d_Mo_beginWorld_1 (by decide) ?_
  obtain ⟨n_1, h⟩ := h
  refine upfN G hP hD hS h 0 putV h_a1 iMw tMw tMw_ok nMw rfl (by decide) rfl q2706 rfl rfl fV (nb_n n_1) (nb_f n_1) d_Mo_beginWorld_2 (fun s_2 H locs h hP hD hS => ?_)
  refine lv_aload_n G.1 G.2.1 d_Mo_beginWorld_5 rfl (lv_at hl 1 rfl) ?_
  refine lv_iload_n G.1 G.2.1 d_Mo_beginWorld_6 rfl (lv_at hl 2 rfl) ?_
  refine upfN G hP hD hS h 1 putV h_a1 iMw tMw tMw_ok nMw rfl (by decide) rfl q2707 rfl rfl fV rfl rfl d_Mo_beginWorld_7 (fun s_3 H locs h hP hD hS => ?_)
  refine lv_aload_n G.1 G.2.1 d_Mo_beginWorld_10 rfl (lv_at hl 1 rfl) ?_
  refine lv_bipush (v := 21) G.1 G.2.1 d_Mo_beginWorld_11 (by decide) ?_
  refine upfN G hP hD hS h 2 putV h_a1 iMw tMw tMw_ok nMw rfl (by decide) rfl q2708 rfl rfl fV rfl rfl d_Mo_beginWorld_13 (fun s_4 H locs h hP hD hS => ?_)
  refine lv_iconst (v := 0) G.1 G.2.1 d_Mo_beginWorld_16 (by decide) ?_
  refine lv_istore_n (lv' := [(3, .int 0), (0, .ref (ad a0)), (1, .ref (ad a1)), (2, .int v2)]) G.1 G.2.1 d_Mo_beginWorld_17 rfl hl (by decide) rfl (fun ls hl => ?_)
  unfold wl_Mo_beginWorld_18 at h
  obtain ⟨I_18, μ_18, hI_18, hB_18⟩ := h
  have L_18 : ∀ (n_18 : Nat) (s_h18 : St) (x3h18 : Int32), μ_18 s_h18 x3h18 < n_18 → I_18 s_h18 x3h18 → ∀ (H : Heap) (locs : List Loc), va_P D CL (ws g ad y s_h18) H → va_D A (ws g ad y s_h18) → va_S A s.heap H locs → ∀ ls, lv_has ls 5 [(0, .ref (ad a0)), (1, .ref (ad a1)), (3, .int x3h18)] → W p l e ru_Mo_beginWorld s m args below meth c H locs 0 0 Q (F0 m 18 ls []) := by
    intro n_18
    induction n_18 with
    | zero => intro s_h18 x3h18 hμ; exact absurd hμ (Nat.not_lt_zero _)
    | succ n_18 ih_18 =>
      intro s_h18 x3h18 hμ_18 hJ H locs hP hD hS ls hl
      obtain ⟨K_18, hK_18, h⟩ : ∃ K : St → Int32 → Prop, (∀ z (t0 : Int32), K z t0 → I_18 z t0 ∧ μ_18 z t0 < μ_18 s_h18 x3h18) ∧ wb_Mo_beginWorld_18 y Post K a0 a1 s_h18 x3h18 := ⟨_, fun _ _ h => h, hB_18 s_h18 x3h18 hJ⟩
      unfold wb_Mo_beginWorld_18 at h
      refine lv_iload_n G.1 G.2.1 d_Mo_beginWorld_18 rfl (lv_at hl 2 rfl) ?_
      refine lv_bipush (v := 21) G.1 G.2.1 d_Mo_beginWorld_19 (by decide) ?_
      refine lv_icmp_ge (tgt := 209) G.1 G.2.1 d_Mo_beginWorld_21 (by decide) (fun c21 => ?_) (fun c21 => ?_)
      · skip
        have h := h.1 c21
        refine lv_aload_n G.1 G.2.1 d_Mo_beginWorld_209 rfl (lv_at hl 1 rfl) ?_
        refine lv_iconst (v := 0) G.1 G.2.1 d_Mo_beginWorld_210 (by decide) ?_
        refine upfN G hP hD hS h 35 putV h_a1 iMw tMw tMw_ok nMw rfl (by decide) rfl q2773 rfl rfl fV rfl rfl d_Mo_beginWorld_211 (fun s_5 H locs h hP hD hS => ?_)
        refine lv_aload_n G.1 G.2.1 d_Mo_beginWorld_214 rfl (lv_at hl 1 rfl) ?_
        refine lv_iconst (v := 0) G.1 G.2.1 d_Mo_beginWorld_215 (by decide) ?_
        refine upfN G hP hD hS h 37 putV h_a1 iMw tMw tMw_ok nMw rfl (by decide) rfl q2776 rfl rfl fV rfl rfl d_Mo_beginWorld_216 (fun s_6 H locs h hP hD hS => ?_)
        refine lv_aload_n G.1 G.2.1 d_Mo_beginWorld_219 rfl (lv_at hl 1 rfl) ?_
        refine lv_iconst (v := 0) G.1 G.2.1 d_Mo_beginWorld_220 (by decide) ?_
        refine W.eq (g2 := F0 m 221 ls [.int 0, .ref (ad a1)]) rfl ?_
        refine upfN G hP hD hS h 41 putV h_a1 iMw tMw tMw_ok nMw rfl (by decide) rfl q2783 rfl rfl fV rfl rfl d_Mo_beginWorld_221 (fun s_7 H locs h hP hD hS => ?_)
        refine lv_aload_n G.1 G.2.1 d_Mo_beginWorld_224 rfl (lv_at hl 1 rfl) ?_
        refine lv_iconst (v := 0) G.1 G.2.1 d_Mo_beginWorld_225 (by decide) ?_
        refine upfN G hP hD hS h 43 putV h_a1 iMw tMw tMw_ok nMw rfl (by decide) rfl q2786 rfl rfl fV rfl rfl d_Mo_beginWorld_226 (fun s_8 H locs h hP hD hS => ?_)
        refine lv_aload_n G.1 G.2.1 d_Mo_beginWorld_229 rfl (lv_at hl 1 rfl) ?_
        refine ugfN (v := .ref (yP y a1 44)) G hP h_a1 iMw rfl 44 (by decide) rfl q2788 rfl rfl d_Mo_beginWorld_230 ?_
        refine lv_iconst (v := 0) G.1 G.2.1 d_Mo_beginWorld_233 (by decide) ?_
        refine lv_bipush (v := (-2)) G.1 G.2.1 d_Mo_beginWorld_234 (by decide) ?_
        refine uiast G hP hD hS (kdp h_a1 rfl) (typ h_a1 rfl) h d_Mo_beginWorld_236 (fun s_9 H locs h hP hD hS => ?_)
        refine lv_aload_n G.1 G.2.1 d_Mo_beginWorld_237 rfl (lv_at hl 1 rfl) ?_
        refine ugfN (v := .ref (yP y a1 44)) G hP h_a1 iMw rfl 44 (by decide) rfl q2788 rfl rfl d_Mo_beginWorld_238 ?_
        refine lv_iconst (v := 1) G.1 G.2.1 d_Mo_beginWorld_241 (by decide) ?_
        refine W.eq (g2 := F0 m 242 ls [.int 1, .ref (yP y a1 44)]) rfl ?_
        refine lv_bipush (v := (-2)) G.1 G.2.1 d_Mo_beginWorld_242 (by decide) ?_
        refine uiast G hP hD hS (kdp h_a1 rfl) (typ h_a1 rfl) h d_Mo_beginWorld_244 (fun s_10 H locs h hP hD hS => ?_)
        refine lv_aload_n G.1 G.2.1 d_Mo_beginWorld_245 rfl (lv_at hl 1 rfl) ?_
        refine ugfN (v := .ref (yP y a1 44)) G hP h_a1 iMw rfl 44 (by decide) rfl q2788 rfl rfl d_Mo_beginWorld_246 ?_
        refine lv_iconst (v := 2) G.1 G.2.1 d_Mo_beginWorld_249 (by decide) ?_
        refine lv_bipush (v := (-2)) G.1 G.2.1 d_Mo_beginWorld_250 (by decide) ?_
        refine uiast G hP hD hS (kdp h_a1 rfl) (typ h_a1 rfl) h d_Mo_beginWorld_252 (fun s_11 H locs h hP hD hS => ?_)
        refine lv_iconst (v := 0) G.1 G.2.1 d_Mo_beginWorld_253 (by decide) ?_
        refine lv_istore_n (lv' := [(3, .int 0), (0, .ref (ad a0)), (1, .ref (ad a1))]) G.1 G.2.1 d_Mo_beginWorld_254 rfl hl (by decide) rfl (fun ls hl => ?_)
        unfold wl_Mo_beginWorld_255 at h
        obtain ⟨I_255, μ_255, hI_255, hB_255⟩ := h
        have L_255 : ∀ (n_255 : Nat) (s_h255 : St) (x3h255 : Int32), μ_255 s_h255 x3h255 < n_255 → I_255 s_h255 x3h255 → ∀ (H : Heap) (locs : List Loc), va_P D CL (ws g ad y s_h255) H → va_D A (ws g ad y s_h255) → va_S A s.heap H locs → ∀ ls, lv_has ls 5 [(1, .ref (ad a1)), (3, .int x3h255)] → W p l e ru_Mo_beginWorld s m args below meth c H locs 0 0 Q (F0 m 255 ls []) := by
          intro n_255
          induction n_255 with
          | zero => intro s_h255 x3h255 hμ; exact absurd hμ (Nat.not_lt_zero _)
          | succ n_255 ih_255 =>
            intro s_h255 x3h255 hμ_255 hJ H locs hP hD hS ls hl
            obtain ⟨K_255, hK_255, h⟩ : ∃ K : St → Int32 → Prop, (∀ z (t0 : Int32), K z t0 → I_255 z t0 ∧ μ_255 z t0 < μ_255 s_h255 x3h255) ∧ wb_Mo_beginWorld_255 y Post K a0 a1 s_h255 x3h255 := ⟨_, fun _ _ h => h, hB_255 s_h255 x3h255 hJ⟩
            unfold wb_Mo_beginWorld_255 at h
            refine lv_iload_n G.1 G.2.1 d_Mo_beginWorld_255 rfl (lv_at hl 1 rfl) ?_
            refine lv_iconst (v := 3) G.1 G.2.1 d_Mo_beginWorld_256 (by decide) ?_
            refine lv_icmp_ge (tgt := 287) G.1 G.2.1 d_Mo_beginWorld_257 (by decide) (fun c257 => ?_) (fun c257 => ?_)
            · skip
              have h := h.1 c257
              refine lv_aload_n G.1 G.2.1 d_Mo_beginWorld_287 rfl (lv_at hl 0 rfl) ?_
              refine lv_iconst (v := 0) G.1 G.2.1 d_Mo_beginWorld_288 (by decide) ?_
              refine upfN G hP hD hS h 63 putV h_a1 iMw tMw tMw_ok nMw rfl (by decide) rfl q2821 rfl rfl fV rfl rfl d_Mo_beginWorld_289 (fun s_12 H locs h hP hD hS => ?_)
              refine lv_aload_n G.1 G.2.1 d_Mo_beginWorld_292 rfl (lv_at hl 0 rfl) ?_
              refine lv_bipush (v := 50) G.1 G.2.1 d_Mo_beginWorld_293 (by decide) ?_
              refine upfN G hP hD hS h 65 putV h_a1 iMw tMw tMw_ok nMw rfl (by decide) rfl q2823 rfl rfl fV rfl rfl d_Mo_beginWorld_295 (fun s_13 H locs h hP hD hS => ?_)
              refine lv_aload_n G.1 G.2.1 d_Mo_beginWorld_298 rfl (lv_at hl 0 rfl) ?_
              refine lv_bipush (v := 50) G.1 G.2.1 d_Mo_beginWorld_299 (by decide) ?_
              refine W.eq (g2 := F0 m 301 ls [.int 50, .ref (ad a1)]) rfl ?_
              refine upfN G hP hD hS h 64 putV h_a1 iMw tMw tMw_ok nMw rfl (by decide) rfl q2822 rfl rfl fV rfl rfl d_Mo_beginWorld_301 (fun s_14 H locs h hP hD hS => ?_)
              refine lv_aload_n G.1 G.2.1 d_Mo_beginWorld_304 rfl (lv_at hl 0 rfl) ?_
              refine lv_iconst (v := 0) G.1 G.2.1 d_Mo_beginWorld_305 (by decide) ?_
              refine upfN G hP hD hS h 70 putV h_a1 iMw tMw tMw_ok nMw rfl (by decide) rfl q2832 rfl rfl fV rfl rfl d_Mo_beginWorld_306 (fun s_15 H locs h hP hD hS => ?_)
              refine lv_iconst (v := 0) G.1 G.2.1 d_Mo_beginWorld_309 (by decide) ?_
              refine lv_istore_n (lv' := [(3, .int 0), (1, .ref (ad a1))]) G.1 G.2.1 d_Mo_beginWorld_310 rfl hl (by decide) rfl (fun ls hl => ?_)
              unfold wl_Mo_beginWorld_311 at h
              obtain ⟨I_311, μ_311, hI_311, hB_311⟩ := h
              have L_311 : ∀ (n_311 : Nat) (s_h311 : St) (x3h311 : Int32), μ_311 s_h311 x3h311 < n_311 → I_311 s_h311 x3h311 → ∀ (H : Heap) (locs : List Loc), va_P D CL (ws g ad y s_h311) H → va_D A (ws g ad y s_h311) → va_S A s.heap H locs → ∀ ls, lv_has ls 5 [(1, .ref (ad a1)), (3, .int x3h311)] → W p l e ru_Mo_beginWorld s m args below meth c H locs 0 0 Q (F0 m 311 ls []) := by
                intro n_311
                induction n_311 with
                | zero => intro s_h311 x3h311 hμ; exact absurd hμ (Nat.not_lt_zero _)
                | succ n_311 ih_311 =>
                  intro s_h311 x3h311 hμ_311 hJ H locs hP hD hS ls hl
                  obtain ⟨K_311, hK_311, h⟩ : ∃ K : St → Int32 → Prop, (∀ z (t0 : Int32), K z t0 → I_311 z t0 ∧ μ_311 z t0 < μ_311 s_h311 x3h311) ∧ wb_Mo_beginWorld_311 y Post K a0 a1 s_h311 x3h311 := ⟨_, fun _ _ h => h, hB_311 s_h311 x3h311 hJ⟩
                  unfold wb_Mo_beginWorld_311 at h
                  refine lv_iload_n G.1 G.2.1 d_Mo_beginWorld_311 rfl (lv_at hl 1 rfl) ?_
                  refine lv_bipush (v := 62) G.1 G.2.1 d_Mo_beginWorld_312 (by decide) ?_
                  refine lv_icmp_ge (tgt := 330) G.1 G.2.1 d_Mo_beginWorld_314 (by decide) (fun c314 => ?_) (fun c314 => ?_)
                  · skip
                    have h := h.1 c314
                    refine lv_aload_n G.1 G.2.1 d_Mo_beginWorld_330 rfl (lv_at hl 0 rfl) ?_
                    refine lv_iconst (v := 0) G.1 G.2.1 d_Mo_beginWorld_331 (by decide) ?_
                    refine upfN G hP hD hS h 50 putV h_a1 iMw tMw tMw_ok nMw rfl (by decide) rfl q2799 rfl rfl fV rfl rfl d_Mo_beginWorld_332 (fun s_16 H locs h hP hD hS => ?_)
                    refine lv_iconst (v := 0) G.1 G.2.1 d_Mo_beginWorld_335 (by decide) ?_
                    refine lv_istore_n (lv' := [(3, .int 0), (1, .ref (ad a1))]) G.1 G.2.1 d_Mo_beginWorld_336 rfl hl (by decide) rfl (fun ls hl => ?_)
                    unfold wl_Mo_beginWorld_337 at h
                    obtain ⟨I_337, μ_337, hI_337, hB_337⟩ := h
                    have L_337 : ∀ (n_337 : Nat) (s_h337 : St) (x3h337 : Int32), μ_337 s_h337 x3h337 < n_337 → I_337 s_h337 x3h337 → ∀ (H : Heap) (locs : List Loc), va_P D CL (ws g ad y s_h337) H → va_D A (ws g ad y s_h337) → va_S A s.heap H locs → ∀ ls, lv_has ls 5 [(1, .ref (ad a1)), (3, .int x3h337)] → W p l e ru_Mo_beginWorld s m args below meth c H locs 0 0 Q (F0 m 337 ls []) := by
                      intro n_337
                      induction n_337 with
                      | zero => intro s_h337 x3h337 hμ; exact absurd hμ (Nat.not_lt_zero _)
                      | succ n_337 ih_337 =>
                        intro s_h337 x3h337 hμ_337 hJ H locs hP hD hS ls hl
                        obtain ⟨K_337, hK_337, h⟩ : ∃ K : St → Int32 → Prop, (∀ z (t0 : Int32), K z t0 → I_337 z t0 ∧ μ_337 z t0 < μ_337 s_h337 x3h337) ∧ wb_Mo_beginWorld_337 y Post K a0 a1 s_h337 x3h337 := ⟨_, fun _ _ h => h, hB_337 s_h337 x3h337 hJ⟩
                        unfold wb_Mo_beginWorld_337 at h
                        refine lv_iload_n G.1 G.2.1 d_Mo_beginWorld_337 rfl (lv_at hl 1 rfl) ?_
                        refine lv_sipush (v := 800) G.1 G.2.1 d_Mo_beginWorld_338 (by decide) ?_
                        refine lv_icmp_gt (tgt := 357) G.1 G.2.1 d_Mo_beginWorld_341 (by decide) (fun c341 => ?_) (fun c341 => ?_)
                        · skip
                          have h := h.1 c341
                          refine lv_aload_n G.1 G.2.1 d_Mo_beginWorld_357 rfl (lv_at hl 0 rfl) ?_
                          refine lv_iconst (v := 0) G.1 G.2.1 d_Mo_beginWorld_358 (by decide) ?_
                          refine upfN G hP hD hS h 52 putV h_a1 iMw tMw tMw_ok nMw rfl (by decide) rfl q2802 rfl rfl fV rfl rfl d_Mo_beginWorld_359 (fun s_17 H locs h hP hD hS => ?_)
                          refine lv_aload_n G.1 G.2.1 d_Mo_beginWorld_362 rfl (lv_at hl 0 rfl) ?_
                          refine lv_iconst (v := 0) G.1 G.2.1 d_Mo_beginWorld_363 (by decide) ?_
                          refine upfN G hP hD hS h 56 putV h_a1 iMw tMw tMw_ok nMw rfl (by decide) rfl q2809 rfl rfl fV rfl rfl d_Mo_beginWorld_364 (fun s_18 H locs h hP hD hS => ?_)
                          refine lv_aload_n G.1 G.2.1 d_Mo_beginWorld_367 rfl (lv_at hl 0 rfl) ?_
                          refine lv_iconst (v := 0) G.1 G.2.1 d_Mo_beginWorld_368 (by decide) ?_
                          refine W.eq (g2 := F0 m 369 ls [.int 0, .ref (ad a1)]) rfl ?_
                          refine upfN G hP hD hS h 60 putV h_a1 iMw tMw tMw_ok nMw rfl (by decide) rfl q2816 rfl rfl fV rfl rfl d_Mo_beginWorld_369 (fun s_19 H locs h hP hD hS => ?_)
                          exact hret _ _ _ _ _ _ ls h hP hD hS (Nat.le_refl _) (Nat.le_refl _) d_Mo_beginWorld_372
                        · skip
                          have h := h.2 c341
                          refine lv_aload_n G.1 G.2.1 d_Mo_beginWorld_344 rfl (lv_at hl 0 rfl) ?_
                          refine ugfN (v := .ref (yP y a1 49)) G hP h_a1 iMw rfl 49 (by decide) rfl q2798 rfl rfl d_Mo_beginWorld_345 ?_
                          refine lv_iload_n G.1 G.2.1 d_Mo_beginWorld_348 rfl (lv_at hl 1 rfl) ?_
                          refine lv_iconst (v := 0) G.1 G.2.1 d_Mo_beginWorld_349 (by decide) ?_
                          refine uzast G hP hD hS (kdp h_a1 rfl) (typ h_a1 rfl) h d_Mo_beginWorld_350 (fun s_20 H locs h hP hD hS => ?_)
                          refine lv_iinc (v := x3h337 + 1) (lv' := [(3, .int (x3h337 + 1)), (1, .ref (ad a1))]) G.1 G.2.1 d_Mo_beginWorld_351 hl (k := 1) rfl rfl (by decide) rfl (fun ls hl => ?_)
                          refine lv_goto (tgt := 337) G.1 G.2.1 d_Mo_beginWorld_354 (by decide) ?_
                          have h := hK_337 s_20 (x3h337 + 1) h
                          exact ih_337 s_20 (x3h337 + 1) (Nat.lt_of_lt_of_le h.2 (Nat.le_of_lt_succ hμ_337)) h.1 H locs hP hD hS ls (lv_sub hl [1, 0] rfl)
                    exact L_337 _ s_16 0 (Nat.lt_succ_self _) hI_337 H locs hP hD hS ls (lv_sub hl [1, 0] rfl)
                  · skip
                    have h := h.2 c314
                    refine lv_aload_n G.1 G.2.1 d_Mo_beginWorld_317 rfl (lv_at hl 0 rfl) ?_
                    refine ugfN (v := .ref (yP y a1 71)) G hP h_a1 iMw rfl 71 (by decide) rfl q2834 rfl rfl d_Mo_beginWorld_318 ?_
                    refine lv_iload_n G.1 G.2.1 d_Mo_beginWorld_321 rfl (lv_at hl 1 rfl) ?_
                    refine lv_iconst (v := 0) G.1 G.2.1 d_Mo_beginWorld_322 (by decide) ?_
                    refine uiast G hP hD hS (kdp h_a1 rfl) (typ h_a1 rfl) h d_Mo_beginWorld_323 (fun s_21 H locs h hP hD hS => ?_)
                    refine lv_iinc (v := x3h311 + 1) (lv' := [(3, .int (x3h311 + 1)), (1, .ref (ad a1))]) G.1 G.2.1 d_Mo_beginWorld_324 hl (k := 1) rfl rfl (by decide) rfl (fun ls hl => ?_)
                    refine lv_goto (tgt := 311) G.1 G.2.1 d_Mo_beginWorld_327 (by decide) ?_
                    have h := hK_311 s_21 (x3h311 + 1) h
                    exact ih_311 s_21 (x3h311 + 1) (Nat.lt_of_lt_of_le h.2 (Nat.le_of_lt_succ hμ_311)) h.1 H locs hP hD hS ls (lv_sub hl [1, 0] rfl)
              exact L_311 _ s_15 0 (Nat.lt_succ_self _) hI_311 H locs hP hD hS ls (lv_sub hl [1, 0] rfl)
            · skip
              have h := h.2 c257
              refine lv_aload_n G.1 G.2.1 d_Mo_beginWorld_260 rfl (lv_at hl 0 rfl) ?_
              refine ugfN (v := .ref (yP y a1 62)) G hP h_a1 iMw rfl 62 (by decide) rfl q2820 rfl rfl d_Mo_beginWorld_261 ?_
              refine lv_iload_n G.1 G.2.1 d_Mo_beginWorld_264 rfl (lv_at hl 1 rfl) ?_
              refine uqald G hP (kdp h_a1 rfl) (typ h_a1 rfl) rfl h d_Mo_beginWorld_265 (fun b_22 n_23 h => ?_)
              refine lv_bipush (v := (-2)) G.1 G.2.1 d_Mo_beginWorld_266 (by decide) ?_
              refine upfN G hP hD hS h 0 putV (oa_13 h_a1 n_23) iMr tMr tMr_ok nMr rfl (by decide) rfl q2987 rfl rfl fV rfl rfl d_Mo_beginWorld_268 (fun s_24 H locs h hP hD hS => ?_)
              refine lv_aload_n G.1 G.2.1 d_Mo_beginWorld_271 rfl (lv_at hl 0 rfl) ?_
              refine ugfN (v := .ref (yP y a1 62)) G hP h_a1 iMw rfl 62 (by decide) rfl q2820 rfl rfl d_Mo_beginWorld_272 ?_
              refine W.eq (g2 := F0 m 275 ls [.ref (yP y a1 62)]) rfl ?_
              refine lv_iload_n G.1 G.2.1 d_Mo_beginWorld_275 rfl (lv_at hl 1 rfl) ?_
              refine uqald G hP (kdp h_a1 rfl) (typ h_a1 rfl) rfl h d_Mo_beginWorld_276 (fun b_25 n_26 h => ?_)
              refine lv_iconst (v := 0) G.1 G.2.1 d_Mo_beginWorld_277 (by decide) ?_
              obtain ⟨n_27, h⟩ := h
              refine upfN G hP hD hS h 1 putV (oa_13 h_a1 n_26) iMr tMr tMr_ok nMr rfl (by decide) rfl q2988 rfl rfl fV (nb_n n_27) (nb_f n_27) d_Mo_beginWorld_278 (fun s_28 H locs h hP hD hS => ?_)
              refine lv_iinc (v := x3h255 + 1) (lv' := [(3, .int (x3h255 + 1)), (1, .ref (ad a1))]) G.1 G.2.1 d_Mo_beginWorld_281 hl (k := 1) rfl rfl (by decide) rfl (fun ls hl => ?_)
              refine lv_goto (tgt := 255) G.1 G.2.1 d_Mo_beginWorld_284 (by decide) ?_
              have h := hK_255 s_28 (x3h255 + 1) h
              exact ih_255 s_28 (x3h255 + 1) (Nat.lt_of_lt_of_le h.2 (Nat.le_of_lt_succ hμ_255)) h.1 H locs hP hD hS ls (lv_sub hl [1, 0] rfl)
        exact L_255 _ s_11 0 (Nat.lt_succ_self _) hI_255 H locs hP hD hS ls (lv_sub hl [2, 0] rfl)
      · skip
        have h := h.2 c21
        refine lv_aload_n G.1 G.2.1 d_Mo_beginWorld_24 rfl (lv_at hl 1 rfl) ?_
        refine ugfN (v := .ref (yP y a1 3)) G hP h_a1 iMw rfl 3 (by decide) rfl q2710 rfl rfl d_Mo_beginWorld_25 ?_
        refine lv_iload_n G.1 G.2.1 d_Mo_beginWorld_28 rfl (lv_at hl 2 rfl) ?_
        refine lv_aload_n G.1 G.2.1 d_Mo_beginWorld_29 rfl (lv_at hl 0 rfl) ?_
        refine ugf (v := .int (sV s_h18 a0 8)) G hP h_a0 iMo rfl 8 (by decide) rfl q3072 rfl rfl d_Mo_beginWorld_30 ?_
        refine lv_iload_n G.1 G.2.1 d_Mo_beginWorld_33 rfl (lv_at hl 2 rfl) ?_
        refine lv_iadd G.1 G.2.1 d_Mo_beginWorld_34 ?_
        refine uiast G hP hD hS (kdp h_a1 rfl) (typ h_a1 rfl) h d_Mo_beginWorld_35 (fun s_29 H locs h hP hD hS => ?_)
        refine W.eq (g2 := F0 m 36 ls []) rfl ?_
        refine lv_aload_n G.1 G.2.1 d_Mo_beginWorld_36 rfl (lv_at hl 1 rfl) ?_
        refine ugfN (v := .ref (yP y a1 4)) G hP h_a1 iMw rfl 4 (by decide) rfl q2712 rfl rfl d_Mo_beginWorld_37 ?_
        refine lv_iload_n G.1 G.2.1 d_Mo_beginWorld_40 rfl (lv_at hl 2 rfl) ?_
        refine lv_iload_n G.1 G.2.1 d_Mo_beginWorld_41 rfl (lv_at hl 2 rfl) ?_
        have J_84 : ∀ (s_j84 : St) (x3j84 : Int32) (z1j84 : Int32) (z2j84 : Int32) (H : Heap) (locs : List Loc), wj_Mo_beginWorld_84 y Post K_18 a0 a1 s_j84 x3j84 z1j84 z2j84 → va_P D CL (ws g ad y s_j84) H → va_D A (ws g ad y s_j84) → va_S A s.heap H locs → ∀ ls, lv_has ls 5 [(0, .ref (ad a0)), (1, .ref (ad a1)), (3, .int x3j84)] → W p l e ru_Mo_beginWorld s m args below meth c H locs 0 0 Q (F0 m 84 ls [.int z2j84, .int z1j84, .ref (yP y a1 4)]) := by
          intro s_j84 x3j84 z1j84 z2j84 H locs h hP hD hS ls hl
          unfold wj_Mo_beginWorld_84 at h
          refine uiast G hP hD hS (kdp h_a1 rfl) (typ h_a1 rfl) h d_Mo_beginWorld_84 (fun s_30 H locs h hP hD hS => ?_)
          refine lv_aload_n G.1 G.2.1 d_Mo_beginWorld_85 rfl (lv_at hl 1 rfl) ?_
          refine ugfN (v := .ref (yP y a1 5)) G hP h_a1 iMw rfl 5 (by decide) rfl q2714 rfl rfl d_Mo_beginWorld_86 ?_
          refine lv_iload_n G.1 G.2.1 d_Mo_beginWorld_89 rfl (lv_at hl 2 rfl) ?_
          refine lv_iconst (v := 0) G.1 G.2.1 d_Mo_beginWorld_90 (by decide) ?_
          refine uiast G hP hD hS (kdp h_a1 rfl) (typ h_a1 rfl) h d_Mo_beginWorld_91 (fun s_31 H locs h hP hD hS => ?_)
          refine lv_aload_n G.1 G.2.1 d_Mo_beginWorld_92 rfl (lv_at hl 1 rfl) ?_
          refine ugfN (v := .ref (yP y a1 7)) G hP h_a1 iMw rfl 7 (by decide) rfl q2718 rfl rfl d_Mo_beginWorld_93 ?_
          refine lv_iload_n G.1 G.2.1 d_Mo_beginWorld_96 rfl (lv_at hl 2 rfl) ?_
          refine lv_iconst (v := 0) G.1 G.2.1 d_Mo_beginWorld_97 (by decide) ?_
          refine uiast G hP hD hS (kdp h_a1 rfl) (typ h_a1 rfl) h d_Mo_beginWorld_98 (fun s_32 H locs h hP hD hS => ?_)
          refine W.eq (g2 := F0 m 99 ls []) rfl ?_
          refine lv_aload_n G.1 G.2.1 d_Mo_beginWorld_99 rfl (lv_at hl 1 rfl) ?_
          refine ugfN (v := .ref (yP y a1 8)) G hP h_a1 iMw rfl 8 (by decide) rfl q2720 rfl rfl d_Mo_beginWorld_100 ?_
          refine lv_iload_n G.1 G.2.1 d_Mo_beginWorld_103 rfl (lv_at hl 2 rfl) ?_
          refine lv_iconst (v := 0) G.1 G.2.1 d_Mo_beginWorld_104 (by decide) ?_
          refine uiast G hP hD hS (kdp h_a1 rfl) (typ h_a1 rfl) h d_Mo_beginWorld_105 (fun s_33 H locs h hP hD hS => ?_)
          refine lv_aload_n G.1 G.2.1 d_Mo_beginWorld_106 rfl (lv_at hl 1 rfl) ?_
          refine ugfN (v := .ref (yP y a1 9)) G hP h_a1 iMw rfl 9 (by decide) rfl q2722 rfl rfl d_Mo_beginWorld_107 ?_
          refine lv_iload_n G.1 G.2.1 d_Mo_beginWorld_110 rfl (lv_at hl 2 rfl) ?_
          refine lv_iconst (v := 1) G.1 G.2.1 d_Mo_beginWorld_111 (by decide) ?_
          refine uiast G hP hD hS (kdp h_a1 rfl) (typ h_a1 rfl) h d_Mo_beginWorld_112 (fun s_34 H locs h hP hD hS => ?_)
          refine lv_aload_n G.1 G.2.1 d_Mo_beginWorld_113 rfl (lv_at hl 1 rfl) ?_
          refine ugfN (v := .ref (yP y a1 10)) G hP h_a1 iMw rfl 10 (by decide) rfl q2724 rfl rfl d_Mo_beginWorld_114 ?_
          refine W.eq (g2 := F0 m 117 ls [.ref (yP y a1 10)]) rfl ?_
          refine lv_iload_n G.1 G.2.1 d_Mo_beginWorld_117 rfl (lv_at hl 2 rfl) ?_
          refine lv_iconst (v := 2) G.1 G.2.1 d_Mo_beginWorld_118 (by decide) ?_
          refine uiast G hP hD hS (kdp h_a1 rfl) (typ h_a1 rfl) h d_Mo_beginWorld_119 (fun s_35 H locs h hP hD hS => ?_)
          refine lv_aload_n G.1 G.2.1 d_Mo_beginWorld_120 rfl (lv_at hl 1 rfl) ?_
          refine ugfN (v := .ref (yP y a1 11)) G hP h_a1 iMw rfl 11 (by decide) rfl q2726 rfl rfl d_Mo_beginWorld_121 ?_
          refine lv_iload_n G.1 G.2.1 d_Mo_beginWorld_124 rfl (lv_at hl 2 rfl) ?_
          refine lv_iconst (v := 1) G.1 G.2.1 d_Mo_beginWorld_125 (by decide) ?_
          refine uiast G hP hD hS (kdp h_a1 rfl) (typ h_a1 rfl) h d_Mo_beginWorld_126 (fun s_36 H locs h hP hD hS => ?_)
          refine lv_bipush (v := 12) G.1 G.2.1 d_Mo_beginWorld_127 (by decide) ?_
          refine lv_iload_n G.1 G.2.1 d_Mo_beginWorld_129 rfl (lv_at hl 2 rfl) ?_
          refine lv_imul G.1 G.2.1 d_Mo_beginWorld_130 ?_
          refine lv_istore (lv' := [(4, .int (12 * x3j84)), (0, .ref (ad a0)), (1, .ref (ad a1)), (3, .int x3j84)]) G.1 G.2.1 d_Mo_beginWorld_131 hl (by decide) rfl (fun ls hl => ?_)
          refine W.eq (g2 := F0 m 133 ls []) rfl ?_
          refine lv_aload_n G.1 G.2.1 d_Mo_beginWorld_133 rfl (lv_at hl 2 rfl) ?_
          refine ugfN (v := .ref (yP y a1 18)) G hP h_a1 iMw rfl 18 (by decide) rfl q2740 rfl rfl d_Mo_beginWorld_134 ?_
          refine lv_iload G.1 G.2.1 d_Mo_beginWorld_137 (lv_at hl 0 rfl) ?_
          refine lv_aload_n G.1 G.2.1 d_Mo_beginWorld_139 rfl (lv_at hl 1 rfl) ?_
          refine ugf (v := .int (sV s_36 a0 6)) G hP h_a0 iMo rfl 6 (by decide) rfl q3070 rfl rfl d_Mo_beginWorld_140 ?_
          refine uiast G hP hD hS (kdp h_a1 rfl) (typ h_a1 rfl) h d_Mo_beginWorld_143 (fun s_37 H locs h hP hD hS => ?_)
          refine lv_aload_n G.1 G.2.1 d_Mo_beginWorld_144 rfl (lv_at hl 2 rfl) ?_
          refine ugfN (v := .ref (yP y a1 19)) G hP h_a1 iMw rfl 19 (by decide) rfl q2742 rfl rfl d_Mo_beginWorld_145 ?_
          refine lv_iload G.1 G.2.1 d_Mo_beginWorld_148 (lv_at hl 0 rfl) ?_
          refine lv_aload_n G.1 G.2.1 d_Mo_beginWorld_150 rfl (lv_at hl 1 rfl) ?_
          refine ugf (v := .int (sV s_37 a0 38)) G hP h_a0 iMo rfl 38 (by decide) rfl q3102 rfl rfl d_Mo_beginWorld_151 ?_
          refine uiast G hP hD hS (kdp h_a1 rfl) (typ h_a1 rfl) h d_Mo_beginWorld_154 (fun s_38 H locs h hP hD hS => ?_)
          refine W.eq (g2 := F0 m 155 ls []) rfl ?_
          refine lv_aload_n G.1 G.2.1 d_Mo_beginWorld_155 rfl (lv_at hl 2 rfl) ?_
          refine ugfN (v := .ref (yP y a1 20)) G hP h_a1 iMw rfl 20 (by decide) rfl q2744 rfl rfl d_Mo_beginWorld_156 ?_
          refine lv_iload G.1 G.2.1 d_Mo_beginWorld_159 (lv_at hl 0 rfl) ?_
          refine lv_iconst (v := 0) G.1 G.2.1 d_Mo_beginWorld_161 (by decide) ?_
          refine uiast G hP hD hS (kdp h_a1 rfl) (typ h_a1 rfl) h d_Mo_beginWorld_162 (fun s_39 H locs h hP hD hS => ?_)
          refine lv_aload_n G.1 G.2.1 d_Mo_beginWorld_163 rfl (lv_at hl 2 rfl) ?_
          refine ugfN (v := .ref (yP y a1 21)) G hP h_a1 iMw rfl 21 (by decide) rfl q2746 rfl rfl d_Mo_beginWorld_164 ?_
          refine lv_iload G.1 G.2.1 d_Mo_beginWorld_167 (lv_at hl 0 rfl) ?_
          refine lv_iconst (v := 0) G.1 G.2.1 d_Mo_beginWorld_169 (by decide) ?_
          refine uiast G hP hD hS (kdp h_a1 rfl) (typ h_a1 rfl) h d_Mo_beginWorld_170 (fun s_40 H locs h hP hD hS => ?_)
          refine lv_aload_n G.1 G.2.1 d_Mo_beginWorld_171 rfl (lv_at hl 2 rfl) ?_
          refine ugfN (v := .ref (yP y a1 22)) G hP h_a1 iMw rfl 22 (by decide) rfl q2748 rfl rfl d_Mo_beginWorld_172 ?_
          refine W.eq (g2 := F0 m 175 ls [.ref (yP y a1 22)]) rfl ?_
          refine lv_iload G.1 G.2.1 d_Mo_beginWorld_175 (lv_at hl 0 rfl) ?_
          refine lv_iconst (v := 0) G.1 G.2.1 d_Mo_beginWorld_177 (by decide) ?_
          refine uiast G hP hD hS (kdp h_a1 rfl) (typ h_a1 rfl) h d_Mo_beginWorld_178 (fun s_41 H locs h hP hD hS => ?_)
          refine lv_aload_n G.1 G.2.1 d_Mo_beginWorld_179 rfl (lv_at hl 2 rfl) ?_
          refine ugfN (v := .ref (yP y a1 23)) G hP h_a1 iMw rfl 23 (by decide) rfl q2750 rfl rfl d_Mo_beginWorld_180 ?_
          refine lv_iload G.1 G.2.1 d_Mo_beginWorld_183 (lv_at hl 0 rfl) ?_
          refine lv_iconst (v := 0) G.1 G.2.1 d_Mo_beginWorld_185 (by decide) ?_
          refine uiast G hP hD hS (kdp h_a1 rfl) (typ h_a1 rfl) h d_Mo_beginWorld_186 (fun s_42 H locs h hP hD hS => ?_)
          refine lv_aload_n G.1 G.2.1 d_Mo_beginWorld_187 rfl (lv_at hl 2 rfl) ?_
          refine ugfN (v := .ref (yP y a1 24)) G hP h_a1 iMw rfl 24 (by decide) rfl q2752 rfl rfl d_Mo_beginWorld_188 ?_
          refine lv_iload G.1 G.2.1 d_Mo_beginWorld_191 (lv_at hl 0 rfl) ?_
          refine lv_iconst (v := 0) G.1 G.2.1 d_Mo_beginWorld_193 (by decide) ?_
          refine W.eq (g2 := F0 m 194 ls [.int 0, .int (12 * x3j84), .ref (yP y a1 24)]) rfl ?_
          refine uiast G hP hD hS (kdp h_a1 rfl) (typ h_a1 rfl) h d_Mo_beginWorld_194 (fun s_43 H locs h hP hD hS => ?_)
          refine lv_aload_n G.1 G.2.1 d_Mo_beginWorld_195 rfl (lv_at hl 2 rfl) ?_
          refine ugfN (v := .ref (yP y a1 25)) G hP h_a1 iMw rfl 25 (by decide) rfl q2754 rfl rfl d_Mo_beginWorld_196 ?_
          refine lv_iload G.1 G.2.1 d_Mo_beginWorld_199 (lv_at hl 0 rfl) ?_
          refine lv_iconst (v := 0) G.1 G.2.1 d_Mo_beginWorld_201 (by decide) ?_
          refine uiast G hP hD hS (kdp h_a1 rfl) (typ h_a1 rfl) h d_Mo_beginWorld_202 (fun s_44 H locs h hP hD hS => ?_)
          refine lv_iinc (v := x3j84 + 1) (lv' := [(3, .int (x3j84 + 1)), (4, .int (12 * x3j84)), (0, .ref (ad a0)), (1, .ref (ad a1))]) G.1 G.2.1 d_Mo_beginWorld_203 hl (k := 3) rfl rfl (by decide) rfl (fun ls hl => ?_)
          refine lv_goto (tgt := 18) G.1 G.2.1 d_Mo_beginWorld_206 (by decide) ?_
          have h := hK_18 s_44 (x3j84 + 1) h
          exact ih_18 s_44 (x3j84 + 1) (Nat.lt_of_lt_of_le h.2 (Nat.le_of_lt_succ hμ_18)) h.1 H locs hP hD hS ls (lv_sub hl [2, 3, 0] rfl)
        refine lv_if_ne (tgt := 50) G.1 G.2.1 d_Mo_beginWorld_42 (by decide) (fun c42 => ?_) (fun c42 => ?_)
        · skip
          have h := h.1 c42
          refine lv_iload_n G.1 G.2.1 d_Mo_beginWorld_50 rfl (lv_at hl 2 rfl) ?_
          refine lv_iconst (v := 1) G.1 G.2.1 d_Mo_beginWorld_51 (by decide) ?_
          refine lv_icmp_ne (tgt := 62) G.1 G.2.1 d_Mo_beginWorld_52 (by decide) (fun c52 => ?_) (fun c52 => ?_)
          · skip
            have h := h.1 c52
            refine lv_iload_n G.1 G.2.1 d_Mo_beginWorld_62 rfl (lv_at hl 2 rfl) ?_
            refine lv_bipush (v := 10) G.1 G.2.1 d_Mo_beginWorld_63 (by decide) ?_
            refine lv_icmp_gt (tgt := 77) G.1 G.2.1 d_Mo_beginWorld_65 (by decide) (fun c65 => ?_) (fun c65 => ?_)
            · skip
              have h := h.1 c65
              refine lv_aload_n G.1 G.2.1 d_Mo_beginWorld_77 rfl (lv_at hl 0 rfl) ?_
              refine W.eq (g2 := F0 m 78 ls [.ref (ad a0), .int x3h18, .ref (yP y a1 4)]) rfl ?_
              refine ugf (v := .int (sV s_29 a0 8)) G hP h_a0 iMo rfl 8 (by decide) rfl q3072 rfl rfl d_Mo_beginWorld_78 ?_
              refine lv_bipush (v := 10) G.1 G.2.1 d_Mo_beginWorld_81 (by decide) ?_
              refine lv_iadd G.1 G.2.1 d_Mo_beginWorld_83 ?_
              exact J_84 s_29 x3h18 x3h18 ((sV s_29 a0 8) + 10) H locs h hP hD hS ls (lv_sub hl [0, 1, 2] rfl)
            · skip
              have h := h.2 c65
              refine lv_aload_n G.1 G.2.1 d_Mo_beginWorld_68 rfl (lv_at hl 0 rfl) ?_
              refine W.eq (g2 := F0 m 69 ls [.ref (ad a0), .int x3h18, .ref (yP y a1 4)]) rfl ?_
              refine ugf (v := .int (sV s_29 a0 8)) G hP h_a0 iMo rfl 8 (by decide) rfl q3072 rfl rfl d_Mo_beginWorld_69 ?_
              refine lv_iconst (v := 1) G.1 G.2.1 d_Mo_beginWorld_72 (by decide) ?_
              refine lv_iadd G.1 G.2.1 d_Mo_beginWorld_73 ?_
              refine lv_goto (tgt := 84) G.1 G.2.1 d_Mo_beginWorld_74 (by decide) ?_
              exact J_84 s_29 x3h18 x3h18 ((sV s_29 a0 8) + 1) H locs h hP hD hS ls (lv_sub hl [0, 1, 2] rfl)
          · skip
            have h := h.2 c52
            refine lv_aload_n G.1 G.2.1 d_Mo_beginWorld_55 rfl (lv_at hl 0 rfl) ?_
            refine ugf (v := .int (sV s_29 a0 8)) G hP h_a0 iMo rfl 8 (by decide) rfl q3072 rfl rfl d_Mo_beginWorld_56 ?_
            refine lv_goto (tgt := 84) G.1 G.2.1 d_Mo_beginWorld_59 (by decide) ?_
            exact J_84 s_29 x3h18 x3h18 (sV s_29 a0 8) H locs h hP hD hS ls (lv_sub hl [0, 1, 2] rfl)
        · skip
          have h := h.2 c42
          refine lv_bipush (v := (-2)) G.1 G.2.1 d_Mo_beginWorld_45 (by decide) ?_
          refine lv_goto (tgt := 84) G.1 G.2.1 d_Mo_beginWorld_47 (by decide) ?_
          exact J_84 s_29 x3h18 x3h18 (-2) H locs h hP hD hS ls (lv_sub hl [0, 1, 2] rfl)
  exact L_18 _ s_4 0 (Nat.lt_succ_self _) hI_18 H locs hP hD hS ls (lv_sub hl [1, 2, 0] rfl)
theorem q3108 : Cond.fieldLink "ClassWorksModel" 263 "ClassWorksModel" "worlds" "[LClassWorksModel$World;" ∈ lw_ok := lw_okmem (List.mem_of_getElem? (i := 3108) (by decide +kernel)) rfl
theorem q3474 : Cond.methodLink "ClassWorksModel" 1121 y_Mo_beginWorld ∈ lw_ok := lw_okmem (List.mem_of_getElem? (i := 3474) (by decide +kernel)) rfl
theorem q3477 : Cond.code y_Mo_beginWorld b_Mo_beginWorld 5 (none) ∈ lw_ok := lw_okmem (List.mem_of_getElem? (i := 3477) (by decide +kernel)) rfl
theorem q3476 : Cond.instanceMethod y_Mo_beginWorld ∈ lw_ok := lw_okmem (List.mem_of_getElem? (i := 3476) (by decide +kernel)) rfl
theorem q176 : Cond.selects y_Mo_beginWorld.cls y_Mo_beginWorld y_Mo_beginWorld ∈ lw_ok := lw_okmem (List.mem_of_getElem? (i := 176) (by decide +kernel)) rfl
theorem w9_Mo_beginWorld : CWv y_Mo_beginWorld b_Mo_beginWorld 5 (none) 2 ∧ Cond.instanceMethod y_Mo_beginWorld ∈ lw_ok ∧ Cond.selects y_Mo_beginWorld.cls y_Mo_beginWorld y_Mo_beginWorld ∈ lw_ok := ⟨⟨q3477, q348, by decide +kernel, by decide +kernel, by decide +kernel⟩, q3476, q176⟩
def y_Mo_world : MethodName := ⟨"ClassWorksModel", "world", "(I)I"⟩
abbrev b_Mo_world : ByteArray := prog_14_method_129_code
theorem d_Mo_world_0 : decode b_Mo_world 0 = .ok (.iload_n 1, 1) := by decide +kernel
theorem d_Mo_world_1 : decode b_Mo_world 1 = .ok (.ifCond .lt 10, 3) := by decide +kernel
theorem d_Mo_world_4 : decode b_Mo_world 4 = .ok (.iload_n 1, 1) := by decide +kernel
theorem d_Mo_world_5 : decode b_Mo_world 5 = .ok (.sipush 255, 3) := by decide +kernel
theorem d_Mo_world_8 : decode b_Mo_world 8 = .ok (.if_icmp .le 5, 3) := by decide +kernel
theorem d_Mo_world_11 : decode b_Mo_world 11 = .ok (.iconst (-1), 1) := by decide +kernel
theorem d_Mo_world_12 : decode b_Mo_world 12 = .ok (.ireturn, 1) := by decide +kernel
theorem d_Mo_world_13 : decode b_Mo_world 13 = .ok (.iconst 0, 1) := by decide +kernel
theorem d_Mo_world_14 : decode b_Mo_world 14 = .ok (.istore_n 2, 1) := by decide +kernel
theorem d_Mo_world_15 : decode b_Mo_world 15 = .ok (.iload_n 2, 1) := by decide +kernel
theorem d_Mo_world_16 : decode b_Mo_world 16 = .ok (.iconst 3, 1) := by decide +kernel
theorem d_Mo_world_17 : decode b_Mo_world 17 = .ok (.if_icmp .ge 34, 3) := by decide +kernel
theorem d_Mo_world_20 : decode b_Mo_world 20 = .ok (.aload_n 0, 1) := by decide +kernel
theorem d_Mo_world_21 : decode b_Mo_world 21 = .ok (.getfield 263, 3) := by decide +kernel
theorem d_Mo_world_24 : decode b_Mo_world 24 = .ok (.iload_n 2, 1) := by decide +kernel
theorem d_Mo_world_25 : decode b_Mo_world 25 = .ok (.aaload, 1) := by decide +kernel
theorem d_Mo_world_26 : decode b_Mo_world 26 = .ok (.getfield 413, 3) := by decide +kernel
theorem d_Mo_world_29 : decode b_Mo_world 29 = .ok (.ifCond .ne 16, 3) := by decide +kernel
theorem d_Mo_world_32 : decode b_Mo_world 32 = .ok (.aload_n 0, 1) := by decide +kernel
theorem d_Mo_world_33 : decode b_Mo_world 33 = .ok (.aload_n 0, 1) := by decide +kernel
theorem d_Mo_world_34 : decode b_Mo_world 34 = .ok (.getfield 263, 3) := by decide +kernel
theorem d_Mo_world_37 : decode b_Mo_world 37 = .ok (.iload_n 2, 1) := by decide +kernel
theorem d_Mo_world_38 : decode b_Mo_world 38 = .ok (.aaload, 1) := by decide +kernel
theorem d_Mo_world_39 : decode b_Mo_world 39 = .ok (.iload_n 1, 1) := by decide +kernel
theorem d_Mo_world_40 : decode b_Mo_world 40 = .ok (.invokevirtual 1121, 3) := by decide +kernel
theorem d_Mo_world_43 : decode b_Mo_world 43 = .ok (.iload_n 2, 1) := by decide +kernel
theorem d_Mo_world_44 : decode b_Mo_world 44 = .ok (.ireturn, 1) := by decide +kernel
theorem d_Mo_world_45 : decode b_Mo_world 45 = .ok (.iinc 2 1, 3) := by decide +kernel
theorem d_Mo_world_48 : decode b_Mo_world 48 = .ok (.goto (-33), 3) := by decide +kernel
theorem d_Mo_world_51 : decode b_Mo_world 51 = .ok (.bipush (-3), 2) := by decide +kernel
theorem d_Mo_world_53 : decode b_Mo_world 53 = .ok (.ireturn, 1) := by decide +kernel
abbrev ru_Mo_world : Room := { frames := 1, cells := 0, slots := 0, locals := 24 }
def wj_Mo_world_11 (y : Ly) (Post : St → Int32 → Prop) (a0 : Nat) (s_j11 : St) : Prop := Post s_j11 (-1)
def wb_Mo_world_15 (y : Ly) (Post : St → Int32 → Prop) (K_15 : St → Int32 → Int32 → Prop) (a0 : Nat) (s_h15 : St) (x1h15 : Int32) (x2h15 : Int32) : Prop := ((3 ≤ x2h15 → Post s_h15 (-3)) ∧ (¬ (3 ≤ x2h15) → xQ y a0 44 x2h15 (fun b_1 : Nat => ((¬ (sV s_h15 b_1 0) = 0 → K_15 s_h15 x1h15 (x2h15 + 1)) ∧ ((sV s_h15 b_1 0) = 0 → xQ y a0 44 x2h15 (fun b_3 : Nat => wu_Mo_beginWorld y (fun (s_6 : St) => Post s_6 x2h15) s_h15 a0 b_3 x1h15))))))
def wl_Mo_world_15 (y : Ly) (Post : St → Int32 → Prop) (a0 : Nat) (s_h15 : St) (x1h15 : Int32) (x2h15 : Int32) : Prop := ∃ (I : St → Int32 → Int32 → Prop) (μ : St → Int32 → Int32 → Nat), I s_h15 x1h15 x2h15 ∧ ∀ (u : St) (t0 : Int32) (t1 : Int32), I u t0 t1 → wb_Mo_world_15 y Post (fun z t0q t1q => I z t0q t1q ∧ μ z t0q t1q < μ u t0 t1) a0 u t0 t1
def wu_Mo_world (y : Ly) (Post : St → Int32 → Prop) (σ : St) (a0 : Nat) (v1 : Int32) : Prop := ((v1 < 0 → wj_Mo_world_11 y Post a0 σ) ∧ (¬ (v1 < 0) → ((v1 ≤ 255 → wl_Mo_world_15 y Post a0 σ v1 0) ∧ (¬ (v1 ≤ 255) → wj_Mo_world_11 y Post a0 σ))))
set_option maxHeartbeats 4000000 in
set_option maxRecDepth 100000 in
theorem cu_Mo_world (l : Launch) (D : va_G) (g : Nat → ClassId) (ad : Nat → Nat) (y : Ly) (Post : St → Int32 → Prop) (σ : St) (a0 : Nat) (v1 : Int32) (sz : Nat) (h_a0 : cl a0 = 14) (h : wu_Mo_world y Post σ a0 v1) : Met l y_Mo_world (mw y_Mo_world b_Mo_world 3 (some .int)) ru_Mo_world (PC g D [] [.ref (ad a0), .int v1] sz (ws g ad y σ)) (va_Qi (fun (r : Int32) (u : St) => Post u r) (QW D (va_A (ws g ad y σ) sz) (fun u => ws g ad y u)) (va_A (ws g ad y σ) sz)) 0 0 (va_A (ws g ad y σ) sz) := by
  refine ofI (by decide +kernel) (Nat.le_of_ble_eq_true rfl) ?_
  intro p e s m args below meth c A Q ls H locs G hsz hP hD hS hl hret
  subst hsz
  have hl : lv_has ls 3 [(0, .ref (ad a0)), (1, .int v1)] := hl
  unfold wu_Mo_world at h
  refine lv_iload_n G.1 G.2.1 d_Mo_world_0 rfl (lv_at hl 1 rfl) ?_
  have J_11 : ∀ (s_j11 : St) (H : Heap) (locs : List Loc), wj_Mo_world_11 y Post a0 s_j11 → va_P D CL (ws g ad y s_j11) H → va_D A (ws g ad y s_j11) → va_S A s.heap H locs → ∀ ls, lv_has ls 3 [] → W p l e ru_Mo_world s m args below meth c H locs 0 0 Q (F0 m 11 ls []) := by
    intro s_j11 H locs h hP hD hS ls hl
    unfold wj_Mo_world_11 at h
    refine lv_iconst (v := (-1)) G.1 G.2.1 d_Mo_world_11 (by decide) ?_
    exact hret _ _ _ _ _ _ _ ls h hP hD hS (Nat.le_refl _) (Nat.le_refl _) d_Mo_world_12
  refine lv_if_lt (tgt := 11) G.1 G.2.1 d_Mo_world_1 (by decide) (fun c1 => ?_) (fun c1 => ?_)
  · skip
    have h := h.1 c1
    exact J_11 σ H locs h hP hD hS ls (lv_sub hl [] rfl)
  · skip
    have h := h.2 c1
    refine lv_iload_n G.1 G.2.1 d_Mo_world_4 rfl (lv_at hl 1 rfl) ?_
    refine lv_sipush (v := 255) G.1 G.2.1 d_Mo_world_5 (by decide) ?_
    refine lv_icmp_le (tgt := 13) G.1 G.2.1 d_Mo_world_8 (by decide) (fun c8 => ?_) (fun c8 => ?_)
    · skip
      have h := h.1 c8
      refine lv_iconst (v := 0) G.1 G.2.1 d_Mo_world_13 (by decide) ?_
      refine lv_istore_n (lv' := [(2, .int 0), (0, .ref (ad a0)), (1, .int v1)]) G.1 G.2.1 d_Mo_world_14 rfl hl (by decide) rfl (fun ls hl => ?_)
      unfold wl_Mo_world_15 at h
      obtain ⟨I_15, μ_15, hI_15, hB_15⟩ := h
      have L_15 : ∀ (n_15 : Nat) (s_h15 : St) (x1h15 : Int32) (x2h15 : Int32), μ_15 s_h15 x1h15 x2h15 < n_15 → I_15 s_h15 x1h15 x2h15 → ∀ (H : Heap) (locs : List Loc), va_P D CL (ws g ad y s_h15) H → va_D A (ws g ad y s_h15) → va_S A s.heap H locs → ∀ ls, lv_has ls 3 [(0, .ref (ad a0)), (1, .int x1h15), (2, .int x2h15)] → W p l e ru_Mo_world s m args below meth c H locs 0 0 Q (F0 m 15 ls []) := by
        intro n_15
        induction n_15 with
        | zero => intro s_h15 x1h15 x2h15 hμ; exact absurd hμ (Nat.not_lt_zero _)
        | succ n_15 ih_15 =>
          intro s_h15 x1h15 x2h15 hμ_15 hJ H locs hP hD hS ls hl
          obtain ⟨K_15, hK_15, h⟩ : ∃ K : St → Int32 → Int32 → Prop, (∀ z (t0 : Int32) (t1 : Int32), K z t0 t1 → I_15 z t0 t1 ∧ μ_15 z t0 t1 < μ_15 s_h15 x1h15 x2h15) ∧ wb_Mo_world_15 y Post K a0 s_h15 x1h15 x2h15 := ⟨_, fun _ _ _ h => h, hB_15 s_h15 x1h15 x2h15 hJ⟩
          unfold wb_Mo_world_15 at h
          refine lv_iload_n G.1 G.2.1 d_Mo_world_15 rfl (lv_at hl 2 rfl) ?_
          refine lv_iconst (v := 3) G.1 G.2.1 d_Mo_world_16 (by decide) ?_
          refine lv_icmp_ge (tgt := 51) G.1 G.2.1 d_Mo_world_17 (by decide) (fun c17 => ?_) (fun c17 => ?_)
          · skip
            have h := h.1 c17
            refine lv_bipush (v := (-3)) G.1 G.2.1 d_Mo_world_51 (by decide) ?_
            exact hret _ _ _ _ _ _ _ ls h hP hD hS (Nat.le_refl _) (Nat.le_refl _) d_Mo_world_53
          · skip
            have h := h.2 c17
            refine lv_aload_n G.1 G.2.1 d_Mo_world_20 rfl (lv_at hl 0 rfl) ?_
            refine ugf (v := .ref (yP y a0 44)) G hP h_a0 iMo rfl 44 (by decide) rfl q3108 rfl rfl d_Mo_world_21 ?_
            refine lv_iload_n G.1 G.2.1 d_Mo_world_24 rfl (lv_at hl 2 rfl) ?_
            refine uqald G hP (kdp h_a0 rfl) (typ h_a0 rfl) rfl h d_Mo_world_25 (fun b_1 n_2 h => ?_)
            refine ugfN (v := .int (sV s_h15 b_1 0)) G hP (oa_14 h_a0 n_2) iMw rfl 0 (by decide) rfl q2706 rfl rfl d_Mo_world_26 ?_
            refine lv_if_ne (tgt := 45) G.1 G.2.1 d_Mo_world_29 (by decide) (fun c29 => ?_) (fun c29 => ?_)
            · skip
              have h := h.1 c29
              refine lv_iinc (v := x2h15 + 1) (lv' := [(2, .int (x2h15 + 1)), (0, .ref (ad a0)), (1, .int x1h15)]) G.1 G.2.1 d_Mo_world_45 hl (k := 2) rfl rfl (by decide) rfl (fun ls hl => ?_)
              refine lv_goto (tgt := 15) G.1 G.2.1 d_Mo_world_48 (by decide) ?_
              have h := hK_15 s_h15 x1h15 (x2h15 + 1) h
              exact ih_15 s_h15 x1h15 (x2h15 + 1) (Nat.lt_of_lt_of_le h.2 (Nat.le_of_lt_succ hμ_15)) h.1 H locs hP hD hS ls (lv_sub hl [1, 2, 0] rfl)
            · skip
              have h := h.2 c29
              refine lv_aload_n G.1 G.2.1 d_Mo_world_32 rfl (lv_at hl 0 rfl) ?_
              refine lv_aload_n G.1 G.2.1 d_Mo_world_33 rfl (lv_at hl 0 rfl) ?_
              refine W.eq (g2 := F0 m 34 ls [.ref (ad a0), .ref (ad a0)]) rfl ?_
              refine ugf (v := .ref (yP y a0 44)) G hP h_a0 iMo rfl 44 (by decide) rfl q3108 rfl rfl d_Mo_world_34 ?_
              refine lv_iload_n G.1 G.2.1 d_Mo_world_37 rfl (lv_at hl 2 rfl) ?_
              refine uqald G hP (kdp h_a0 rfl) (typ h_a0 rfl) rfl h d_Mo_world_38 (fun b_3 n_4 h => ?_)
              refine lv_iload_n G.1 G.2.1 d_Mo_world_39 rfl (lv_at hl 1 rfl) ?_
              refine ucVv (As := [.ref (ad b_3), .int x1h15]) (rest := []) G hP hD hS (cu_Mo_beginWorld l D g ad y _ s_h15 a0 b_3 x1h15 H.size h_a0 (oa_14 h_a0 n_4) h) w9_Mo_beginWorld q3474 ⟨Nat.le_of_ble_eq_true rfl, Nat.le_of_ble_eq_true rfl⟩ rfl rfl h_a0 (q := (RMo, TMo, 131)) rfl rfl hl.1 rfl (Nat.le_of_ble_eq_true rfl) rfl ⟨Nat.le_refl _, Nat.le_refl _⟩ d_Mo_world_40 (fun s_6 H locs h hP hD hS => ?_)
              refine lv_iload_n G.1 G.2.1 d_Mo_world_43 rfl (lv_at hl 2 rfl) ?_
              exact hret _ _ _ _ _ _ _ ls h hP hD hS (Nat.le_refl _) (Nat.le_refl _) d_Mo_world_44
      exact L_15 _ σ v1 0 (Nat.lt_succ_self _) hI_15 H locs hP hD hS ls (lv_sub hl [1, 2, 0] rfl)
    · skip
      have h := h.2 c8
      exact J_11 σ H locs h hP hD hS ls (lv_sub hl [] rfl)
def y_Mo_isWorld : MethodName := ⟨"ClassWorksModel", "isWorld", "(I)Z"⟩
abbrev b_Mo_isWorld : ByteArray := prog_14_method_127_code
theorem d_Mo_isWorld_0 : decode b_Mo_isWorld 0 = .ok (.iload_n 1, 1) := by decide +kernel
theorem d_Mo_isWorld_1 : decode b_Mo_isWorld 1 = .ok (.ifCond .lt 24, 3) := by decide +kernel
theorem d_Mo_isWorld_4 : decode b_Mo_isWorld 4 = .ok (.iload_n 1, 1) := by decide +kernel
theorem d_Mo_isWorld_5 : decode b_Mo_isWorld 5 = .ok (.iconst 3, 1) := by decide +kernel
theorem d_Mo_isWorld_6 : decode b_Mo_isWorld 6 = .ok (.if_icmp .ge 19, 3) := by decide +kernel
theorem d_Mo_isWorld_9 : decode b_Mo_isWorld 9 = .ok (.aload_n 0, 1) := by decide +kernel
theorem d_Mo_isWorld_10 : decode b_Mo_isWorld 10 = .ok (.getfield 263, 3) := by decide +kernel
theorem d_Mo_isWorld_13 : decode b_Mo_isWorld 13 = .ok (.iload_n 1, 1) := by decide +kernel
theorem d_Mo_isWorld_14 : decode b_Mo_isWorld 14 = .ok (.aaload, 1) := by decide +kernel
theorem d_Mo_isWorld_15 : decode b_Mo_isWorld 15 = .ok (.getfield 413, 3) := by decide +kernel
theorem d_Mo_isWorld_18 : decode b_Mo_isWorld 18 = .ok (.ifCond .eq 7, 3) := by decide +kernel
theorem d_Mo_isWorld_21 : decode b_Mo_isWorld 21 = .ok (.iconst 1, 1) := by decide +kernel
theorem d_Mo_isWorld_22 : decode b_Mo_isWorld 22 = .ok (.goto 4, 3) := by decide +kernel
theorem d_Mo_isWorld_25 : decode b_Mo_isWorld 25 = .ok (.iconst 0, 1) := by decide +kernel
theorem d_Mo_isWorld_26 : decode b_Mo_isWorld 26 = .ok (.ireturn, 1) := by decide +kernel
abbrev ru_Mo_isWorld : Room := { frames := 0, cells := 0, slots := 0, locals := 0 }
def wj_Mo_isWorld_26 (y : Ly) (Post : St → Int32 → Prop) (a0 : Nat) (s_j26 : St) (z0j26 : Int32) : Prop := (nb z0j26 ∧ Post s_j26 z0j26)
def wj_Mo_isWorld_25 (y : Ly) (Post : St → Int32 → Prop) (a0 : Nat) (s_j25 : St) : Prop := wj_Mo_isWorld_26 y Post a0 s_j25 0
def wu_Mo_isWorld (y : Ly) (Post : St → Int32 → Prop) (σ : St) (a0 : Nat) (v1 : Int32) : Prop := ((v1 < 0 → wj_Mo_isWorld_25 y Post a0 σ) ∧ (¬ (v1 < 0) → ((3 ≤ v1 → wj_Mo_isWorld_25 y Post a0 σ) ∧ (¬ (3 ≤ v1) → xQ y a0 44 v1 (fun b_1 : Nat => (((sV σ b_1 0) = 0 → wj_Mo_isWorld_25 y Post a0 σ) ∧ (¬ ((sV σ b_1 0) = 0) → wj_Mo_isWorld_26 y Post a0 σ 1)))))))
set_option maxHeartbeats 4000000 in
set_option maxRecDepth 100000 in
theorem cu_Mo_isWorld (l : Launch) (D : va_G) (g : Nat → ClassId) (ad : Nat → Nat) (y : Ly) (Post : St → Int32 → Prop) (σ : St) (a0 : Nat) (v1 : Int32) (sz : Nat) (h_a0 : cl a0 = 14) (h : wu_Mo_isWorld y Post σ a0 v1) : Met l y_Mo_isWorld (mw y_Mo_isWorld b_Mo_isWorld 2 (some (.boolean))) ru_Mo_isWorld (PC g D [] [.ref (ad a0), .int v1] sz (ws g ad y σ)) (va_Qi (fun (r : Int32) (u : St) => Post u r) (QW D (va_A (ws g ad y σ) sz) (fun u => ws g ad y u)) (va_A (ws g ad y σ) sz)) 0 0 (va_A (ws g ad y σ) sz) := by
  refine ofZ (by decide +kernel) (Nat.le_of_ble_eq_true rfl) ?_
  intro p e s m args below meth c A Q ls H locs G hsz hP hD hS hl hret
  subst hsz
  have hl : lv_has ls 2 [(0, .ref (ad a0)), (1, .int v1)] := hl
  unfold wu_Mo_isWorld at h
  refine lv_iload_n G.1 G.2.1 d_Mo_isWorld_0 rfl (lv_at hl 1 rfl) ?_
  have J_26 : ∀ (s_j26 : St) (z0j26 : Int32) (H : Heap) (locs : List Loc), wj_Mo_isWorld_26 y Post a0 s_j26 z0j26 → va_P D CL (ws g ad y s_j26) H → va_D A (ws g ad y s_j26) → va_S A s.heap H locs → ∀ ls, lv_has ls 2 [] → W p l e ru_Mo_isWorld s m args below meth c H locs 0 0 Q (F0 m 26 ls [.int z0j26]) := by
    intro s_j26 z0j26 H locs h hP hD hS ls hl
    unfold wj_Mo_isWorld_26 at h
    exact hret _ _ _ _ _ _ _ ls (nb_n h.1) h.2 hP hD hS (Nat.le_refl _) (Nat.le_refl _) d_Mo_isWorld_26
  have J_25 : ∀ (s_j25 : St) (H : Heap) (locs : List Loc), wj_Mo_isWorld_25 y Post a0 s_j25 → va_P D CL (ws g ad y s_j25) H → va_D A (ws g ad y s_j25) → va_S A s.heap H locs → ∀ ls, lv_has ls 2 [] → W p l e ru_Mo_isWorld s m args below meth c H locs 0 0 Q (F0 m 25 ls []) := by
    intro s_j25 H locs h hP hD hS ls hl
    unfold wj_Mo_isWorld_25 at h
    refine lv_iconst (v := 0) G.1 G.2.1 d_Mo_isWorld_25 (by decide) ?_
    exact J_26 s_j25 0 H locs h hP hD hS ls (lv_sub hl [] rfl)
  refine lv_if_lt (tgt := 25) G.1 G.2.1 d_Mo_isWorld_1 (by decide) (fun c1 => ?_) (fun c1 => ?_)
  · skip
    have h := h.1 c1
    exact J_25 σ H locs h hP hD hS ls (lv_sub hl [] rfl)
  · skip
    have h := h.2 c1
    refine lv_iload_n G.1 G.2.1 d_Mo_isWorld_4 rfl (lv_at hl 1 rfl) ?_
    refine lv_iconst (v := 3) G.1 G.2.1 d_Mo_isWorld_5 (by decide) ?_
    refine lv_icmp_ge (tgt := 25) G.1 G.2.1 d_Mo_isWorld_6 (by decide) (fun c6 => ?_) (fun c6 => ?_)
    · skip
      have h := h.1 c6
      exact J_25 σ H locs h hP hD hS ls (lv_sub hl [] rfl)
    · skip
      have h := h.2 c6
      refine lv_aload_n G.1 G.2.1 d_Mo_isWorld_9 rfl (lv_at hl 0 rfl) ?_
      refine ugf (v := .ref (yP y a0 44)) G hP h_a0 iMo rfl 44 (by decide) rfl q3108 rfl rfl d_Mo_isWorld_10 ?_
      refine lv_iload_n G.1 G.2.1 d_Mo_isWorld_13 rfl (lv_at hl 1 rfl) ?_
      refine uqald G hP (kdp h_a0 rfl) (typ h_a0 rfl) rfl h d_Mo_isWorld_14 (fun b_1 n_2 h => ?_)
      refine ugfN (v := .int (sV σ b_1 0)) G hP (oa_14 h_a0 n_2) iMw rfl 0 (by decide) rfl q2706 rfl rfl d_Mo_isWorld_15 ?_
      refine lv_if_eq (tgt := 25) G.1 G.2.1 d_Mo_isWorld_18 (by decide) (fun c18 => ?_) (fun c18 => ?_)
      · skip
        have h := h.1 c18
        exact J_25 σ H locs h hP hD hS ls (lv_sub hl [] rfl)
      · skip
        have h := h.2 c18
        refine W.eq (g2 := F0 m 21 ls []) rfl ?_
        refine lv_iconst (v := 1) G.1 G.2.1 d_Mo_isWorld_21 (by decide) ?_
        refine lv_goto (tgt := 26) G.1 G.2.1 d_Mo_isWorld_22 (by decide) ?_
        exact J_26 σ 1 H locs h hP hD hS ls (lv_sub hl [] rfl)
theorem q3482 : Cond.methodLink "ClassWorksModel" 1118 y_Mo_isWorld ∈ lw_ok := lw_okmem (List.mem_of_getElem? (i := 3482) (by decide +kernel)) rfl
theorem q3485 : Cond.code y_Mo_isWorld b_Mo_isWorld 2 (some (.boolean)) ∈ lw_ok := lw_okmem (List.mem_of_getElem? (i := 3485) (by decide +kernel)) rfl
theorem q3484 : Cond.instanceMethod y_Mo_isWorld ∈ lw_ok := lw_okmem (List.mem_of_getElem? (i := 3484) (by decide +kernel)) rfl
theorem q177 : Cond.selects y_Mo_isWorld.cls y_Mo_isWorld y_Mo_isWorld ∈ lw_ok := lw_okmem (List.mem_of_getElem? (i := 177) (by decide +kernel)) rfl
theorem w9_Mo_isWorld : CWv y_Mo_isWorld b_Mo_isWorld 2 (some (.boolean)) 1 ∧ Cond.instanceMethod y_Mo_isWorld ∈ lw_ok ∧ Cond.selects y_Mo_isWorld.cls y_Mo_isWorld y_Mo_isWorld ∈ lw_ok := ⟨⟨q3485, q348, by decide +kernel, by decide +kernel, by decide +kernel⟩, q3484, q177⟩
def y_Mo_drop : MethodName := ⟨"ClassWorksModel", "drop", "(I)I"⟩
abbrev b_Mo_drop : ByteArray := prog_14_method_130_code
theorem d_Mo_drop_0 : decode b_Mo_drop 0 = .ok (.aload_n 0, 1) := by decide +kernel
theorem d_Mo_drop_1 : decode b_Mo_drop 1 = .ok (.iload_n 1, 1) := by decide +kernel
theorem d_Mo_drop_2 : decode b_Mo_drop 2 = .ok (.invokevirtual 1118, 3) := by decide +kernel
theorem d_Mo_drop_5 : decode b_Mo_drop 5 = .ok (.ifCond .ne 5, 3) := by decide +kernel
theorem d_Mo_drop_8 : decode b_Mo_drop 8 = .ok (.iconst (-1), 1) := by decide +kernel
theorem d_Mo_drop_9 : decode b_Mo_drop 9 = .ok (.ireturn, 1) := by decide +kernel
theorem d_Mo_drop_10 : decode b_Mo_drop 10 = .ok (.aload_n 0, 1) := by decide +kernel
theorem d_Mo_drop_11 : decode b_Mo_drop 11 = .ok (.getfield 263, 3) := by decide +kernel
theorem d_Mo_drop_14 : decode b_Mo_drop 14 = .ok (.iload_n 1, 1) := by decide +kernel
theorem d_Mo_drop_15 : decode b_Mo_drop 15 = .ok (.aaload, 1) := by decide +kernel
theorem d_Mo_drop_16 : decode b_Mo_drop 16 = .ok (.iconst 0, 1) := by decide +kernel
theorem d_Mo_drop_17 : decode b_Mo_drop 17 = .ok (.putfield 413, 3) := by decide +kernel
theorem d_Mo_drop_20 : decode b_Mo_drop 20 = .ok (.aload_n 0, 1) := by decide +kernel
theorem d_Mo_drop_21 : decode b_Mo_drop 21 = .ok (.getfield 263, 3) := by decide +kernel
theorem d_Mo_drop_24 : decode b_Mo_drop 24 = .ok (.iload_n 1, 1) := by decide +kernel
theorem d_Mo_drop_25 : decode b_Mo_drop 25 = .ok (.aaload, 1) := by decide +kernel
theorem d_Mo_drop_26 : decode b_Mo_drop 26 = .ok (.getfield 420, 3) := by decide +kernel
theorem d_Mo_drop_29 : decode b_Mo_drop 29 = .ok (.bipush 21, 2) := by decide +kernel
theorem d_Mo_drop_31 : decode b_Mo_drop 31 = .ok (.isub, 1) := by decide +kernel
theorem d_Mo_drop_32 : decode b_Mo_drop 32 = .ok (.ireturn, 1) := by decide +kernel
abbrev ru_Mo_drop : Room := { frames := 1, cells := 0, slots := 0, locals := 21 }
def wu_Mo_drop (y : Ly) (Post : St → Int32 → Prop) (σ : St) (a0 : Nat) (v1 : Int32) : Prop := wu_Mo_isWorld y (fun (s_2 : St) (r_1 : Int32) => ((¬ r_1 = 0 → xQ y a0 44 v1 (fun b_3 : Nat => nb 0 ∧ xP (uV s_2 b_3 0 0) (fun s_6 : St => xQ y a0 44 v1 (fun b_7 : Nat => Post s_6 ((sV s_6 b_7 2) - 21))))) ∧ (r_1 = 0 → Post s_2 (-1)))) σ a0 v1
set_option maxHeartbeats 4000000 in
set_option maxRecDepth 100000 in
theorem cu_Mo_drop (l : Launch) (D : va_G) (g : Nat → ClassId) (ad : Nat → Nat) (y : Ly) (Post : St → Int32 → Prop) (σ : St) (a0 : Nat) (v1 : Int32) (sz : Nat) (h_a0 : cl a0 = 14) (h : wu_Mo_drop y Post σ a0 v1) : Met l y_Mo_drop (mw y_Mo_drop b_Mo_drop 2 (some .int)) ru_Mo_drop (PC g D [] [.ref (ad a0), .int v1] sz (ws g ad y σ)) (va_Qi (fun (r : Int32) (u : St) => Post u r) (QW D (va_A (ws g ad y σ) sz) (fun u => ws g ad y u)) (va_A (ws g ad y σ) sz)) 0 0 (va_A (ws g ad y σ) sz) := by
  refine ofI (by decide +kernel) (Nat.le_of_ble_eq_true rfl) ?_
  intro p e s m args below meth c A Q ls H locs G hsz hP hD hS hl hret
  subst hsz
  have hl : lv_has ls 2 [(0, .ref (ad a0)), (1, .int v1)] := hl
  unfold wu_Mo_drop at h
  refine lv_aload_n G.1 G.2.1 d_Mo_drop_0 rfl (lv_at hl 0 rfl) ?_
  refine lv_iload_n G.1 G.2.1 d_Mo_drop_1 rfl (lv_at hl 1 rfl) ?_
  refine ucVi (As := [.int v1]) (rest := []) G hP hD hS (cu_Mo_isWorld l D g ad y _ σ a0 v1 H.size h_a0 h) w9_Mo_isWorld q3482 ⟨Nat.le_of_ble_eq_true rfl, Nat.le_of_ble_eq_true rfl⟩ rfl rfl h_a0 (q := (RMo, TMo, 131)) rfl rfl hl.1 rfl (Nat.le_of_ble_eq_true rfl) rfl ⟨Nat.le_refl _, Nat.le_refl _⟩ d_Mo_drop_2 (fun r_1 s_2 H locs h hP hD hS => ?_)
  refine lv_if_ne (tgt := 10) G.1 G.2.1 d_Mo_drop_5 (by decide) (fun c5 => ?_) (fun c5 => ?_)
  · skip
    have h := h.1 c5
    refine lv_aload_n G.1 G.2.1 d_Mo_drop_10 rfl (lv_at hl 0 rfl) ?_
    refine ugf (v := .ref (yP y a0 44)) G hP h_a0 iMo rfl 44 (by decide) rfl q3108 rfl rfl d_Mo_drop_11 ?_
    refine lv_iload_n G.1 G.2.1 d_Mo_drop_14 rfl (lv_at hl 1 rfl) ?_
    refine uqald G hP (kdp h_a0 rfl) (typ h_a0 rfl) rfl h d_Mo_drop_15 (fun b_3 n_4 h => ?_)
    refine lv_iconst (v := 0) G.1 G.2.1 d_Mo_drop_16 (by decide) ?_
    obtain ⟨n_5, h⟩ := h
    refine upfN G hP hD hS h 0 putV (oa_14 h_a0 n_4) iMw tMw tMw_ok nMw rfl (by decide) rfl q2706 rfl rfl fV (nb_n n_5) (nb_f n_5) d_Mo_drop_17 (fun s_6 H locs h hP hD hS => ?_)
    refine lv_aload_n G.1 G.2.1 d_Mo_drop_20 rfl (lv_at hl 0 rfl) ?_
    refine W.eq (g2 := F0 m 21 ls [.ref (ad a0)]) rfl ?_
    refine ugf (v := .ref (yP y a0 44)) G hP h_a0 iMo rfl 44 (by decide) rfl q3108 rfl rfl d_Mo_drop_21 ?_
    refine lv_iload_n G.1 G.2.1 d_Mo_drop_24 rfl (lv_at hl 1 rfl) ?_
    refine uqald G hP (kdp h_a0 rfl) (typ h_a0 rfl) rfl h d_Mo_drop_25 (fun b_7 n_8 h => ?_)
    refine ugfN (v := .int (sV s_6 b_7 2)) G hP (oa_14 h_a0 n_8) iMw rfl 2 (by decide) rfl q2708 rfl rfl d_Mo_drop_26 ?_
    refine lv_bipush (v := 21) G.1 G.2.1 d_Mo_drop_29 (by decide) ?_
    refine lv_isub G.1 G.2.1 d_Mo_drop_31 ?_
    exact hret _ _ _ _ _ _ _ ls h hP hD hS (Nat.le_refl _) (Nat.le_refl _) d_Mo_drop_32
  · skip
    have h := h.2 c5
    refine lv_iconst (v := (-1)) G.1 G.2.1 d_Mo_drop_8 (by decide) ?_
    exact hret _ _ _ _ _ _ _ ls h hP hD hS (Nat.le_refl _) (Nat.le_refl _) d_Mo_drop_9
def y_Mo_isLetter : MethodName := ⟨"ClassWorksModel", "isLetter", "(I)Z"⟩
abbrev b_Mo_isLetter : ByteArray := prog_14_method_10_code
theorem d_Mo_isLetter_0 : decode b_Mo_isLetter 0 = .ok (.iload_n 0, 1) := by decide +kernel
theorem d_Mo_isLetter_1 : decode b_Mo_isLetter 1 = .ok (.bipush 97, 2) := by decide +kernel
theorem d_Mo_isLetter_3 : decode b_Mo_isLetter 3 = .ok (.if_icmp .lt 9, 3) := by decide +kernel
theorem d_Mo_isLetter_6 : decode b_Mo_isLetter 6 = .ok (.iload_n 0, 1) := by decide +kernel
theorem d_Mo_isLetter_7 : decode b_Mo_isLetter 7 = .ok (.bipush 122, 2) := by decide +kernel
theorem d_Mo_isLetter_9 : decode b_Mo_isLetter 9 = .ok (.if_icmp .le 21, 3) := by decide +kernel
theorem d_Mo_isLetter_12 : decode b_Mo_isLetter 12 = .ok (.iload_n 0, 1) := by decide +kernel
theorem d_Mo_isLetter_13 : decode b_Mo_isLetter 13 = .ok (.bipush 65, 2) := by decide +kernel
theorem d_Mo_isLetter_15 : decode b_Mo_isLetter 15 = .ok (.if_icmp .lt 9, 3) := by decide +kernel
theorem d_Mo_isLetter_18 : decode b_Mo_isLetter 18 = .ok (.iload_n 0, 1) := by decide +kernel
theorem d_Mo_isLetter_19 : decode b_Mo_isLetter 19 = .ok (.bipush 90, 2) := by decide +kernel
theorem d_Mo_isLetter_21 : decode b_Mo_isLetter 21 = .ok (.if_icmp .le 9, 3) := by decide +kernel
theorem d_Mo_isLetter_24 : decode b_Mo_isLetter 24 = .ok (.iload_n 0, 1) := by decide +kernel
theorem d_Mo_isLetter_25 : decode b_Mo_isLetter 25 = .ok (.bipush 95, 2) := by decide +kernel
theorem d_Mo_isLetter_27 : decode b_Mo_isLetter 27 = .ok (.if_icmp .ne 7, 3) := by decide +kernel
theorem d_Mo_isLetter_30 : decode b_Mo_isLetter 30 = .ok (.iconst 1, 1) := by decide +kernel
theorem d_Mo_isLetter_31 : decode b_Mo_isLetter 31 = .ok (.goto 4, 3) := by decide +kernel
theorem d_Mo_isLetter_34 : decode b_Mo_isLetter 34 = .ok (.iconst 0, 1) := by decide +kernel
theorem d_Mo_isLetter_35 : decode b_Mo_isLetter 35 = .ok (.ireturn, 1) := by decide +kernel
abbrev ru_Mo_isLetter : Room := { frames := 0, cells := 0, slots := 0, locals := 0 }
def wj_Mo_isLetter_35 (y : Ly) (Post : St → Int32 → Prop) (s_j35 : St) (z0j35 : Int32) : Prop := (nb z0j35 ∧ Post s_j35 z0j35)
def wj_Mo_isLetter_30 (y : Ly) (Post : St → Int32 → Prop) (s_j30 : St) : Prop := wj_Mo_isLetter_35 y Post s_j30 1
def wj_Mo_isLetter_24 (y : Ly) (Post : St → Int32 → Prop) (s_j24 : St) (x0j24 : Int32) : Prop := ((¬ x0j24 = 95 → wj_Mo_isLetter_35 y Post s_j24 0) ∧ (x0j24 = 95 → wj_Mo_isLetter_30 y Post s_j24))
def wj_Mo_isLetter_12 (y : Ly) (Post : St → Int32 → Prop) (s_j12 : St) (x0j12 : Int32) : Prop := ((x0j12 < 65 → wj_Mo_isLetter_24 y Post s_j12 x0j12) ∧ (¬ (x0j12 < 65) → ((x0j12 ≤ 90 → wj_Mo_isLetter_30 y Post s_j12) ∧ (¬ (x0j12 ≤ 90) → wj_Mo_isLetter_24 y Post s_j12 x0j12))))
def wu_Mo_isLetter (y : Ly) (Post : St → Int32 → Prop) (σ : St) (v0 : Int32) : Prop := ((v0 < 97 → wj_Mo_isLetter_12 y Post σ v0) ∧ (¬ (v0 < 97) → ((v0 ≤ 122 → wj_Mo_isLetter_30 y Post σ) ∧ (¬ (v0 ≤ 122) → wj_Mo_isLetter_12 y Post σ v0))))
set_option maxHeartbeats 4000000 in
set_option maxRecDepth 100000 in
theorem cu_Mo_isLetter (l : Launch) (D : va_G) (g : Nat → ClassId) (ad : Nat → Nat) (y : Ly) (Post : St → Int32 → Prop) (σ : St) (v0 : Int32) (sz : Nat) (h : wu_Mo_isLetter y Post σ v0) : Met l y_Mo_isLetter (mw y_Mo_isLetter b_Mo_isLetter 1 (some (.boolean))) ru_Mo_isLetter (PC g D [] [.int v0] sz (ws g ad y σ)) (va_Qi (fun (r : Int32) (u : St) => Post u r) (QW D (va_A (ws g ad y σ) sz) (fun u => ws g ad y u)) (va_A (ws g ad y σ) sz)) 0 0 (va_A (ws g ad y σ) sz) := by
  refine ofZ (by decide +kernel) (Nat.le_of_ble_eq_true rfl) ?_
  intro p e s m args below meth c A Q ls H locs G hsz hP hD hS hl hret
  subst hsz
  have hl : lv_has ls 1 [(0, .int v0)] := hl
  unfold wu_Mo_isLetter at h
  refine lv_iload_n G.1 G.2.1 d_Mo_isLetter_0 rfl (lv_at hl 0 rfl) ?_
  refine lv_bipush (v := 97) G.1 G.2.1 d_Mo_isLetter_1 (by decide) ?_
  have J_35 : ∀ (s_j35 : St) (z0j35 : Int32) (H : Heap) (locs : List Loc), wj_Mo_isLetter_35 y Post s_j35 z0j35 → va_P D CL (ws g ad y s_j35) H → va_D A (ws g ad y s_j35) → va_S A s.heap H locs → ∀ ls, lv_has ls 1 [] → W p l e ru_Mo_isLetter s m args below meth c H locs 0 0 Q (F0 m 35 ls [.int z0j35]) := by
    intro s_j35 z0j35 H locs h hP hD hS ls hl
    unfold wj_Mo_isLetter_35 at h
    exact hret _ _ _ _ _ _ _ ls (nb_n h.1) h.2 hP hD hS (Nat.le_refl _) (Nat.le_refl _) d_Mo_isLetter_35
  have J_30 : ∀ (s_j30 : St) (H : Heap) (locs : List Loc), wj_Mo_isLetter_30 y Post s_j30 → va_P D CL (ws g ad y s_j30) H → va_D A (ws g ad y s_j30) → va_S A s.heap H locs → ∀ ls, lv_has ls 1 [] → W p l e ru_Mo_isLetter s m args below meth c H locs 0 0 Q (F0 m 30 ls []) := by
    intro s_j30 H locs h hP hD hS ls hl
    unfold wj_Mo_isLetter_30 at h
    refine lv_iconst (v := 1) G.1 G.2.1 d_Mo_isLetter_30 (by decide) ?_
    refine lv_goto (tgt := 35) G.1 G.2.1 d_Mo_isLetter_31 (by decide) ?_
    exact J_35 s_j30 1 H locs h hP hD hS ls (lv_sub hl [] rfl)
  have J_12 : ∀ (s_j12 : St) (x0j12 : Int32) (H : Heap) (locs : List Loc), wj_Mo_isLetter_12 y Post s_j12 x0j12 → va_P D CL (ws g ad y s_j12) H → va_D A (ws g ad y s_j12) → va_S A s.heap H locs → ∀ ls, lv_has ls 1 [(0, .int x0j12)] → W p l e ru_Mo_isLetter s m args below meth c H locs 0 0 Q (F0 m 12 ls []) := by
    intro s_j12 x0j12 H locs h hP hD hS ls hl
    unfold wj_Mo_isLetter_12 at h
    refine lv_iload_n G.1 G.2.1 d_Mo_isLetter_12 rfl (lv_at hl 0 rfl) ?_
    refine lv_bipush (v := 65) G.1 G.2.1 d_Mo_isLetter_13 (by decide) ?_
    have J_24 : ∀ (s_j24 : St) (x0j24 : Int32) (H : Heap) (locs : List Loc), wj_Mo_isLetter_24 y Post s_j24 x0j24 → va_P D CL (ws g ad y s_j24) H → va_D A (ws g ad y s_j24) → va_S A s.heap H locs → ∀ ls, lv_has ls 1 [(0, .int x0j24)] → W p l e ru_Mo_isLetter s m args below meth c H locs 0 0 Q (F0 m 24 ls []) := by
      intro s_j24 x0j24 H locs h hP hD hS ls hl
      unfold wj_Mo_isLetter_24 at h
      refine lv_iload_n G.1 G.2.1 d_Mo_isLetter_24 rfl (lv_at hl 0 rfl) ?_
      refine lv_bipush (v := 95) G.1 G.2.1 d_Mo_isLetter_25 (by decide) ?_
      refine lv_icmp_ne (tgt := 34) G.1 G.2.1 d_Mo_isLetter_27 (by decide) (fun c27 => ?_) (fun c27 => ?_)
      · skip
        have h := h.1 c27
        refine lv_iconst (v := 0) G.1 G.2.1 d_Mo_isLetter_34 (by decide) ?_
        exact J_35 s_j24 0 H locs h hP hD hS ls (lv_sub hl [] rfl)
      · skip
        have h := h.2 c27
        exact J_30 s_j24 H locs h hP hD hS ls (lv_sub hl [] rfl)
    refine lv_icmp_lt (tgt := 24) G.1 G.2.1 d_Mo_isLetter_15 (by decide) (fun c15 => ?_) (fun c15 => ?_)
    · skip
      have h := h.1 c15
      exact J_24 s_j12 x0j12 H locs h hP hD hS ls (lv_sub hl [0] rfl)
    · skip
      have h := h.2 c15
      refine lv_iload_n G.1 G.2.1 d_Mo_isLetter_18 rfl (lv_at hl 0 rfl) ?_
      refine lv_bipush (v := 90) G.1 G.2.1 d_Mo_isLetter_19 (by decide) ?_
      refine lv_icmp_le (tgt := 30) G.1 G.2.1 d_Mo_isLetter_21 (by decide) (fun c21 => ?_) (fun c21 => ?_)
      · skip
        have h := h.1 c21
        exact J_30 s_j12 H locs h hP hD hS ls (lv_sub hl [] rfl)
      · skip
        have h := h.2 c21
        exact J_24 s_j12 x0j12 H locs h hP hD hS ls (lv_sub hl [0] rfl)
  refine lv_icmp_lt (tgt := 12) G.1 G.2.1 d_Mo_isLetter_3 (by decide) (fun c3 => ?_) (fun c3 => ?_)
  · skip
    have h := h.1 c3
    exact J_12 σ v0 H locs h hP hD hS ls (lv_sub hl [0] rfl)
  · skip
    have h := h.2 c3
    refine lv_iload_n G.1 G.2.1 d_Mo_isLetter_6 rfl (lv_at hl 0 rfl) ?_
    refine lv_bipush (v := 122) G.1 G.2.1 d_Mo_isLetter_7 (by decide) ?_
    refine lv_icmp_le (tgt := 30) G.1 G.2.1 d_Mo_isLetter_9 (by decide) (fun c9 => ?_) (fun c9 => ?_)
    · skip
      have h := h.1 c9
      exact J_30 σ H locs h hP hD hS ls (lv_sub hl [] rfl)
    · skip
      have h := h.2 c9
      exact J_12 σ v0 H locs h hP hD hS ls (lv_sub hl [0] rfl)
def y_Mo_isDigit : MethodName := ⟨"ClassWorksModel", "isDigit", "(I)Z"⟩
abbrev b_Mo_isDigit : ByteArray := prog_14_method_9_code
theorem d_Mo_isDigit_0 : decode b_Mo_isDigit 0 = .ok (.iload_n 0, 1) := by decide +kernel
theorem d_Mo_isDigit_1 : decode b_Mo_isDigit 1 = .ok (.bipush 48, 2) := by decide +kernel
theorem d_Mo_isDigit_3 : decode b_Mo_isDigit 3 = .ok (.if_icmp .lt 13, 3) := by decide +kernel
theorem d_Mo_isDigit_6 : decode b_Mo_isDigit 6 = .ok (.iload_n 0, 1) := by decide +kernel
theorem d_Mo_isDigit_7 : decode b_Mo_isDigit 7 = .ok (.bipush 57, 2) := by decide +kernel
theorem d_Mo_isDigit_9 : decode b_Mo_isDigit 9 = .ok (.if_icmp .gt 7, 3) := by decide +kernel
theorem d_Mo_isDigit_12 : decode b_Mo_isDigit 12 = .ok (.iconst 1, 1) := by decide +kernel
theorem d_Mo_isDigit_13 : decode b_Mo_isDigit 13 = .ok (.goto 4, 3) := by decide +kernel
theorem d_Mo_isDigit_16 : decode b_Mo_isDigit 16 = .ok (.iconst 0, 1) := by decide +kernel
theorem d_Mo_isDigit_17 : decode b_Mo_isDigit 17 = .ok (.ireturn, 1) := by decide +kernel
abbrev ru_Mo_isDigit : Room := { frames := 0, cells := 0, slots := 0, locals := 0 }
def wj_Mo_isDigit_17 (y : Ly) (Post : St → Int32 → Prop) (s_j17 : St) (z0j17 : Int32) : Prop := (nb z0j17 ∧ Post s_j17 z0j17)
def wj_Mo_isDigit_16 (y : Ly) (Post : St → Int32 → Prop) (s_j16 : St) : Prop := wj_Mo_isDigit_17 y Post s_j16 0
def wu_Mo_isDigit (y : Ly) (Post : St → Int32 → Prop) (σ : St) (v0 : Int32) : Prop := ((v0 < 48 → wj_Mo_isDigit_16 y Post σ) ∧ (¬ (v0 < 48) → ((57 < v0 → wj_Mo_isDigit_16 y Post σ) ∧ (¬ (57 < v0) → wj_Mo_isDigit_17 y Post σ 1))))
set_option maxHeartbeats 4000000 in
set_option maxRecDepth 100000 in
theorem cu_Mo_isDigit (l : Launch) (D : va_G) (g : Nat → ClassId) (ad : Nat → Nat) (y : Ly) (Post : St → Int32 → Prop) (σ : St) (v0 : Int32) (sz : Nat) (h : wu_Mo_isDigit y Post σ v0) : Met l y_Mo_isDigit (mw y_Mo_isDigit b_Mo_isDigit 1 (some (.boolean))) ru_Mo_isDigit (PC g D [] [.int v0] sz (ws g ad y σ)) (va_Qi (fun (r : Int32) (u : St) => Post u r) (QW D (va_A (ws g ad y σ) sz) (fun u => ws g ad y u)) (va_A (ws g ad y σ) sz)) 0 0 (va_A (ws g ad y σ) sz) := by
  refine ofZ (by decide +kernel) (Nat.le_of_ble_eq_true rfl) ?_
  intro p e s m args below meth c A Q ls H locs G hsz hP hD hS hl hret
  subst hsz
  have hl : lv_has ls 1 [(0, .int v0)] := hl
  unfold wu_Mo_isDigit at h
  refine lv_iload_n G.1 G.2.1 d_Mo_isDigit_0 rfl (lv_at hl 0 rfl) ?_
  refine lv_bipush (v := 48) G.1 G.2.1 d_Mo_isDigit_1 (by decide) ?_
  have J_17 : ∀ (s_j17 : St) (z0j17 : Int32) (H : Heap) (locs : List Loc), wj_Mo_isDigit_17 y Post s_j17 z0j17 → va_P D CL (ws g ad y s_j17) H → va_D A (ws g ad y s_j17) → va_S A s.heap H locs → ∀ ls, lv_has ls 1 [] → W p l e ru_Mo_isDigit s m args below meth c H locs 0 0 Q (F0 m 17 ls [.int z0j17]) := by
    intro s_j17 z0j17 H locs h hP hD hS ls hl
    unfold wj_Mo_isDigit_17 at h
    exact hret _ _ _ _ _ _ _ ls (nb_n h.1) h.2 hP hD hS (Nat.le_refl _) (Nat.le_refl _) d_Mo_isDigit_17
  have J_16 : ∀ (s_j16 : St) (H : Heap) (locs : List Loc), wj_Mo_isDigit_16 y Post s_j16 → va_P D CL (ws g ad y s_j16) H → va_D A (ws g ad y s_j16) → va_S A s.heap H locs → ∀ ls, lv_has ls 1 [] → W p l e ru_Mo_isDigit s m args below meth c H locs 0 0 Q (F0 m 16 ls []) := by
    intro s_j16 H locs h hP hD hS ls hl
    unfold wj_Mo_isDigit_16 at h
    refine lv_iconst (v := 0) G.1 G.2.1 d_Mo_isDigit_16 (by decide) ?_
    exact J_17 s_j16 0 H locs h hP hD hS ls (lv_sub hl [] rfl)
  refine lv_icmp_lt (tgt := 16) G.1 G.2.1 d_Mo_isDigit_3 (by decide) (fun c3 => ?_) (fun c3 => ?_)
  · skip
    have h := h.1 c3
    exact J_16 σ H locs h hP hD hS ls (lv_sub hl [] rfl)
  · skip
    have h := h.2 c3
    refine lv_iload_n G.1 G.2.1 d_Mo_isDigit_6 rfl (lv_at hl 0 rfl) ?_
    refine lv_bipush (v := 57) G.1 G.2.1 d_Mo_isDigit_7 (by decide) ?_
    refine lv_icmp_gt (tgt := 16) G.1 G.2.1 d_Mo_isDigit_9 (by decide) (fun c9 => ?_) (fun c9 => ?_)
    · skip
      have h := h.1 c9
      exact J_16 σ H locs h hP hD hS ls (lv_sub hl [] rfl)
    · skip
      have h := h.2 c9
      refine lv_iconst (v := 1) G.1 G.2.1 d_Mo_isDigit_12 (by decide) ?_
      refine lv_goto (tgt := 17) G.1 G.2.1 d_Mo_isDigit_13 (by decide) ?_
      exact J_17 σ 1 H locs h hP hD hS ls (lv_sub hl [] rfl)
def y_Mo_addWord : MethodName := ⟨"ClassWorksModel", "addWord", "(III)V"⟩
abbrev b_Mo_addWord : ByteArray := prog_14_method_11_code
theorem q3103 : Cond.fieldLink "ClassWorksModel" 92 "ClassWorksModel" "wordKinds" "[B" ∈ lw_ok := lw_okmem (List.mem_of_getElem? (i := 3103) (by decide +kernel)) rfl
theorem q3106 : Cond.fieldLink "ClassWorksModel" 95 "ClassWorksModel" "words" "I" ∈ lw_ok := lw_okmem (List.mem_of_getElem? (i := 3106) (by decide +kernel)) rfl
theorem q3104 : Cond.fieldLink "ClassWorksModel" 98 "ClassWorksModel" "wordValues" "[I" ∈ lw_ok := lw_okmem (List.mem_of_getElem? (i := 3104) (by decide +kernel)) rfl
theorem q3105 : Cond.fieldLink "ClassWorksModel" 101 "ClassWorksModel" "wordPlaces" "[I" ∈ lw_ok := lw_okmem (List.mem_of_getElem? (i := 3105) (by decide +kernel)) rfl
theorem d_Mo_addWord_0 : decode b_Mo_addWord 0 = .ok (.aload_n 0, 1) := by decide +kernel
theorem d_Mo_addWord_1 : decode b_Mo_addWord 1 = .ok (.getfield 92, 3) := by decide +kernel
theorem d_Mo_addWord_4 : decode b_Mo_addWord 4 = .ok (.aload_n 0, 1) := by decide +kernel
theorem d_Mo_addWord_5 : decode b_Mo_addWord 5 = .ok (.getfield 95, 3) := by decide +kernel
theorem d_Mo_addWord_8 : decode b_Mo_addWord 8 = .ok (.iload_n 1, 1) := by decide +kernel
theorem d_Mo_addWord_9 : decode b_Mo_addWord 9 = .ok (.i2b, 1) := by decide +kernel
theorem d_Mo_addWord_10 : decode b_Mo_addWord 10 = .ok (.bastore, 1) := by decide +kernel
theorem d_Mo_addWord_11 : decode b_Mo_addWord 11 = .ok (.aload_n 0, 1) := by decide +kernel
theorem d_Mo_addWord_12 : decode b_Mo_addWord 12 = .ok (.getfield 98, 3) := by decide +kernel
theorem d_Mo_addWord_15 : decode b_Mo_addWord 15 = .ok (.aload_n 0, 1) := by decide +kernel
theorem d_Mo_addWord_16 : decode b_Mo_addWord 16 = .ok (.getfield 95, 3) := by decide +kernel
theorem d_Mo_addWord_19 : decode b_Mo_addWord 19 = .ok (.iload_n 2, 1) := by decide +kernel
theorem d_Mo_addWord_20 : decode b_Mo_addWord 20 = .ok (.iastore, 1) := by decide +kernel
theorem d_Mo_addWord_21 : decode b_Mo_addWord 21 = .ok (.aload_n 0, 1) := by decide +kernel
theorem d_Mo_addWord_22 : decode b_Mo_addWord 22 = .ok (.getfield 101, 3) := by decide +kernel
theorem d_Mo_addWord_25 : decode b_Mo_addWord 25 = .ok (.aload_n 0, 1) := by decide +kernel
theorem d_Mo_addWord_26 : decode b_Mo_addWord 26 = .ok (.getfield 95, 3) := by decide +kernel
theorem d_Mo_addWord_29 : decode b_Mo_addWord 29 = .ok (.iload_n 3, 1) := by decide +kernel
theorem d_Mo_addWord_30 : decode b_Mo_addWord 30 = .ok (.iastore, 1) := by decide +kernel
theorem d_Mo_addWord_31 : decode b_Mo_addWord 31 = .ok (.aload_n 0, 1) := by decide +kernel
theorem d_Mo_addWord_32 : decode b_Mo_addWord 32 = .ok (.dup, 1) := by decide +kernel
theorem d_Mo_addWord_33 : decode b_Mo_addWord 33 = .ok (.getfield 95, 3) := by decide +kernel
theorem d_Mo_addWord_36 : decode b_Mo_addWord 36 = .ok (.iconst 1, 1) := by decide +kernel
theorem d_Mo_addWord_37 : decode b_Mo_addWord 37 = .ok (.iadd, 1) := by decide +kernel
theorem d_Mo_addWord_38 : decode b_Mo_addWord 38 = .ok (.putfield 95, 3) := by decide +kernel
theorem d_Mo_addWord_41 : decode b_Mo_addWord 41 = .ok (.return_, 1) := by decide +kernel
abbrev ru_Mo_addWord : Room := { frames := 0, cells := 0, slots := 0, locals := 0 }
def wu_Mo_addWord (y : Ly) (Post : St → Prop) (σ : St) (a0 : Nat) (v1 : Int32) (v2 : Int32) (v3 : Int32) : Prop := xS y σ a0 39 (sV σ a0 42) (vp_nar .byte v1.toInt8.toInt32) (fun s_1 : St => xS y s_1 a0 40 (sV s_1 a0 42) v2 (fun s_2 : St => xS y s_2 a0 41 (sV s_2 a0 42) v3 (fun s_3 : St => xP (uV s_3 a0 42 ((sV s_3 a0 42) + 1)) (fun s_4 : St => Post s_4))))
set_option maxHeartbeats 4000000 in
set_option maxRecDepth 100000 in
theorem cu_Mo_addWord (l : Launch) (D : va_G) (g : Nat → ClassId) (ad : Nat → Nat) (y : Ly) (Post : St → Prop) (σ : St) (a0 : Nat) (v1 : Int32) (v2 : Int32) (v3 : Int32) (sz : Nat) (h_a0 : cl a0 = 14) (h : wu_Mo_addWord y Post σ a0 v1 v2 v3) : Met l y_Mo_addWord (mw y_Mo_addWord b_Mo_addWord 4 (none)) ru_Mo_addWord (PC g D [] [.ref (ad a0), .int v1, .int v2, .int v3] sz (ws g ad y σ)) (va_Qv (fun u : St => Post u) (QW D (va_A (ws g ad y σ) sz) (fun u => ws g ad y u)) (va_A (ws g ad y σ) sz)) 0 0 (va_A (ws g ad y σ) sz) := by
  refine ofV (by decide +kernel) (Nat.le_of_ble_eq_true rfl) ?_
  intro p e s m args below meth c A Q ls H locs G hsz hP hD hS hl hret
  subst hsz
  have hl : lv_has ls 4 [(0, .ref (ad a0)), (1, .int v1), (2, .int v2), (3, .int v3)] := hl
  unfold wu_Mo_addWord at h
  refine lv_aload_n G.1 G.2.1 d_Mo_addWord_0 rfl (lv_at hl 0 rfl) ?_
  refine ugf (v := .ref (yP y a0 39)) G hP h_a0 iMo rfl 39 (by decide) rfl q3103 rfl rfl d_Mo_addWord_1 ?_
  refine lv_aload_n G.1 G.2.1 d_Mo_addWord_4 rfl (lv_at hl 0 rfl) ?_
  refine ugf (v := .int (sV σ a0 42)) G hP h_a0 iMo rfl 42 (by decide) rfl q3106 rfl rfl d_Mo_addWord_5 ?_
  refine lv_iload_n G.1 G.2.1 d_Mo_addWord_8 rfl (lv_at hl 1 rfl) ?_
  refine lv_i2b G.1 G.2.1 d_Mo_addWord_9 rfl ?_
  refine ubast G hP hD hS (kdp h_a0 rfl) (typ h_a0 rfl) h d_Mo_addWord_10 (fun s_1 H locs h hP hD hS => ?_)
  refine lv_aload_n G.1 G.2.1 d_Mo_addWord_11 rfl (lv_at hl 0 rfl) ?_
  refine ugf (v := .ref (yP y a0 40)) G hP h_a0 iMo rfl 40 (by decide) rfl q3104 rfl rfl d_Mo_addWord_12 ?_
  refine lv_aload_n G.1 G.2.1 d_Mo_addWord_15 rfl (lv_at hl 0 rfl) ?_
  refine ugf (v := .int (sV s_1 a0 42)) G hP h_a0 iMo rfl 42 (by decide) rfl q3106 rfl rfl d_Mo_addWord_16 ?_
  refine W.eq (g2 := F0 m 19 ls [.int (sV s_1 a0 42), .ref (yP y a0 40)]) rfl ?_
  refine lv_iload_n G.1 G.2.1 d_Mo_addWord_19 rfl (lv_at hl 2 rfl) ?_
  refine uiast G hP hD hS (kdp h_a0 rfl) (typ h_a0 rfl) h d_Mo_addWord_20 (fun s_2 H locs h hP hD hS => ?_)
  refine lv_aload_n G.1 G.2.1 d_Mo_addWord_21 rfl (lv_at hl 0 rfl) ?_
  refine ugf (v := .ref (yP y a0 41)) G hP h_a0 iMo rfl 41 (by decide) rfl q3105 rfl rfl d_Mo_addWord_22 ?_
  refine lv_aload_n G.1 G.2.1 d_Mo_addWord_25 rfl (lv_at hl 0 rfl) ?_
  refine ugf (v := .int (sV s_2 a0 42)) G hP h_a0 iMo rfl 42 (by decide) rfl q3106 rfl rfl d_Mo_addWord_26 ?_
  refine lv_iload_n G.1 G.2.1 d_Mo_addWord_29 rfl (lv_at hl 3 rfl) ?_
  refine uiast G hP hD hS (kdp h_a0 rfl) (typ h_a0 rfl) h d_Mo_addWord_30 (fun s_3 H locs h hP hD hS => ?_)
  refine lv_aload_n G.1 G.2.1 d_Mo_addWord_31 rfl (lv_at hl 0 rfl) ?_
  refine lv_dup G.1 G.2.1 d_Mo_addWord_32 rfl ?_
  refine ugf (v := .int (sV s_3 a0 42)) G hP h_a0 iMo rfl 42 (by decide) rfl q3106 rfl rfl d_Mo_addWord_33 ?_
  refine lv_iconst (v := 1) G.1 G.2.1 d_Mo_addWord_36 (by decide) ?_
  refine W.eq (g2 := F0 m 37 ls [.int 1, .int (sV s_3 a0 42), .ref (ad a0)]) rfl ?_
  refine lv_iadd G.1 G.2.1 d_Mo_addWord_37 ?_
  refine upf G hP hD hS h 42 putV h_a0 iMo tMo tMo_ok nMo rfl (by decide) rfl q3106 rfl rfl fV rfl rfl d_Mo_addWord_38 (fun s_4 H locs h hP hD hS => ?_)
  exact hret _ _ _ _ _ _ ls h hP hD hS (Nat.le_refl _) (Nat.le_refl _) d_Mo_addWord_41
theorem q3504 : Cond.methodLink "ClassWorksModel" 114 y_Mo_addWord ∈ lw_ok := lw_okmem (List.mem_of_getElem? (i := 3504) (by decide +kernel)) rfl
theorem q3507 : Cond.code y_Mo_addWord b_Mo_addWord 4 (none) ∈ lw_ok := lw_okmem (List.mem_of_getElem? (i := 3507) (by decide +kernel)) rfl
theorem q3506 : Cond.instanceMethod y_Mo_addWord ∈ lw_ok := lw_okmem (List.mem_of_getElem? (i := 3506) (by decide +kernel)) rfl
theorem q180 : Cond.selects y_Mo_addWord.cls y_Mo_addWord y_Mo_addWord ∈ lw_ok := lw_okmem (List.mem_of_getElem? (i := 180) (by decide +kernel)) rfl
theorem w9_Mo_addWord : CWv y_Mo_addWord b_Mo_addWord 4 (none) 3 ∧ Cond.instanceMethod y_Mo_addWord ∈ lw_ok ∧ Cond.selects y_Mo_addWord.cls y_Mo_addWord y_Mo_addWord ∈ lw_ok := ⟨⟨q3507, q348, by decide +kernel, by decide +kernel, by decide +kernel⟩, q3506, q180⟩
theorem q3501 : Cond.methodLink "ClassWorksModel" 111 y_Mo_isDigit ∈ lw_ok := lw_okmem (List.mem_of_getElem? (i := 3501) (by decide +kernel)) rfl
theorem q3503 : Cond.code y_Mo_isDigit b_Mo_isDigit 1 (some (.boolean)) ∈ lw_ok := lw_okmem (List.mem_of_getElem? (i := 3503) (by decide +kernel)) rfl
theorem q3502 : Cond.static y_Mo_isDigit ∈ lw_ok := lw_okmem (List.mem_of_getElem? (i := 3502) (by decide +kernel)) rfl
theorem w9_Mo_isDigit : CWv y_Mo_isDigit b_Mo_isDigit 1 (some (.boolean)) 1 ∧ Cond.static y_Mo_isDigit ∈ lw_ok := ⟨⟨q3503, q348, by decide +kernel, by decide +kernel, by decide +kernel⟩, q3502⟩
def y_Mo_number : MethodName := ⟨"ClassWorksModel", "number", "([BII)I"⟩
abbrev b_Mo_number : ByteArray := prog_14_method_14_code
theorem q3512 : Cond.constantLong "ClassWorksModel" 130 (10) ∈ lw_ok := lw_okmem (List.mem_of_getElem? (i := 3512) (by decide +kernel)) rfl
theorem q3513 : Cond.constantLong "ClassWorksModel" 132 (48) ∈ lw_ok := lw_okmem (List.mem_of_getElem? (i := 3513) (by decide +kernel)) rfl
theorem d_Mo_number_0 : decode b_Mo_number 0 = .ok (.aload_n 1, 1) := by decide +kernel
theorem d_Mo_number_1 : decode b_Mo_number 1 = .ok (.iload_n 2, 1) := by decide +kernel
theorem d_Mo_number_2 : decode b_Mo_number 2 = .ok (.baload, 1) := by decide +kernel
theorem d_Mo_number_3 : decode b_Mo_number 3 = .ok (.bipush 45, 2) := by decide +kernel
theorem d_Mo_number_5 : decode b_Mo_number 5 = .ok (.if_icmp .ne 7, 3) := by decide +kernel
theorem d_Mo_number_8 : decode b_Mo_number 8 = .ok (.iconst 1, 1) := by decide +kernel
theorem d_Mo_number_9 : decode b_Mo_number 9 = .ok (.goto 4, 3) := by decide +kernel
theorem d_Mo_number_12 : decode b_Mo_number 12 = .ok (.iconst 0, 1) := by decide +kernel
theorem d_Mo_number_13 : decode b_Mo_number 13 = .ok (.istore 4, 2) := by decide +kernel
theorem d_Mo_number_15 : decode b_Mo_number 15 = .ok (.iload 4, 2) := by decide +kernel
theorem d_Mo_number_17 : decode b_Mo_number 17 = .ok (.ifCond .eq 9, 3) := by decide +kernel
theorem d_Mo_number_20 : decode b_Mo_number 20 = .ok (.iload_n 2, 1) := by decide +kernel
theorem d_Mo_number_21 : decode b_Mo_number 21 = .ok (.iconst 1, 1) := by decide +kernel
theorem d_Mo_number_22 : decode b_Mo_number 22 = .ok (.iadd, 1) := by decide +kernel
theorem d_Mo_number_23 : decode b_Mo_number 23 = .ok (.goto 4, 3) := by decide +kernel
theorem d_Mo_number_26 : decode b_Mo_number 26 = .ok (.iload_n 2, 1) := by decide +kernel
theorem d_Mo_number_27 : decode b_Mo_number 27 = .ok (.istore 5, 2) := by decide +kernel
theorem d_Mo_number_29 : decode b_Mo_number 29 = .ok (.iload 5, 2) := by decide +kernel
theorem d_Mo_number_31 : decode b_Mo_number 31 = .ok (.istore 6, 2) := by decide +kernel
theorem d_Mo_number_33 : decode b_Mo_number 33 = .ok (.lconst 0, 1) := by decide +kernel
theorem d_Mo_number_34 : decode b_Mo_number 34 = .ok (.lstore 7, 2) := by decide +kernel
theorem d_Mo_number_36 : decode b_Mo_number 36 = .ok (.iload 6, 2) := by decide +kernel
theorem d_Mo_number_38 : decode b_Mo_number 38 = .ok (.iload_n 3, 1) := by decide +kernel
theorem d_Mo_number_39 : decode b_Mo_number 39 = .ok (.if_icmp .ge 52, 3) := by decide +kernel
theorem d_Mo_number_42 : decode b_Mo_number 42 = .ok (.aload_n 1, 1) := by decide +kernel
theorem d_Mo_number_43 : decode b_Mo_number 43 = .ok (.iload 6, 2) := by decide +kernel
theorem d_Mo_number_45 : decode b_Mo_number 45 = .ok (.baload, 1) := by decide +kernel
theorem d_Mo_number_46 : decode b_Mo_number 46 = .ok (.invokestatic 111, 3) := by decide +kernel
theorem d_Mo_number_49 : decode b_Mo_number 49 = .ok (.ifCond .eq 42, 3) := by decide +kernel
theorem d_Mo_number_52 : decode b_Mo_number 52 = .ok (.iload 6, 2) := by decide +kernel
theorem d_Mo_number_54 : decode b_Mo_number 54 = .ok (.iload 5, 2) := by decide +kernel
theorem d_Mo_number_56 : decode b_Mo_number 56 = .ok (.isub, 1) := by decide +kernel
theorem d_Mo_number_57 : decode b_Mo_number 57 = .ok (.bipush 10, 2) := by decide +kernel
theorem d_Mo_number_59 : decode b_Mo_number 59 = .ok (.if_icmp .ge 22, 3) := by decide +kernel
theorem d_Mo_number_62 : decode b_Mo_number 62 = .ok (.ldc2_w 130, 3) := by decide +kernel
theorem d_Mo_number_65 : decode b_Mo_number 65 = .ok (.lload 7, 2) := by decide +kernel
theorem d_Mo_number_67 : decode b_Mo_number 67 = .ok (.lmul, 1) := by decide +kernel
theorem d_Mo_number_68 : decode b_Mo_number 68 = .ok (.aload_n 1, 1) := by decide +kernel
theorem d_Mo_number_69 : decode b_Mo_number 69 = .ok (.iload 6, 2) := by decide +kernel
theorem d_Mo_number_71 : decode b_Mo_number 71 = .ok (.baload, 1) := by decide +kernel
theorem d_Mo_number_72 : decode b_Mo_number 72 = .ok (.i2l, 1) := by decide +kernel
theorem d_Mo_number_73 : decode b_Mo_number 73 = .ok (.ladd, 1) := by decide +kernel
theorem d_Mo_number_74 : decode b_Mo_number 74 = .ok (.ldc2_w 132, 3) := by decide +kernel
theorem d_Mo_number_77 : decode b_Mo_number 77 = .ok (.lsub, 1) := by decide +kernel
theorem d_Mo_number_78 : decode b_Mo_number 78 = .ok (.goto 5, 3) := by decide +kernel
theorem d_Mo_number_81 : decode b_Mo_number 81 = .ok (.lload 7, 2) := by decide +kernel
theorem d_Mo_number_83 : decode b_Mo_number 83 = .ok (.lstore 7, 2) := by decide +kernel
theorem d_Mo_number_85 : decode b_Mo_number 85 = .ok (.iinc 6 1, 3) := by decide +kernel
theorem d_Mo_number_88 : decode b_Mo_number 88 = .ok (.goto (-52), 3) := by decide +kernel
theorem d_Mo_number_91 : decode b_Mo_number 91 = .ok (.iload 4, 2) := by decide +kernel
theorem d_Mo_number_93 : decode b_Mo_number 93 = .ok (.ifCond .eq 9, 3) := by decide +kernel
theorem d_Mo_number_96 : decode b_Mo_number 96 = .ok (.lload 7, 2) := by decide +kernel
theorem d_Mo_number_98 : decode b_Mo_number 98 = .ok (.lneg, 1) := by decide +kernel
theorem d_Mo_number_99 : decode b_Mo_number 99 = .ok (.goto 5, 3) := by decide +kernel
theorem d_Mo_number_102 : decode b_Mo_number 102 = .ok (.lload 7, 2) := by decide +kernel
theorem d_Mo_number_104 : decode b_Mo_number 104 = .ok (.lstore 9, 2) := by decide +kernel
theorem d_Mo_number_106 : decode b_Mo_number 106 = .ok (.iload 6, 2) := by decide +kernel
theorem d_Mo_number_108 : decode b_Mo_number 108 = .ok (.iload 5, 2) := by decide +kernel
theorem d_Mo_number_110 : decode b_Mo_number 110 = .ok (.isub, 1) := by decide +kernel
theorem d_Mo_number_111 : decode b_Mo_number 111 = .ok (.bipush 10, 2) := by decide +kernel
theorem d_Mo_number_113 : decode b_Mo_number 113 = .ok (.if_icmp .gt 17, 3) := by decide +kernel
theorem d_Mo_number_116 : decode b_Mo_number 116 = .ok (.lload 9, 2) := by decide +kernel
theorem d_Mo_number_118 : decode b_Mo_number 118 = .ok (.lload 9, 2) := by decide +kernel
theorem d_Mo_number_120 : decode b_Mo_number 120 = .ok (.l2i, 1) := by decide +kernel
theorem d_Mo_number_121 : decode b_Mo_number 121 = .ok (.i2l, 1) := by decide +kernel
theorem d_Mo_number_122 : decode b_Mo_number 122 = .ok (.lcmp, 1) := by decide +kernel
theorem d_Mo_number_123 : decode b_Mo_number 123 = .ok (.ifCond .ne 7, 3) := by decide +kernel
theorem d_Mo_number_126 : decode b_Mo_number 126 = .ok (.iconst 1, 1) := by decide +kernel
theorem d_Mo_number_127 : decode b_Mo_number 127 = .ok (.goto 4, 3) := by decide +kernel
theorem d_Mo_number_130 : decode b_Mo_number 130 = .ok (.iconst 0, 1) := by decide +kernel
theorem d_Mo_number_131 : decode b_Mo_number 131 = .ok (.istore 11, 2) := by decide +kernel
theorem d_Mo_number_133 : decode b_Mo_number 133 = .ok (.aload_n 0, 1) := by decide +kernel
theorem d_Mo_number_134 : decode b_Mo_number 134 = .ok (.iload 11, 2) := by decide +kernel
theorem d_Mo_number_136 : decode b_Mo_number 136 = .ok (.ifCond .eq 7, 3) := by decide +kernel
theorem d_Mo_number_139 : decode b_Mo_number 139 = .ok (.iconst 4, 1) := by decide +kernel
theorem d_Mo_number_140 : decode b_Mo_number 140 = .ok (.goto 4, 3) := by decide +kernel
theorem d_Mo_number_143 : decode b_Mo_number 143 = .ok (.iconst 1, 1) := by decide +kernel
theorem d_Mo_number_144 : decode b_Mo_number 144 = .ok (.lload 9, 2) := by decide +kernel
theorem d_Mo_number_146 : decode b_Mo_number 146 = .ok (.l2i, 1) := by decide +kernel
theorem d_Mo_number_147 : decode b_Mo_number 147 = .ok (.iload_n 2, 1) := by decide +kernel
theorem d_Mo_number_148 : decode b_Mo_number 148 = .ok (.invokevirtual 114, 3) := by decide +kernel
theorem d_Mo_number_151 : decode b_Mo_number 151 = .ok (.iload 6, 2) := by decide +kernel
theorem d_Mo_number_153 : decode b_Mo_number 153 = .ok (.ireturn, 1) := by decide +kernel
abbrev ru_Mo_number : Room := { frames := 1, cells := 0, slots := 0, locals := 23 }
def wj_Mo_number_144 (y : Ly) (Post : St → Int32 → Prop) (a0 : Nat) (a1 : Nat) (k1 : Nat) (s_j144 : St) (x2j144 : Int32) (x6j144 : Int32) (x9j144 : Int64) (z1j144 : Int32) : Prop := wu_Mo_addWord y (fun (s_3 : St) => Post s_3 x6j144) s_j144 a0 z1j144 x9j144.toInt32 x2j144
def wj_Mo_number_131 (y : Ly) (Post : St → Int32 → Prop) (a0 : Nat) (a1 : Nat) (k1 : Nat) (s_j131 : St) (x2j131 : Int32) (x6j131 : Int32) (x9j131 : Int64) (z0j131 : Int32) : Prop := ((z0j131 = 0 → wj_Mo_number_144 y Post a0 a1 k1 s_j131 x2j131 x6j131 x9j131 1) ∧ (¬ (z0j131 = 0) → wj_Mo_number_144 y Post a0 a1 k1 s_j131 x2j131 x6j131 x9j131 4))
def wj_Mo_number_130 (y : Ly) (Post : St → Int32 → Prop) (a0 : Nat) (a1 : Nat) (k1 : Nat) (s_j130 : St) (x2j130 : Int32) (x6j130 : Int32) (x9j130 : Int64) : Prop := wj_Mo_number_131 y Post a0 a1 k1 s_j130 x2j130 x6j130 x9j130 0
def wj_Mo_number_104 (y : Ly) (Post : St → Int32 → Prop) (a0 : Nat) (a1 : Nat) (k1 : Nat) (s_j104 : St) (x2j104 : Int32) (x5j104 : Int32) (x6j104 : Int32) (z0j104 : Int64) : Prop := ((10 < (x6j104 - x5j104) → wj_Mo_number_130 y Post a0 a1 k1 s_j104 x2j104 x6j104 z0j104) ∧ (¬ (10 < (x6j104 - x5j104)) → ((¬ (lg_cmp z0j104 z0j104.toInt32.toInt64) = 0 → wj_Mo_number_130 y Post a0 a1 k1 s_j104 x2j104 x6j104 z0j104) ∧ ((lg_cmp z0j104 z0j104.toInt32.toInt64) = 0 → wj_Mo_number_131 y Post a0 a1 k1 s_j104 x2j104 x6j104 z0j104 1))))
def wj_Mo_number_91 (y : Ly) (Post : St → Int32 → Prop) (a0 : Nat) (a1 : Nat) (k1 : Nat) (s_j91 : St) (x2j91 : Int32) (x4j91 : Int32) (x5j91 : Int32) (x6j91 : Int32) (x7j91 : Int64) : Prop := ((x4j91 = 0 → wj_Mo_number_104 y Post a0 a1 k1 s_j91 x2j91 x5j91 x6j91 x7j91) ∧ (¬ (x4j91 = 0) → wj_Mo_number_104 y Post a0 a1 k1 s_j91 x2j91 x5j91 x6j91 (-x7j91)))
def wj_Mo_number_83 (y : Ly) (Post : St → Int32 → Prop) (K_36 : St → Int32 → Int32 → Int32 → Int32 → Int32 → Int64 → Prop) (a0 : Nat) (a1 : Nat) (k1 : Nat) (s_j83 : St) (x2j83 : Int32) (x3j83 : Int32) (x4j83 : Int32) (x5j83 : Int32) (x6j83 : Int32) (z0j83 : Int64) : Prop := K_36 s_j83 x2j83 x3j83 x4j83 x5j83 (x6j83 + 1) z0j83
def wb_Mo_number_36 (y : Ly) (Post : St → Int32 → Prop) (K_36 : St → Int32 → Int32 → Int32 → Int32 → Int32 → Int64 → Prop) (a0 : Nat) (a1 : Nat) (k1 : Nat) (s_h36 : St) (x2h36 : Int32) (x3h36 : Int32) (x4h36 : Int32) (x5h36 : Int32) (x6h36 : Int32) (x7h36 : Int64) : Prop := ((x3h36 ≤ x6h36 → wj_Mo_number_91 y Post a0 a1 k1 s_h36 x2h36 x4h36 x5h36 x6h36 x7h36) ∧ (¬ (x3h36 ≤ x6h36) → xA y s_h36 a1 k1 x6h36 (fun x_4 : Int32 => wu_Mo_isDigit y (fun (s_6 : St) (r_5 : Int32) => ((r_5 = 0 → wj_Mo_number_91 y Post a0 a1 k1 s_6 x2h36 x4h36 x5h36 x6h36 x7h36) ∧ (¬ (r_5 = 0) → ((10 ≤ (x6h36 - x5h36) → wj_Mo_number_83 y Post K_36 a0 a1 k1 s_6 x2h36 x3h36 x4h36 x5h36 x6h36 x7h36) ∧ (¬ (10 ≤ (x6h36 - x5h36)) → xA y s_6 a1 k1 x6h36 (fun x_7 : Int32 => wj_Mo_number_83 y Post K_36 a0 a1 k1 s_6 x2h36 x3h36 x4h36 x5h36 x6h36 ((((10) * x7h36) + x_7.toInt64) - (48)))))))) s_h36 x_4)))
def wl_Mo_number_36 (y : Ly) (Post : St → Int32 → Prop) (a0 : Nat) (a1 : Nat) (k1 : Nat) (s_h36 : St) (x2h36 : Int32) (x3h36 : Int32) (x4h36 : Int32) (x5h36 : Int32) (x6h36 : Int32) (x7h36 : Int64) : Prop := ∃ (I : St → Int32 → Int32 → Int32 → Int32 → Int32 → Int64 → Prop) (μ : St → Int32 → Int32 → Int32 → Int32 → Int32 → Int64 → Nat), I s_h36 x2h36 x3h36 x4h36 x5h36 x6h36 x7h36 ∧ ∀ (u : St) (t0 : Int32) (t1 : Int32) (t2 : Int32) (t3 : Int32) (t4 : Int32) (t5 : Int64), I u t0 t1 t2 t3 t4 t5 → wb_Mo_number_36 y Post (fun z t0q t1q t2q t3q t4q t5q => I z t0q t1q t2q t3q t4q t5q ∧ μ z t0q t1q t2q t3q t4q t5q < μ u t0 t1 t2 t3 t4 t5) a0 a1 k1 u t0 t1 t2 t3 t4 t5
def wj_Mo_number_27 (y : Ly) (Post : St → Int32 → Prop) (a0 : Nat) (a1 : Nat) (k1 : Nat) (s_j27 : St) (x2j27 : Int32) (x3j27 : Int32) (x4j27 : Int32) (z0j27 : Int32) : Prop := wl_Mo_number_36 y Post a0 a1 k1 s_j27 x2j27 x3j27 x4j27 z0j27 z0j27 0
def wj_Mo_number_13 (y : Ly) (Post : St → Int32 → Prop) (a0 : Nat) (a1 : Nat) (k1 : Nat) (s_j13 : St) (x2j13 : Int32) (x3j13 : Int32) (z0j13 : Int32) : Prop := ((z0j13 = 0 → wj_Mo_number_27 y Post a0 a1 k1 s_j13 x2j13 x3j13 z0j13 x2j13) ∧ (¬ (z0j13 = 0) → wj_Mo_number_27 y Post a0 a1 k1 s_j13 x2j13 x3j13 z0j13 (x2j13 + 1)))
def wu_Mo_number (y : Ly) (Post : St → Int32 → Prop) (σ : St) (a0 : Nat) (a1 : Nat) (k1 : Nat) (v2 : Int32) (v3 : Int32) : Prop := xA y σ a1 k1 v2 (fun x_1 : Int32 => ((¬ x_1 = 45 → wj_Mo_number_13 y Post a0 a1 k1 σ v2 v3 0) ∧ (x_1 = 45 → wj_Mo_number_13 y Post a0 a1 k1 σ v2 v3 1)))
set_option maxHeartbeats 4000000 in
set_option maxRecDepth 100000 in
theorem cu_Mo_number (l : Launch) (D : va_G) (g : Nat → ClassId) (ad : Nat → Nat) (y : Ly) (Post : St → Int32 → Prop) (σ : St) (a0 : Nat) (a1 : Nat) (k1 : Nat) (v2 : Int32) (v3 : Int32) (sz : Nat) (h_a0 : cl a0 = 14) (h_a1 : kd (cl a1) k1 = 2 ∧ tyx (cl a1) k1 = 1) (h : wu_Mo_number y Post σ a0 a1 k1 v2 v3) : Met l y_Mo_number (mw y_Mo_number b_Mo_number 12 (some .int)) ru_Mo_number (PC g D [] [.ref (ad a0), .ref (yP y a1 k1), .int v2, .int v3] sz (ws g ad y σ)) (va_Qi (fun (r : Int32) (u : St) => Post u r) (QW D (va_A (ws g ad y σ) sz) (fun u => ws g ad y u)) (va_A (ws g ad y σ) sz)) 0 0 (va_A (ws g ad y σ) sz) := by
  refine ofI (by decide +kernel) (Nat.le_of_ble_eq_true rfl) ?_
  intro p e s m args below meth c A Q ls H locs G hsz hP hD hS hl hret
  subst hsz
  have hl : lv_has ls 12 [(0, .ref (ad a0)), (1, .ref (yP y a1 k1)), (2, .int v2), (3, .int v3)] := hl
  unfold wu_Mo_number at h
  refine lv_aload_n G.1 G.2.1 d_Mo_number_0 rfl (lv_at hl 1 rfl) ?_
  refine lv_iload_n G.1 G.2.1 d_Mo_number_1 rfl (lv_at hl 2 rfl) ?_
  refine ubald G hP h_a1.1 h_a1.2 h d_Mo_number_2 (fun x_1 h => ?_)
  refine lv_bipush (v := 45) G.1 G.2.1 d_Mo_number_3 (by decide) ?_
  have J_13 : ∀ (s_j13 : St) (x2j13 : Int32) (x3j13 : Int32) (z0j13 : Int32) (H : Heap) (locs : List Loc), wj_Mo_number_13 y Post a0 a1 k1 s_j13 x2j13 x3j13 z0j13 → va_P D CL (ws g ad y s_j13) H → va_D A (ws g ad y s_j13) → va_S A s.heap H locs → ∀ ls, lv_has ls 12 [(0, .ref (ad a0)), (1, .ref (yP y a1 k1)), (2, .int x2j13), (3, .int x3j13)] → W p l e ru_Mo_number s m args below meth c H locs 0 0 Q (F0 m 13 ls [.int z0j13]) := by
    intro s_j13 x2j13 x3j13 z0j13 H locs h hP hD hS ls hl
    unfold wj_Mo_number_13 at h
    refine lv_istore (lv' := [(4, .int z0j13), (0, .ref (ad a0)), (1, .ref (yP y a1 k1)), (2, .int x2j13), (3, .int x3j13)]) G.1 G.2.1 d_Mo_number_13 hl (by decide) rfl (fun ls hl => ?_)
    refine lv_iload G.1 G.2.1 d_Mo_number_15 (lv_at hl 0 rfl) ?_
    have J_27 : ∀ (s_j27 : St) (x2j27 : Int32) (x3j27 : Int32) (x4j27 : Int32) (z0j27 : Int32) (H : Heap) (locs : List Loc), wj_Mo_number_27 y Post a0 a1 k1 s_j27 x2j27 x3j27 x4j27 z0j27 → va_P D CL (ws g ad y s_j27) H → va_D A (ws g ad y s_j27) → va_S A s.heap H locs → ∀ ls, lv_has ls 12 [(0, .ref (ad a0)), (1, .ref (yP y a1 k1)), (2, .int x2j27), (3, .int x3j27), (4, .int x4j27)] → W p l e ru_Mo_number s m args below meth c H locs 0 0 Q (F0 m 27 ls [.int z0j27]) := by
      intro s_j27 x2j27 x3j27 x4j27 z0j27 H locs h hP hD hS ls hl
      unfold wj_Mo_number_27 at h
      refine lv_istore (lv' := [(5, .int z0j27), (0, .ref (ad a0)), (1, .ref (yP y a1 k1)), (2, .int x2j27), (3, .int x3j27), (4, .int x4j27)]) G.1 G.2.1 d_Mo_number_27 hl (by decide) rfl (fun ls hl => ?_)
      refine lv_iload G.1 G.2.1 d_Mo_number_29 (lv_at hl 0 rfl) ?_
      refine lv_istore (lv' := [(6, .int z0j27), (5, .int z0j27), (0, .ref (ad a0)), (1, .ref (yP y a1 k1)), (2, .int x2j27), (3, .int x3j27), (4, .int x4j27)]) G.1 G.2.1 d_Mo_number_31 hl (by decide) rfl (fun ls hl => ?_)
      refine lv_lconst (v := 0) G.1 G.2.1 d_Mo_number_33 (by decide) ?_
      refine lv_lstore (lv' := [(7, .long 0), (6, .int z0j27), (5, .int z0j27), (0, .ref (ad a0)), (1, .ref (yP y a1 k1)), (2, .int x2j27), (3, .int x3j27), (4, .int x4j27)]) G.1 G.2.1 d_Mo_number_34 hl (by decide) rfl (fun ls hl => ?_)
      unfold wl_Mo_number_36 at h
      obtain ⟨I_36, μ_36, hI_36, hB_36⟩ := h
      have L_36 : ∀ (n_36 : Nat) (s_h36 : St) (x2h36 : Int32) (x3h36 : Int32) (x4h36 : Int32) (x5h36 : Int32) (x6h36 : Int32) (x7h36 : Int64), μ_36 s_h36 x2h36 x3h36 x4h36 x5h36 x6h36 x7h36 < n_36 → I_36 s_h36 x2h36 x3h36 x4h36 x5h36 x6h36 x7h36 → ∀ (H : Heap) (locs : List Loc), va_P D CL (ws g ad y s_h36) H → va_D A (ws g ad y s_h36) → va_S A s.heap H locs → ∀ ls, lv_has ls 12 [(0, .ref (ad a0)), (1, .ref (yP y a1 k1)), (2, .int x2h36), (3, .int x3h36), (4, .int x4h36), (5, .int x5h36), (6, .int x6h36), (7, .long x7h36)] → W p l e ru_Mo_number s m args below meth c H locs 0 0 Q (F0 m 36 ls []) := by
        intro n_36
        induction n_36 with
        | zero => intro s_h36 x2h36 x3h36 x4h36 x5h36 x6h36 x7h36 hμ; exact absurd hμ (Nat.not_lt_zero _)
        | succ n_36 ih_36 =>
          intro s_h36 x2h36 x3h36 x4h36 x5h36 x6h36 x7h36 hμ_36 hJ H locs hP hD hS ls hl
          obtain ⟨K_36, hK_36, h⟩ : ∃ K : St → Int32 → Int32 → Int32 → Int32 → Int32 → Int64 → Prop, (∀ z (t0 : Int32) (t1 : Int32) (t2 : Int32) (t3 : Int32) (t4 : Int32) (t5 : Int64), K z t0 t1 t2 t3 t4 t5 → I_36 z t0 t1 t2 t3 t4 t5 ∧ μ_36 z t0 t1 t2 t3 t4 t5 < μ_36 s_h36 x2h36 x3h36 x4h36 x5h36 x6h36 x7h36) ∧ wb_Mo_number_36 y Post K a0 a1 k1 s_h36 x2h36 x3h36 x4h36 x5h36 x6h36 x7h36 := ⟨_, fun _ _ _ _ _ _ _ h => h, hB_36 s_h36 x2h36 x3h36 x4h36 x5h36 x6h36 x7h36 hJ⟩
          unfold wb_Mo_number_36 at h
          refine lv_iload G.1 G.2.1 d_Mo_number_36 (lv_at hl 6 rfl) ?_
          refine lv_iload_n G.1 G.2.1 d_Mo_number_38 rfl (lv_at hl 3 rfl) ?_
          have J_91 : ∀ (s_j91 : St) (x2j91 : Int32) (x4j91 : Int32) (x5j91 : Int32) (x6j91 : Int32) (x7j91 : Int64) (H : Heap) (locs : List Loc), wj_Mo_number_91 y Post a0 a1 k1 s_j91 x2j91 x4j91 x5j91 x6j91 x7j91 → va_P D CL (ws g ad y s_j91) H → va_D A (ws g ad y s_j91) → va_S A s.heap H locs → ∀ ls, lv_has ls 12 [(0, .ref (ad a0)), (2, .int x2j91), (4, .int x4j91), (5, .int x5j91), (6, .int x6j91), (7, .long x7j91)] → W p l e ru_Mo_number s m args below meth c H locs 0 0 Q (F0 m 91 ls []) := by
            intro s_j91 x2j91 x4j91 x5j91 x6j91 x7j91 H locs h hP hD hS ls hl
            unfold wj_Mo_number_91 at h
            refine lv_iload G.1 G.2.1 d_Mo_number_91 (lv_at hl 2 rfl) ?_
            have J_104 : ∀ (s_j104 : St) (x2j104 : Int32) (x5j104 : Int32) (x6j104 : Int32) (z0j104 : Int64) (H : Heap) (locs : List Loc), wj_Mo_number_104 y Post a0 a1 k1 s_j104 x2j104 x5j104 x6j104 z0j104 → va_P D CL (ws g ad y s_j104) H → va_D A (ws g ad y s_j104) → va_S A s.heap H locs → ∀ ls, lv_has ls 12 [(0, .ref (ad a0)), (2, .int x2j104), (5, .int x5j104), (6, .int x6j104)] → W p l e ru_Mo_number s m args below meth c H locs 0 0 Q (F0 m 104 ls [.long z0j104]) := by
              intro s_j104 x2j104 x5j104 x6j104 z0j104 H locs h hP hD hS ls hl
              unfold wj_Mo_number_104 at h
              refine lv_lstore (lv' := [(9, .long z0j104), (0, .ref (ad a0)), (2, .int x2j104), (5, .int x5j104), (6, .int x6j104)]) G.1 G.2.1 d_Mo_number_104 hl (by decide) rfl (fun ls hl => ?_)
              refine lv_iload G.1 G.2.1 d_Mo_number_106 (lv_at hl 4 rfl) ?_
              refine lv_iload G.1 G.2.1 d_Mo_number_108 (lv_at hl 3 rfl) ?_
              refine lv_isub G.1 G.2.1 d_Mo_number_110 ?_
              refine lv_bipush (v := 10) G.1 G.2.1 d_Mo_number_111 (by decide) ?_
              have J_131 : ∀ (s_j131 : St) (x2j131 : Int32) (x6j131 : Int32) (x9j131 : Int64) (z0j131 : Int32) (H : Heap) (locs : List Loc), wj_Mo_number_131 y Post a0 a1 k1 s_j131 x2j131 x6j131 x9j131 z0j131 → va_P D CL (ws g ad y s_j131) H → va_D A (ws g ad y s_j131) → va_S A s.heap H locs → ∀ ls, lv_has ls 12 [(0, .ref (ad a0)), (2, .int x2j131), (6, .int x6j131), (9, .long x9j131)] → W p l e ru_Mo_number s m args below meth c H locs 0 0 Q (F0 m 131 ls [.int z0j131]) := by
                intro s_j131 x2j131 x6j131 x9j131 z0j131 H locs h hP hD hS ls hl
                unfold wj_Mo_number_131 at h
                refine lv_istore (lv' := [(11, .int z0j131), (0, .ref (ad a0)), (2, .int x2j131), (6, .int x6j131), (9, .long x9j131)]) G.1 G.2.1 d_Mo_number_131 hl (by decide) rfl (fun ls hl => ?_)
                refine lv_aload_n G.1 G.2.1 d_Mo_number_133 rfl (lv_at hl 1 rfl) ?_
                refine lv_iload G.1 G.2.1 d_Mo_number_134 (lv_at hl 0 rfl) ?_
                have J_144 : ∀ (s_j144 : St) (x2j144 : Int32) (x6j144 : Int32) (x9j144 : Int64) (z1j144 : Int32) (H : Heap) (locs : List Loc), wj_Mo_number_144 y Post a0 a1 k1 s_j144 x2j144 x6j144 x9j144 z1j144 → va_P D CL (ws g ad y s_j144) H → va_D A (ws g ad y s_j144) → va_S A s.heap H locs → ∀ ls, lv_has ls 12 [(2, .int x2j144), (6, .int x6j144), (9, .long x9j144)] → W p l e ru_Mo_number s m args below meth c H locs 0 0 Q (F0 m 144 ls [.int z1j144, .ref (ad a0)]) := by
                  intro s_j144 x2j144 x6j144 x9j144 z1j144 H locs h hP hD hS ls hl
                  unfold wj_Mo_number_144 at h
                  refine lv_lload G.1 G.2.1 d_Mo_number_144 (lv_at hl 2 rfl) ?_
                  refine lv_l2i G.1 G.2.1 d_Mo_number_146 rfl ?_
                  refine lv_iload_n G.1 G.2.1 d_Mo_number_147 rfl (lv_at hl 0 rfl) ?_
                  refine ucVv (As := [.int z1j144, .int x9j144.toInt32, .int x2j144]) (rest := []) G hP hD hS (cu_Mo_addWord l D g ad y _ s_j144 a0 z1j144 x9j144.toInt32 x2j144 H.size h_a0 h) w9_Mo_addWord q3504 ⟨Nat.le_of_ble_eq_true rfl, Nat.le_of_ble_eq_true rfl⟩ rfl rfl h_a0 (q := (RMo, TMo, 131)) rfl rfl hl.1 rfl (Nat.le_of_ble_eq_true rfl) rfl ⟨Nat.le_refl _, Nat.le_refl _⟩ d_Mo_number_148 (fun s_3 H locs h hP hD hS => ?_)
                  refine lv_iload G.1 G.2.1 d_Mo_number_151 (lv_at hl 1 rfl) ?_
                  exact hret _ _ _ _ _ _ _ ls h hP hD hS (Nat.le_refl _) (Nat.le_refl _) d_Mo_number_153
                refine lv_if_eq (tgt := 143) G.1 G.2.1 d_Mo_number_136 (by decide) (fun c136 => ?_) (fun c136 => ?_)
                · skip
                  have h := h.1 c136
                  refine lv_iconst (v := 1) G.1 G.2.1 d_Mo_number_143 (by decide) ?_
                  exact J_144 s_j131 x2j131 x6j131 x9j131 1 H locs h hP hD hS ls (lv_sub hl [2, 3, 4] rfl)
                · skip
                  have h := h.2 c136
                  refine lv_iconst (v := 4) G.1 G.2.1 d_Mo_number_139 (by decide) ?_
                  refine lv_goto (tgt := 144) G.1 G.2.1 d_Mo_number_140 (by decide) ?_
                  exact J_144 s_j131 x2j131 x6j131 x9j131 4 H locs h hP hD hS ls (lv_sub hl [2, 3, 4] rfl)
              have J_130 : ∀ (s_j130 : St) (x2j130 : Int32) (x6j130 : Int32) (x9j130 : Int64) (H : Heap) (locs : List Loc), wj_Mo_number_130 y Post a0 a1 k1 s_j130 x2j130 x6j130 x9j130 → va_P D CL (ws g ad y s_j130) H → va_D A (ws g ad y s_j130) → va_S A s.heap H locs → ∀ ls, lv_has ls 12 [(0, .ref (ad a0)), (2, .int x2j130), (6, .int x6j130), (9, .long x9j130)] → W p l e ru_Mo_number s m args below meth c H locs 0 0 Q (F0 m 130 ls []) := by
                intro s_j130 x2j130 x6j130 x9j130 H locs h hP hD hS ls hl
                unfold wj_Mo_number_130 at h
                refine lv_iconst (v := 0) G.1 G.2.1 d_Mo_number_130 (by decide) ?_
                exact J_131 s_j130 x2j130 x6j130 x9j130 0 H locs h hP hD hS ls (lv_sub hl [0, 1, 2, 3] rfl)
              refine lv_icmp_gt (tgt := 130) G.1 G.2.1 d_Mo_number_113 (by decide) (fun c113 => ?_) (fun c113 => ?_)
              · skip
                have h := h.1 c113
                exact J_130 s_j104 x2j104 x6j104 z0j104 H locs h hP hD hS ls (lv_sub hl [1, 2, 4, 0] rfl)
              · skip
                have h := h.2 c113
                refine lv_lload G.1 G.2.1 d_Mo_number_116 (lv_at hl 0 rfl) ?_
                refine lv_lload G.1 G.2.1 d_Mo_number_118 (lv_at hl 0 rfl) ?_
                refine lv_l2i G.1 G.2.1 d_Mo_number_120 rfl ?_
                refine lv_i2l G.1 G.2.1 d_Mo_number_121 rfl ?_
                refine W.lcmp G.1 G.2.1 d_Mo_number_122 ?_
                refine W.eq (g2 := F0 m 123 ls [.int (lg_cmp z0j104 z0j104.toInt32.toInt64)]) rfl ?_
                refine lv_if_ne (tgt := 130) G.1 G.2.1 d_Mo_number_123 (by decide) (fun c123 => ?_) (fun c123 => ?_)
                · skip
                  have h := h.1 c123
                  exact J_130 s_j104 x2j104 x6j104 z0j104 H locs h hP hD hS ls (lv_sub hl [1, 2, 4, 0] rfl)
                · skip
                  have h := h.2 c123
                  refine lv_iconst (v := 1) G.1 G.2.1 d_Mo_number_126 (by decide) ?_
                  refine lv_goto (tgt := 131) G.1 G.2.1 d_Mo_number_127 (by decide) ?_
                  exact J_131 s_j104 x2j104 x6j104 z0j104 1 H locs h hP hD hS ls (lv_sub hl [1, 2, 4, 0] rfl)
            refine lv_if_eq (tgt := 102) G.1 G.2.1 d_Mo_number_93 (by decide) (fun c93 => ?_) (fun c93 => ?_)
            · skip
              have h := h.1 c93
              refine lv_lload G.1 G.2.1 d_Mo_number_102 (lv_at hl 5 rfl) ?_
              exact J_104 s_j91 x2j91 x5j91 x6j91 x7j91 H locs h hP hD hS ls (lv_sub hl [0, 1, 3, 4] rfl)
            · skip
              have h := h.2 c93
              refine lv_lload G.1 G.2.1 d_Mo_number_96 (lv_at hl 5 rfl) ?_
              refine lv_lneg G.1 G.2.1 d_Mo_number_98 ?_
              refine lv_goto (tgt := 104) G.1 G.2.1 d_Mo_number_99 (by decide) ?_
              exact J_104 s_j91 x2j91 x5j91 x6j91 (-x7j91) H locs h hP hD hS ls (lv_sub hl [0, 1, 3, 4] rfl)
          refine lv_icmp_ge (tgt := 91) G.1 G.2.1 d_Mo_number_39 (by decide) (fun c39 => ?_) (fun c39 => ?_)
          · skip
            have h := h.1 c39
            exact J_91 s_h36 x2h36 x4h36 x5h36 x6h36 x7h36 H locs h hP hD hS ls (lv_sub hl [0, 2, 4, 5, 6, 7] rfl)
          · skip
            have h := h.2 c39
            refine lv_aload_n G.1 G.2.1 d_Mo_number_42 rfl (lv_at hl 1 rfl) ?_
            refine lv_iload G.1 G.2.1 d_Mo_number_43 (lv_at hl 6 rfl) ?_
            refine ubald G hP h_a1.1 h_a1.2 h d_Mo_number_45 (fun x_4 h => ?_)
            refine ucSi (As := [.int x_4]) (rest := []) G hP hD hS (cu_Mo_isDigit l D g ad y _ s_h36 x_4 H.size  h) w9_Mo_isDigit q3501 ⟨Nat.le_of_ble_eq_true rfl, Nat.le_of_ble_eq_true rfl⟩ rfl rfl hl.1 rfl (Nat.le_of_ble_eq_true rfl) rfl ⟨Nat.le_refl _, Nat.le_refl _⟩ d_Mo_number_46 (fun r_5 s_6 H locs h hP hD hS => ?_)
            refine lv_if_eq (tgt := 91) G.1 G.2.1 d_Mo_number_49 (by decide) (fun c49 => ?_) (fun c49 => ?_)
            · skip
              have h := h.1 c49
              exact J_91 s_6 x2h36 x4h36 x5h36 x6h36 x7h36 H locs h hP hD hS ls (lv_sub hl [0, 2, 4, 5, 6, 7] rfl)
            · skip
              have h := h.2 c49
              refine lv_iload G.1 G.2.1 d_Mo_number_52 (lv_at hl 6 rfl) ?_
              refine lv_iload G.1 G.2.1 d_Mo_number_54 (lv_at hl 5 rfl) ?_
              refine lv_isub G.1 G.2.1 d_Mo_number_56 ?_
              refine W.eq (g2 := F0 m 57 ls [.int (x6h36 - x5h36)]) rfl ?_
              refine lv_bipush (v := 10) G.1 G.2.1 d_Mo_number_57 (by decide) ?_
              have J_83 : ∀ (s_j83 : St) (x2j83 : Int32) (x3j83 : Int32) (x4j83 : Int32) (x5j83 : Int32) (x6j83 : Int32) (z0j83 : Int64) (H : Heap) (locs : List Loc), wj_Mo_number_83 y Post K_36 a0 a1 k1 s_j83 x2j83 x3j83 x4j83 x5j83 x6j83 z0j83 → va_P D CL (ws g ad y s_j83) H → va_D A (ws g ad y s_j83) → va_S A s.heap H locs → ∀ ls, lv_has ls 12 [(0, .ref (ad a0)), (1, .ref (yP y a1 k1)), (2, .int x2j83), (3, .int x3j83), (4, .int x4j83), (5, .int x5j83), (6, .int x6j83)] → W p l e ru_Mo_number s m args below meth c H locs 0 0 Q (F0 m 83 ls [.long z0j83]) := by
                intro s_j83 x2j83 x3j83 x4j83 x5j83 x6j83 z0j83 H locs h hP hD hS ls hl
                unfold wj_Mo_number_83 at h
                refine lv_lstore (lv' := [(7, .long z0j83), (0, .ref (ad a0)), (1, .ref (yP y a1 k1)), (2, .int x2j83), (3, .int x3j83), (4, .int x4j83), (5, .int x5j83), (6, .int x6j83)]) G.1 G.2.1 d_Mo_number_83 hl (by decide) rfl (fun ls hl => ?_)
                refine lv_iinc (v := x6j83 + 1) (lv' := [(6, .int (x6j83 + 1)), (7, .long z0j83), (0, .ref (ad a0)), (1, .ref (yP y a1 k1)), (2, .int x2j83), (3, .int x3j83), (4, .int x4j83), (5, .int x5j83)]) G.1 G.2.1 d_Mo_number_85 hl (k := 7) rfl rfl (by decide) rfl (fun ls hl => ?_)
                refine lv_goto (tgt := 36) G.1 G.2.1 d_Mo_number_88 (by decide) ?_
                have h := hK_36 s_j83 x2j83 x3j83 x4j83 x5j83 (x6j83 + 1) z0j83 h
                exact ih_36 s_j83 x2j83 x3j83 x4j83 x5j83 (x6j83 + 1) z0j83 (Nat.lt_of_lt_of_le h.2 (Nat.le_of_lt_succ hμ_36)) h.1 H locs hP hD hS ls (lv_sub hl [2, 3, 4, 5, 6, 7, 0, 1] rfl)
              refine lv_icmp_ge (tgt := 81) G.1 G.2.1 d_Mo_number_59 (by decide) (fun c59 => ?_) (fun c59 => ?_)
              · skip
                have h := h.1 c59
                refine lv_lload G.1 G.2.1 d_Mo_number_81 (lv_at hl 7 rfl) ?_
                exact J_83 s_6 x2h36 x3h36 x4h36 x5h36 x6h36 x7h36 H locs h hP hD hS ls (lv_sub hl [0, 1, 2, 3, 4, 5, 6] rfl)
              · skip
                have h := h.2 c59
                refine lv_ldc2 (v := (10)) G.1 G.2.1 G.2.2.2.2.2.2.1 (G.2.2.2.2.2.1 _ q3512) d_Mo_number_62 ?_
                refine lv_lload G.1 G.2.1 d_Mo_number_65 (lv_at hl 7 rfl) ?_
                refine lv_lmul G.1 G.2.1 d_Mo_number_67 ?_
                refine lv_aload_n G.1 G.2.1 d_Mo_number_68 rfl (lv_at hl 1 rfl) ?_
                refine lv_iload G.1 G.2.1 d_Mo_number_69 (lv_at hl 6 rfl) ?_
                refine ubald G hP h_a1.1 h_a1.2 h d_Mo_number_71 (fun x_7 h => ?_)
                refine lv_i2l G.1 G.2.1 d_Mo_number_72 rfl ?_
                refine lv_ladd G.1 G.2.1 d_Mo_number_73 ?_
                refine lv_ldc2 (v := (48)) G.1 G.2.1 G.2.2.2.2.2.2.1 (G.2.2.2.2.2.1 _ q3513) d_Mo_number_74 ?_
                refine lv_lsub G.1 G.2.1 d_Mo_number_77 ?_
                refine W.eq (g2 := F0 m 78 ls [.long ((((10) * x7h36) + x_7.toInt64) - (48))]) rfl ?_
                refine lv_goto (tgt := 83) G.1 G.2.1 d_Mo_number_78 (by decide) ?_
                exact J_83 s_6 x2h36 x3h36 x4h36 x5h36 x6h36 ((((10) * x7h36) + x_7.toInt64) - (48)) H locs h hP hD hS ls (lv_sub hl [0, 1, 2, 3, 4, 5, 6] rfl)
      exact L_36 _ s_j27 x2j27 x3j27 x4j27 z0j27 z0j27 0 (Nat.lt_succ_self _) hI_36 H locs hP hD hS ls (lv_sub hl [3, 4, 5, 6, 7, 2, 1, 0] rfl)
    refine lv_if_eq (tgt := 26) G.1 G.2.1 d_Mo_number_17 (by decide) (fun c17 => ?_) (fun c17 => ?_)
    · skip
      have h := h.1 c17
      refine lv_iload_n G.1 G.2.1 d_Mo_number_26 rfl (lv_at hl 3 rfl) ?_
      exact J_27 s_j13 x2j13 x3j13 z0j13 x2j13 H locs h hP hD hS ls (lv_sub hl [1, 2, 3, 4, 0] rfl)
    · skip
      have h := h.2 c17
      refine lv_iload_n G.1 G.2.1 d_Mo_number_20 rfl (lv_at hl 3 rfl) ?_
      refine lv_iconst (v := 1) G.1 G.2.1 d_Mo_number_21 (by decide) ?_
      refine lv_iadd G.1 G.2.1 d_Mo_number_22 ?_
      refine lv_goto (tgt := 27) G.1 G.2.1 d_Mo_number_23 (by decide) ?_
      exact J_27 s_j13 x2j13 x3j13 z0j13 (x2j13 + 1) H locs h hP hD hS ls (lv_sub hl [1, 2, 3, 4, 0] rfl)
  refine lv_icmp_ne (tgt := 12) G.1 G.2.1 d_Mo_number_5 (by decide) (fun c5 => ?_) (fun c5 => ?_)
  · skip
    have h := h.1 c5
    refine lv_iconst (v := 0) G.1 G.2.1 d_Mo_number_12 (by decide) ?_
    exact J_13 σ v2 v3 0 H locs h hP hD hS ls (lv_sub hl [0, 1, 2, 3] rfl)
  · skip
    have h := h.2 c5
    refine lv_iconst (v := 1) G.1 G.2.1 d_Mo_number_8 (by decide) ?_
    refine lv_goto (tgt := 13) G.1 G.2.1 d_Mo_number_9 (by decide) ?_
    exact J_13 σ v2 v3 1 H locs h hP hD hS ls (lv_sub hl [0, 1, 2, 3] rfl)
theorem q2587 : Cond.methodLink "ClassWorksModel" 21 y_Mo_isName ∈ lw_ok := lw_okmem (List.mem_of_getElem? (i := 2587) (by decide +kernel)) rfl
theorem q2590 : Cond.code y_Mo_isName b_Mo_isName 7 (some (.boolean)) ∈ lw_ok := lw_okmem (List.mem_of_getElem? (i := 2590) (by decide +kernel)) rfl
theorem q2589 : Cond.instanceMethod y_Mo_isName ∈ lw_ok := lw_okmem (List.mem_of_getElem? (i := 2589) (by decide +kernel)) rfl
theorem q170 : Cond.selects y_Mo_isName.cls y_Mo_isName y_Mo_isName ∈ lw_ok := lw_okmem (List.mem_of_getElem? (i := 170) (by decide +kernel)) rfl
theorem w9_Mo_isName : CWv y_Mo_isName b_Mo_isName 7 (some (.boolean)) 4 ∧ Cond.instanceMethod y_Mo_isName ∈ lw_ok ∧ Cond.selects y_Mo_isName.cls y_Mo_isName y_Mo_isName ∈ lw_ok := ⟨⟨q2590, q348, by decide +kernel, by decide +kernel, by decide +kernel⟩, q2589, q170⟩
def y_Mo_isTag : MethodName := ⟨"ClassWorksModel", "isTag", "(I[BII)Z"⟩
abbrev b_Mo_isTag : ByteArray := prog_14_method_13_code
theorem d_Mo_isTag_0 : decode b_Mo_isTag 0 = .ok (.iload_n 3, 1) := by decide +kernel
theorem d_Mo_isTag_1 : decode b_Mo_isTag 1 = .ok (.aload_n 0, 1) := by decide +kernel
theorem d_Mo_isTag_2 : decode b_Mo_isTag 2 = .ok (.getfield 40, 3) := by decide +kernel
theorem d_Mo_isTag_5 : decode b_Mo_isTag 5 = .ok (.iload_n 1, 1) := by decide +kernel
theorem d_Mo_isTag_6 : decode b_Mo_isTag 6 = .ok (.baload, 1) := by decide +kernel
theorem d_Mo_isTag_7 : decode b_Mo_isTag 7 = .ok (.iadd, 1) := by decide +kernel
theorem d_Mo_isTag_8 : decode b_Mo_isTag 8 = .ok (.iload 4, 2) := by decide +kernel
theorem d_Mo_isTag_10 : decode b_Mo_isTag 10 = .ok (.if_icmp .gt 23, 3) := by decide +kernel
theorem d_Mo_isTag_13 : decode b_Mo_isTag 13 = .ok (.aload_n 0, 1) := by decide +kernel
theorem d_Mo_isTag_14 : decode b_Mo_isTag 14 = .ok (.iload_n 1, 1) := by decide +kernel
theorem d_Mo_isTag_15 : decode b_Mo_isTag 15 = .ok (.aload_n 2, 1) := by decide +kernel
theorem d_Mo_isTag_16 : decode b_Mo_isTag 16 = .ok (.iload_n 3, 1) := by decide +kernel
theorem d_Mo_isTag_17 : decode b_Mo_isTag 17 = .ok (.aload_n 0, 1) := by decide +kernel
theorem d_Mo_isTag_18 : decode b_Mo_isTag 18 = .ok (.getfield 40, 3) := by decide +kernel
theorem d_Mo_isTag_21 : decode b_Mo_isTag 21 = .ok (.iload_n 1, 1) := by decide +kernel
theorem d_Mo_isTag_22 : decode b_Mo_isTag 22 = .ok (.baload, 1) := by decide +kernel
theorem d_Mo_isTag_23 : decode b_Mo_isTag 23 = .ok (.invokevirtual 21, 3) := by decide +kernel
theorem d_Mo_isTag_26 : decode b_Mo_isTag 26 = .ok (.ifCond .eq 7, 3) := by decide +kernel
theorem d_Mo_isTag_29 : decode b_Mo_isTag 29 = .ok (.iconst 1, 1) := by decide +kernel
theorem d_Mo_isTag_30 : decode b_Mo_isTag 30 = .ok (.goto 4, 3) := by decide +kernel
theorem d_Mo_isTag_33 : decode b_Mo_isTag 33 = .ok (.iconst 0, 1) := by decide +kernel
theorem d_Mo_isTag_34 : decode b_Mo_isTag 34 = .ok (.ireturn, 1) := by decide +kernel
abbrev ru_Mo_isTag : Room := { frames := 1, cells := 0, slots := 0, locals := 26 }
def wj_Mo_isTag_34 (y : Ly) (Post : St → Int32 → Prop) (a0 : Nat) (a2 : Nat) (k2 : Nat) (s_j34 : St) (z0j34 : Int32) : Prop := (nb z0j34 ∧ Post s_j34 z0j34)
def wj_Mo_isTag_33 (y : Ly) (Post : St → Int32 → Prop) (a0 : Nat) (a2 : Nat) (k2 : Nat) (s_j33 : St) : Prop := wj_Mo_isTag_34 y Post a0 a2 k2 s_j33 0
def wu_Mo_isTag (y : Ly) (Post : St → Int32 → Prop) (σ : St) (a0 : Nat) (v1 : Int32) (a2 : Nat) (k2 : Nat) (v3 : Int32) (v4 : Int32) : Prop := xA y σ a0 1 v1 (fun x_1 : Int32 => ((v4 < (v3 + x_1) → wj_Mo_isTag_33 y Post a0 a2 k2 σ) ∧ (¬ (v4 < (v3 + x_1)) → xA y σ a0 1 v1 (fun x_2 : Int32 => wu_Mo_isName y (fun (s_4 : St) (r_3 : Int32) => ((r_3 = 0 → wj_Mo_isTag_33 y Post a0 a2 k2 s_4) ∧ (¬ (r_3 = 0) → wj_Mo_isTag_34 y Post a0 a2 k2 s_4 1))) σ a0 v1 a2 k2 v3 x_2))))
set_option maxHeartbeats 4000000 in
set_option maxRecDepth 100000 in
theorem cu_Mo_isTag (l : Launch) (D : va_G) (g : Nat → ClassId) (ad : Nat → Nat) (y : Ly) (Post : St → Int32 → Prop) (σ : St) (a0 : Nat) (v1 : Int32) (a2 : Nat) (k2 : Nat) (v3 : Int32) (v4 : Int32) (sz : Nat) (h_a0 : cl a0 = 14) (h_a2 : kd (cl a2) k2 = 2 ∧ tyx (cl a2) k2 = 1) (h : wu_Mo_isTag y Post σ a0 v1 a2 k2 v3 v4) : Met l y_Mo_isTag (mw y_Mo_isTag b_Mo_isTag 5 (some (.boolean))) ru_Mo_isTag (PC g D [] [.ref (ad a0), .int v1, .ref (yP y a2 k2), .int v3, .int v4] sz (ws g ad y σ)) (va_Qi (fun (r : Int32) (u : St) => Post u r) (QW D (va_A (ws g ad y σ) sz) (fun u => ws g ad y u)) (va_A (ws g ad y σ) sz)) 0 0 (va_A (ws g ad y σ) sz) := by
  refine ofZ (by decide +kernel) (Nat.le_of_ble_eq_true rfl) ?_
  intro p e s m args below meth c A Q ls H locs G hsz hP hD hS hl hret
  subst hsz
  have hl : lv_has ls 5 [(0, .ref (ad a0)), (1, .int v1), (2, .ref (yP y a2 k2)), (3, .int v3), (4, .int v4)] := hl
  unfold wu_Mo_isTag at h
  refine lv_iload_n G.1 G.2.1 d_Mo_isTag_0 rfl (lv_at hl 3 rfl) ?_
  refine lv_aload_n G.1 G.2.1 d_Mo_isTag_1 rfl (lv_at hl 0 rfl) ?_
  refine ugf (v := .ref (yP y a0 1)) G hP h_a0 iMo rfl 1 (by decide) rfl q3065 rfl rfl d_Mo_isTag_2 ?_
  refine lv_iload_n G.1 G.2.1 d_Mo_isTag_5 rfl (lv_at hl 1 rfl) ?_
  refine ubald G hP (kdp h_a0 rfl) (typ h_a0 rfl) h d_Mo_isTag_6 (fun x_1 h => ?_)
  refine lv_iadd G.1 G.2.1 d_Mo_isTag_7 ?_
  refine lv_iload G.1 G.2.1 d_Mo_isTag_8 (lv_at hl 4 rfl) ?_
  have J_34 : ∀ (s_j34 : St) (z0j34 : Int32) (H : Heap) (locs : List Loc), wj_Mo_isTag_34 y Post a0 a2 k2 s_j34 z0j34 → va_P D CL (ws g ad y s_j34) H → va_D A (ws g ad y s_j34) → va_S A s.heap H locs → ∀ ls, lv_has ls 5 [] → W p l e ru_Mo_isTag s m args below meth c H locs 0 0 Q (F0 m 34 ls [.int z0j34]) := by
    intro s_j34 z0j34 H locs h hP hD hS ls hl
    unfold wj_Mo_isTag_34 at h
    exact hret _ _ _ _ _ _ _ ls (nb_n h.1) h.2 hP hD hS (Nat.le_refl _) (Nat.le_refl _) d_Mo_isTag_34
  have J_33 : ∀ (s_j33 : St) (H : Heap) (locs : List Loc), wj_Mo_isTag_33 y Post a0 a2 k2 s_j33 → va_P D CL (ws g ad y s_j33) H → va_D A (ws g ad y s_j33) → va_S A s.heap H locs → ∀ ls, lv_has ls 5 [] → W p l e ru_Mo_isTag s m args below meth c H locs 0 0 Q (F0 m 33 ls []) := by
    intro s_j33 H locs h hP hD hS ls hl
    unfold wj_Mo_isTag_33 at h
    refine lv_iconst (v := 0) G.1 G.2.1 d_Mo_isTag_33 (by decide) ?_
    exact J_34 s_j33 0 H locs h hP hD hS ls (lv_sub hl [] rfl)
  refine lv_icmp_gt (tgt := 33) G.1 G.2.1 d_Mo_isTag_10 (by decide) (fun c10 => ?_) (fun c10 => ?_)
  · skip
    have h := h.1 c10
    exact J_33 σ H locs h hP hD hS ls (lv_sub hl [] rfl)
  · skip
    have h := h.2 c10
    refine lv_aload_n G.1 G.2.1 d_Mo_isTag_13 rfl (lv_at hl 0 rfl) ?_
    refine lv_iload_n G.1 G.2.1 d_Mo_isTag_14 rfl (lv_at hl 1 rfl) ?_
    refine lv_aload_n G.1 G.2.1 d_Mo_isTag_15 rfl (lv_at hl 2 rfl) ?_
    refine W.eq (g2 := F0 m 16 ls [.ref (yP y a2 k2), .int v1, .ref (ad a0)]) rfl ?_
    refine lv_iload_n G.1 G.2.1 d_Mo_isTag_16 rfl (lv_at hl 3 rfl) ?_
    refine lv_aload_n G.1 G.2.1 d_Mo_isTag_17 rfl (lv_at hl 0 rfl) ?_
    refine ugf (v := .ref (yP y a0 1)) G hP h_a0 iMo rfl 1 (by decide) rfl q3065 rfl rfl d_Mo_isTag_18 ?_
    refine lv_iload_n G.1 G.2.1 d_Mo_isTag_21 rfl (lv_at hl 1 rfl) ?_
    refine ubald G hP (kdp h_a0 rfl) (typ h_a0 rfl) h d_Mo_isTag_22 (fun x_2 h => ?_)
    refine ucVi (As := [.int v1, .ref (yP y a2 k2), .int v3, .int x_2]) (rest := []) G hP hD hS (cu_Mo_isName l D g ad y _ σ a0 v1 a2 k2 v3 x_2 H.size h_a0 ⟨h_a2.1, h_a2.2⟩ h) w9_Mo_isName q2587 ⟨Nat.le_of_ble_eq_true rfl, Nat.le_of_ble_eq_true rfl⟩ rfl rfl h_a0 (q := (RMo, TMo, 131)) rfl rfl hl.1 rfl (Nat.le_of_ble_eq_true rfl) rfl ⟨Nat.le_refl _, Nat.le_refl _⟩ d_Mo_isTag_23 (fun r_3 s_4 H locs h hP hD hS => ?_)
    refine lv_if_eq (tgt := 33) G.1 G.2.1 d_Mo_isTag_26 (by decide) (fun c26 => ?_) (fun c26 => ?_)
    · skip
      have h := h.1 c26
      exact J_33 s_4 H locs h hP hD hS ls (lv_sub hl [] rfl)
    · skip
      have h := h.2 c26
      refine lv_iconst (v := 1) G.1 G.2.1 d_Mo_isTag_29 (by decide) ?_
      refine lv_goto (tgt := 34) G.1 G.2.1 d_Mo_isTag_30 (by decide) ?_
      exact J_34 s_4 1 H locs h hP hD hS ls (lv_sub hl [] rfl)
def y_Mo_isWord : MethodName := ⟨"ClassWorksModel", "isWord", "(I)Z"⟩
abbrev b_Mo_isWord : ByteArray := prog_14_method_23_code
theorem q3107 : Cond.fieldLink "ClassWorksModel" 104 "ClassWorksModel" "t" "I" ∈ lw_ok := lw_okmem (List.mem_of_getElem? (i := 3107) (by decide +kernel)) rfl
theorem d_Mo_isWord_0 : decode b_Mo_isWord 0 = .ok (.aload_n 0, 1) := by decide +kernel
theorem d_Mo_isWord_1 : decode b_Mo_isWord 1 = .ok (.getfield 92, 3) := by decide +kernel
theorem d_Mo_isWord_4 : decode b_Mo_isWord 4 = .ok (.aload_n 0, 1) := by decide +kernel
theorem d_Mo_isWord_5 : decode b_Mo_isWord 5 = .ok (.getfield 104, 3) := by decide +kernel
theorem d_Mo_isWord_8 : decode b_Mo_isWord 8 = .ok (.baload, 1) := by decide +kernel
theorem d_Mo_isWord_9 : decode b_Mo_isWord 9 = .ok (.iconst 2, 1) := by decide +kernel
theorem d_Mo_isWord_10 : decode b_Mo_isWord 10 = .ok (.if_icmp .ne 20, 3) := by decide +kernel
theorem d_Mo_isWord_13 : decode b_Mo_isWord 13 = .ok (.aload_n 0, 1) := by decide +kernel
theorem d_Mo_isWord_14 : decode b_Mo_isWord 14 = .ok (.getfield 98, 3) := by decide +kernel
theorem d_Mo_isWord_17 : decode b_Mo_isWord 17 = .ok (.aload_n 0, 1) := by decide +kernel
theorem d_Mo_isWord_18 : decode b_Mo_isWord 18 = .ok (.getfield 104, 3) := by decide +kernel
theorem d_Mo_isWord_21 : decode b_Mo_isWord 21 = .ok (.iaload, 1) := by decide +kernel
theorem d_Mo_isWord_22 : decode b_Mo_isWord 22 = .ok (.iload_n 1, 1) := by decide +kernel
theorem d_Mo_isWord_23 : decode b_Mo_isWord 23 = .ok (.if_icmp .ne 7, 3) := by decide +kernel
theorem d_Mo_isWord_26 : decode b_Mo_isWord 26 = .ok (.iconst 1, 1) := by decide +kernel
theorem d_Mo_isWord_27 : decode b_Mo_isWord 27 = .ok (.goto 4, 3) := by decide +kernel
theorem d_Mo_isWord_30 : decode b_Mo_isWord 30 = .ok (.iconst 0, 1) := by decide +kernel
theorem d_Mo_isWord_31 : decode b_Mo_isWord 31 = .ok (.ireturn, 1) := by decide +kernel
abbrev ru_Mo_isWord : Room := { frames := 0, cells := 0, slots := 0, locals := 0 }
def wj_Mo_isWord_31 (y : Ly) (Post : St → Int32 → Prop) (a0 : Nat) (s_j31 : St) (z0j31 : Int32) : Prop := (nb z0j31 ∧ Post s_j31 z0j31)
def wj_Mo_isWord_30 (y : Ly) (Post : St → Int32 → Prop) (a0 : Nat) (s_j30 : St) : Prop := wj_Mo_isWord_31 y Post a0 s_j30 0
def wu_Mo_isWord (y : Ly) (Post : St → Int32 → Prop) (σ : St) (a0 : Nat) (v1 : Int32) : Prop := xA y σ a0 39 (sV σ a0 43) (fun x_1 : Int32 => ((¬ x_1 = 2 → wj_Mo_isWord_30 y Post a0 σ) ∧ (x_1 = 2 → xA y σ a0 40 (sV σ a0 43) (fun x_2 : Int32 => ((¬ x_2 = v1 → wj_Mo_isWord_30 y Post a0 σ) ∧ (x_2 = v1 → wj_Mo_isWord_31 y Post a0 σ 1))))))
set_option maxHeartbeats 4000000 in
set_option maxRecDepth 100000 in
theorem cu_Mo_isWord (l : Launch) (D : va_G) (g : Nat → ClassId) (ad : Nat → Nat) (y : Ly) (Post : St → Int32 → Prop) (σ : St) (a0 : Nat) (v1 : Int32) (sz : Nat) (h_a0 : cl a0 = 14) (h : wu_Mo_isWord y Post σ a0 v1) : Met l y_Mo_isWord (mw y_Mo_isWord b_Mo_isWord 2 (some (.boolean))) ru_Mo_isWord (PC g D [] [.ref (ad a0), .int v1] sz (ws g ad y σ)) (va_Qi (fun (r : Int32) (u : St) => Post u r) (QW D (va_A (ws g ad y σ) sz) (fun u => ws g ad y u)) (va_A (ws g ad y σ) sz)) 0 0 (va_A (ws g ad y σ) sz) := by
  refine ofZ (by decide +kernel) (Nat.le_of_ble_eq_true rfl) ?_
  intro p e s m args below meth c A Q ls H locs G hsz hP hD hS hl hret
  subst hsz
  have hl : lv_has ls 2 [(0, .ref (ad a0)), (1, .int v1)] := hl
  unfold wu_Mo_isWord at h
  refine lv_aload_n G.1 G.2.1 d_Mo_isWord_0 rfl (lv_at hl 0 rfl) ?_
  refine ugf (v := .ref (yP y a0 39)) G hP h_a0 iMo rfl 39 (by decide) rfl q3103 rfl rfl d_Mo_isWord_1 ?_
  refine lv_aload_n G.1 G.2.1 d_Mo_isWord_4 rfl (lv_at hl 0 rfl) ?_
  refine ugf (v := .int (sV σ a0 43)) G hP h_a0 iMo rfl 43 (by decide) rfl q3107 rfl rfl d_Mo_isWord_5 ?_
  refine ubald G hP (kdp h_a0 rfl) (typ h_a0 rfl) h d_Mo_isWord_8 (fun x_1 h => ?_)
  refine lv_iconst (v := 2) G.1 G.2.1 d_Mo_isWord_9 (by decide) ?_
  have J_31 : ∀ (s_j31 : St) (z0j31 : Int32) (H : Heap) (locs : List Loc), wj_Mo_isWord_31 y Post a0 s_j31 z0j31 → va_P D CL (ws g ad y s_j31) H → va_D A (ws g ad y s_j31) → va_S A s.heap H locs → ∀ ls, lv_has ls 2 [] → W p l e ru_Mo_isWord s m args below meth c H locs 0 0 Q (F0 m 31 ls [.int z0j31]) := by
    intro s_j31 z0j31 H locs h hP hD hS ls hl
    unfold wj_Mo_isWord_31 at h
    exact hret _ _ _ _ _ _ _ ls (nb_n h.1) h.2 hP hD hS (Nat.le_refl _) (Nat.le_refl _) d_Mo_isWord_31
  have J_30 : ∀ (s_j30 : St) (H : Heap) (locs : List Loc), wj_Mo_isWord_30 y Post a0 s_j30 → va_P D CL (ws g ad y s_j30) H → va_D A (ws g ad y s_j30) → va_S A s.heap H locs → ∀ ls, lv_has ls 2 [] → W p l e ru_Mo_isWord s m args below meth c H locs 0 0 Q (F0 m 30 ls []) := by
    intro s_j30 H locs h hP hD hS ls hl
    unfold wj_Mo_isWord_30 at h
    refine lv_iconst (v := 0) G.1 G.2.1 d_Mo_isWord_30 (by decide) ?_
    exact J_31 s_j30 0 H locs h hP hD hS ls (lv_sub hl [] rfl)
  refine lv_icmp_ne (tgt := 30) G.1 G.2.1 d_Mo_isWord_10 (by decide) (fun c10 => ?_) (fun c10 => ?_)
  · skip
    have h := h.1 c10
    exact J_30 σ H locs h hP hD hS ls (lv_sub hl [] rfl)
  · skip
    have h := h.2 c10
    refine lv_aload_n G.1 G.2.1 d_Mo_isWord_13 rfl (lv_at hl 0 rfl) ?_
    refine ugf (v := .ref (yP y a0 40)) G hP h_a0 iMo rfl 40 (by decide) rfl q3104 rfl rfl d_Mo_isWord_14 ?_
    refine lv_aload_n G.1 G.2.1 d_Mo_isWord_17 rfl (lv_at hl 0 rfl) ?_
    refine ugf (v := .int (sV σ a0 43)) G hP h_a0 iMo rfl 43 (by decide) rfl q3107 rfl rfl d_Mo_isWord_18 ?_
    refine W.eq (g2 := F0 m 21 ls [.int (sV σ a0 43), .ref (yP y a0 40)]) rfl ?_
    refine uiald G hP (kdp h_a0 rfl) (typ h_a0 rfl) h d_Mo_isWord_21 (fun x_2 h => ?_)
    refine lv_iload_n G.1 G.2.1 d_Mo_isWord_22 rfl (lv_at hl 1 rfl) ?_
    refine lv_icmp_ne (tgt := 30) G.1 G.2.1 d_Mo_isWord_23 (by decide) (fun c23 => ?_) (fun c23 => ?_)
    · skip
      have h := h.1 c23
      exact J_30 σ H locs h hP hD hS ls (lv_sub hl [] rfl)
    · skip
      have h := h.2 c23
      refine lv_iconst (v := 1) G.1 G.2.1 d_Mo_isWord_26 (by decide) ?_
      refine lv_goto (tgt := 31) G.1 G.2.1 d_Mo_isWord_27 (by decide) ?_
      exact J_31 σ 1 H locs h hP hD hS ls (lv_sub hl [] rfl)
def y_Mo_labelOf : MethodName := ⟨"ClassWorksModel", "labelOf", "(I)I"⟩
abbrev b_Mo_labelOf : ByteArray := prog_14_method_40_code
theorem q3124 : Cond.fieldLink "ClassWorksModel" 644 "ClassWorksModel" "labels" "I" ∈ lw_ok := lw_okmem (List.mem_of_getElem? (i := 3124) (by decide +kernel)) rfl
theorem q3122 : Cond.fieldLink "ClassWorksModel" 283 "ClassWorksModel" "labelNames" "[I" ∈ lw_ok := lw_okmem (List.mem_of_getElem? (i := 3122) (by decide +kernel)) rfl
theorem q3123 : Cond.fieldLink "ClassWorksModel" 286 "ClassWorksModel" "labelAts" "[I" ∈ lw_ok := lw_okmem (List.mem_of_getElem? (i := 3123) (by decide +kernel)) rfl
theorem d_Mo_labelOf_0 : decode b_Mo_labelOf 0 = .ok (.iconst 0, 1) := by decide +kernel
theorem d_Mo_labelOf_1 : decode b_Mo_labelOf 1 = .ok (.istore_n 2, 1) := by decide +kernel
theorem d_Mo_labelOf_2 : decode b_Mo_labelOf 2 = .ok (.iload_n 2, 1) := by decide +kernel
theorem d_Mo_labelOf_3 : decode b_Mo_labelOf 3 = .ok (.aload_n 0, 1) := by decide +kernel
theorem d_Mo_labelOf_4 : decode b_Mo_labelOf 4 = .ok (.getfield 644, 3) := by decide +kernel
theorem d_Mo_labelOf_7 : decode b_Mo_labelOf 7 = .ok (.if_icmp .ge 26, 3) := by decide +kernel
theorem d_Mo_labelOf_10 : decode b_Mo_labelOf 10 = .ok (.aload_n 0, 1) := by decide +kernel
theorem d_Mo_labelOf_11 : decode b_Mo_labelOf 11 = .ok (.getfield 283, 3) := by decide +kernel
theorem d_Mo_labelOf_14 : decode b_Mo_labelOf 14 = .ok (.iload_n 2, 1) := by decide +kernel
theorem d_Mo_labelOf_15 : decode b_Mo_labelOf 15 = .ok (.iaload, 1) := by decide +kernel
theorem d_Mo_labelOf_16 : decode b_Mo_labelOf 16 = .ok (.iload_n 1, 1) := by decide +kernel
theorem d_Mo_labelOf_17 : decode b_Mo_labelOf 17 = .ok (.if_icmp .ne 10, 3) := by decide +kernel
theorem d_Mo_labelOf_20 : decode b_Mo_labelOf 20 = .ok (.aload_n 0, 1) := by decide +kernel
theorem d_Mo_labelOf_21 : decode b_Mo_labelOf 21 = .ok (.getfield 286, 3) := by decide +kernel
theorem d_Mo_labelOf_24 : decode b_Mo_labelOf 24 = .ok (.iload_n 2, 1) := by decide +kernel
theorem d_Mo_labelOf_25 : decode b_Mo_labelOf 25 = .ok (.iaload, 1) := by decide +kernel
theorem d_Mo_labelOf_26 : decode b_Mo_labelOf 26 = .ok (.ireturn, 1) := by decide +kernel
theorem d_Mo_labelOf_27 : decode b_Mo_labelOf 27 = .ok (.iinc 2 1, 3) := by decide +kernel
theorem d_Mo_labelOf_30 : decode b_Mo_labelOf 30 = .ok (.goto (-28), 3) := by decide +kernel
theorem d_Mo_labelOf_33 : decode b_Mo_labelOf 33 = .ok (.bipush (-2), 2) := by decide +kernel
theorem d_Mo_labelOf_35 : decode b_Mo_labelOf 35 = .ok (.ireturn, 1) := by decide +kernel
abbrev ru_Mo_labelOf : Room := { frames := 0, cells := 0, slots := 0, locals := 0 }
def wb_Mo_labelOf_2 (y : Ly) (Post : St → Int32 → Prop) (K_2 : St → Int32 → Int32 → Prop) (a0 : Nat) (s_h2 : St) (x1h2 : Int32) (x2h2 : Int32) : Prop := (((sV s_h2 a0 60) ≤ x2h2 → Post s_h2 (-2)) ∧ (¬ ((sV s_h2 a0 60) ≤ x2h2) → xA y s_h2 a0 58 x2h2 (fun x_1 : Int32 => ((¬ x_1 = x1h2 → K_2 s_h2 x1h2 (x2h2 + 1)) ∧ (x_1 = x1h2 → xA y s_h2 a0 59 x2h2 (fun x_2 : Int32 => Post s_h2 x_2))))))
def wl_Mo_labelOf_2 (y : Ly) (Post : St → Int32 → Prop) (a0 : Nat) (s_h2 : St) (x1h2 : Int32) (x2h2 : Int32) : Prop := ∃ (I : St → Int32 → Int32 → Prop) (μ : St → Int32 → Int32 → Nat), I s_h2 x1h2 x2h2 ∧ ∀ (u : St) (t0 : Int32) (t1 : Int32), I u t0 t1 → wb_Mo_labelOf_2 y Post (fun z t0q t1q => I z t0q t1q ∧ μ z t0q t1q < μ u t0 t1) a0 u t0 t1
def wu_Mo_labelOf (y : Ly) (Post : St → Int32 → Prop) (σ : St) (a0 : Nat) (v1 : Int32) : Prop := wl_Mo_labelOf_2 y Post a0 σ v1 0
set_option maxHeartbeats 4000000 in
set_option maxRecDepth 100000 in
theorem cu_Mo_labelOf (l : Launch) (D : va_G) (g : Nat → ClassId) (ad : Nat → Nat) (y : Ly) (Post : St → Int32 → Prop) (σ : St) (a0 : Nat) (v1 : Int32) (sz : Nat) (h_a0 : cl a0 = 14) (h : wu_Mo_labelOf y Post σ a0 v1) : Met l y_Mo_labelOf (mw y_Mo_labelOf b_Mo_labelOf 3 (some .int)) ru_Mo_labelOf (PC g D [] [.ref (ad a0), .int v1] sz (ws g ad y σ)) (va_Qi (fun (r : Int32) (u : St) => Post u r) (QW D (va_A (ws g ad y σ) sz) (fun u => ws g ad y u)) (va_A (ws g ad y σ) sz)) 0 0 (va_A (ws g ad y σ) sz) := by
  refine ofI (by decide +kernel) (Nat.le_of_ble_eq_true rfl) ?_
  intro p e s m args below meth c A Q ls H locs G hsz hP hD hS hl hret
  subst hsz
  have hl : lv_has ls 3 [(0, .ref (ad a0)), (1, .int v1)] := hl
  unfold wu_Mo_labelOf at h
  refine lv_iconst (v := 0) G.1 G.2.1 d_Mo_labelOf_0 (by decide) ?_
  refine lv_istore_n (lv' := [(2, .int 0), (0, .ref (ad a0)), (1, .int v1)]) G.1 G.2.1 d_Mo_labelOf_1 rfl hl (by decide) rfl (fun ls hl => ?_)
  unfold wl_Mo_labelOf_2 at h
  obtain ⟨I_2, μ_2, hI_2, hB_2⟩ := h
  have L_2 : ∀ (n_2 : Nat) (s_h2 : St) (x1h2 : Int32) (x2h2 : Int32), μ_2 s_h2 x1h2 x2h2 < n_2 → I_2 s_h2 x1h2 x2h2 → ∀ (H : Heap) (locs : List Loc), va_P D CL (ws g ad y s_h2) H → va_D A (ws g ad y s_h2) → va_S A s.heap H locs → ∀ ls, lv_has ls 3 [(0, .ref (ad a0)), (1, .int x1h2), (2, .int x2h2)] → W p l e ru_Mo_labelOf s m args below meth c H locs 0 0 Q (F0 m 2 ls []) := by
    intro n_2
    induction n_2 with
    | zero => intro s_h2 x1h2 x2h2 hμ; exact absurd hμ (Nat.not_lt_zero _)
    | succ n_2 ih_2 =>
      intro s_h2 x1h2 x2h2 hμ_2 hJ H locs hP hD hS ls hl
      obtain ⟨K_2, hK_2, h⟩ : ∃ K : St → Int32 → Int32 → Prop, (∀ z (t0 : Int32) (t1 : Int32), K z t0 t1 → I_2 z t0 t1 ∧ μ_2 z t0 t1 < μ_2 s_h2 x1h2 x2h2) ∧ wb_Mo_labelOf_2 y Post K a0 s_h2 x1h2 x2h2 := ⟨_, fun _ _ _ h => h, hB_2 s_h2 x1h2 x2h2 hJ⟩
      unfold wb_Mo_labelOf_2 at h
      refine lv_iload_n G.1 G.2.1 d_Mo_labelOf_2 rfl (lv_at hl 2 rfl) ?_
      refine lv_aload_n G.1 G.2.1 d_Mo_labelOf_3 rfl (lv_at hl 0 rfl) ?_
      refine ugf (v := .int (sV s_h2 a0 60)) G hP h_a0 iMo rfl 60 (by decide) rfl q3124 rfl rfl d_Mo_labelOf_4 ?_
      refine lv_icmp_ge (tgt := 33) G.1 G.2.1 d_Mo_labelOf_7 (by decide) (fun c7 => ?_) (fun c7 => ?_)
      · skip
        have h := h.1 c7
        refine lv_bipush (v := (-2)) G.1 G.2.1 d_Mo_labelOf_33 (by decide) ?_
        exact hret _ _ _ _ _ _ _ ls h hP hD hS (Nat.le_refl _) (Nat.le_refl _) d_Mo_labelOf_35
      · skip
        have h := h.2 c7
        refine lv_aload_n G.1 G.2.1 d_Mo_labelOf_10 rfl (lv_at hl 0 rfl) ?_
        refine ugf (v := .ref (yP y a0 58)) G hP h_a0 iMo rfl 58 (by decide) rfl q3122 rfl rfl d_Mo_labelOf_11 ?_
        refine lv_iload_n G.1 G.2.1 d_Mo_labelOf_14 rfl (lv_at hl 2 rfl) ?_
        refine uiald G hP (kdp h_a0 rfl) (typ h_a0 rfl) h d_Mo_labelOf_15 (fun x_1 h => ?_)
        refine lv_iload_n G.1 G.2.1 d_Mo_labelOf_16 rfl (lv_at hl 1 rfl) ?_
        refine lv_icmp_ne (tgt := 27) G.1 G.2.1 d_Mo_labelOf_17 (by decide) (fun c17 => ?_) (fun c17 => ?_)
        · skip
          have h := h.1 c17
          refine lv_iinc (v := x2h2 + 1) (lv' := [(2, .int (x2h2 + 1)), (0, .ref (ad a0)), (1, .int x1h2)]) G.1 G.2.1 d_Mo_labelOf_27 hl (k := 2) rfl rfl (by decide) rfl (fun ls hl => ?_)
          refine W.eq (g2 := F0 m 30 ls []) rfl ?_
          refine lv_goto (tgt := 2) G.1 G.2.1 d_Mo_labelOf_30 (by decide) ?_
          have h := hK_2 s_h2 x1h2 (x2h2 + 1) h
          exact ih_2 s_h2 x1h2 (x2h2 + 1) (Nat.lt_of_lt_of_le h.2 (Nat.le_of_lt_succ hμ_2)) h.1 H locs hP hD hS ls (lv_sub hl [1, 2, 0] rfl)
        · skip
          have h := h.2 c17
          refine lv_aload_n G.1 G.2.1 d_Mo_labelOf_20 rfl (lv_at hl 0 rfl) ?_
          refine W.eq (g2 := F0 m 21 ls [.ref (ad a0)]) rfl ?_
          refine ugf (v := .ref (yP y a0 59)) G hP h_a0 iMo rfl 59 (by decide) rfl q3123 rfl rfl d_Mo_labelOf_21 ?_
          refine lv_iload_n G.1 G.2.1 d_Mo_labelOf_24 rfl (lv_at hl 2 rfl) ?_
          refine uiald G hP (kdp h_a0 rfl) (typ h_a0 rfl) h d_Mo_labelOf_25 (fun x_2 h => ?_)
          exact hret _ _ _ _ _ _ _ ls h hP hD hS (Nat.le_refl _) (Nat.le_refl _) d_Mo_labelOf_26
  exact L_2 _ σ v1 0 (Nat.lt_succ_self _) hI_2 H locs hP hD hS ls (lv_sub hl [1, 2, 0] rfl)
theorem q3522 : Cond.methodLink "ClassWorksModel" 538 y_Mo_isWord ∈ lw_ok := lw_okmem (List.mem_of_getElem? (i := 3522) (by decide +kernel)) rfl
theorem q3525 : Cond.code y_Mo_isWord b_Mo_isWord 2 (some (.boolean)) ∈ lw_ok := lw_okmem (List.mem_of_getElem? (i := 3525) (by decide +kernel)) rfl
theorem q3524 : Cond.instanceMethod y_Mo_isWord ∈ lw_ok := lw_okmem (List.mem_of_getElem? (i := 3524) (by decide +kernel)) rfl
theorem q184 : Cond.selects y_Mo_isWord.cls y_Mo_isWord y_Mo_isWord ∈ lw_ok := lw_okmem (List.mem_of_getElem? (i := 184) (by decide +kernel)) rfl
theorem w9_Mo_isWord : CWv y_Mo_isWord b_Mo_isWord 2 (some (.boolean)) 1 ∧ Cond.instanceMethod y_Mo_isWord ∈ lw_ok ∧ Cond.selects y_Mo_isWord.cls y_Mo_isWord y_Mo_isWord ∈ lw_ok := ⟨⟨q3525, q348, by decide +kernel, by decide +kernel, by decide +kernel⟩, q3524, q184⟩
def y_Mo_takes : MethodName := ⟨"ClassWorksModel", "takes", "(I)Z"⟩
abbrev b_Mo_takes : ByteArray := prog_14_method_24_code
theorem d_Mo_takes_0 : decode b_Mo_takes 0 = .ok (.aload_n 0, 1) := by decide +kernel
theorem d_Mo_takes_1 : decode b_Mo_takes 1 = .ok (.iload_n 1, 1) := by decide +kernel
theorem d_Mo_takes_2 : decode b_Mo_takes 2 = .ok (.invokevirtual 538, 3) := by decide +kernel
theorem d_Mo_takes_5 : decode b_Mo_takes 5 = .ok (.istore_n 2, 1) := by decide +kernel
theorem d_Mo_takes_6 : decode b_Mo_takes 6 = .ok (.aload_n 0, 1) := by decide +kernel
theorem d_Mo_takes_7 : decode b_Mo_takes 7 = .ok (.dup, 1) := by decide +kernel
theorem d_Mo_takes_8 : decode b_Mo_takes 8 = .ok (.getfield 104, 3) := by decide +kernel
theorem d_Mo_takes_11 : decode b_Mo_takes 11 = .ok (.iload_n 2, 1) := by decide +kernel
theorem d_Mo_takes_12 : decode b_Mo_takes 12 = .ok (.ifCond .eq 7, 3) := by decide +kernel
theorem d_Mo_takes_15 : decode b_Mo_takes 15 = .ok (.iconst 1, 1) := by decide +kernel
theorem d_Mo_takes_16 : decode b_Mo_takes 16 = .ok (.goto 4, 3) := by decide +kernel
theorem d_Mo_takes_19 : decode b_Mo_takes 19 = .ok (.iconst 0, 1) := by decide +kernel
theorem d_Mo_takes_20 : decode b_Mo_takes 20 = .ok (.iadd, 1) := by decide +kernel
theorem d_Mo_takes_21 : decode b_Mo_takes 21 = .ok (.putfield 104, 3) := by decide +kernel
theorem d_Mo_takes_24 : decode b_Mo_takes 24 = .ok (.iload_n 2, 1) := by decide +kernel
theorem d_Mo_takes_25 : decode b_Mo_takes 25 = .ok (.ireturn, 1) := by decide +kernel
abbrev ru_Mo_takes : Room := { frames := 1, cells := 0, slots := 0, locals := 21 }
def wj_Mo_takes_20 (y : Ly) (Post : St → Int32 → Prop) (a0 : Nat) (s_j20 : St) (x2j20 : Int32) (z1j20 : Int32) (z2j20 : Int32) : Prop := xP (uV s_j20 a0 43 (z1j20 + z2j20)) (fun s_3 : St => (nb x2j20 ∧ Post s_3 x2j20))
def wu_Mo_takes (y : Ly) (Post : St → Int32 → Prop) (σ : St) (a0 : Nat) (v1 : Int32) : Prop := wu_Mo_isWord y (fun (s_2 : St) (r_1 : Int32) => ((r_1 = 0 → wj_Mo_takes_20 y Post a0 s_2 r_1 (sV s_2 a0 43) 0) ∧ (¬ (r_1 = 0) → wj_Mo_takes_20 y Post a0 s_2 r_1 (sV s_2 a0 43) 1))) σ a0 v1
set_option maxHeartbeats 4000000 in
set_option maxRecDepth 100000 in
theorem cu_Mo_takes (l : Launch) (D : va_G) (g : Nat → ClassId) (ad : Nat → Nat) (y : Ly) (Post : St → Int32 → Prop) (σ : St) (a0 : Nat) (v1 : Int32) (sz : Nat) (h_a0 : cl a0 = 14) (h : wu_Mo_takes y Post σ a0 v1) : Met l y_Mo_takes (mw y_Mo_takes b_Mo_takes 3 (some (.boolean))) ru_Mo_takes (PC g D [] [.ref (ad a0), .int v1] sz (ws g ad y σ)) (va_Qi (fun (r : Int32) (u : St) => Post u r) (QW D (va_A (ws g ad y σ) sz) (fun u => ws g ad y u)) (va_A (ws g ad y σ) sz)) 0 0 (va_A (ws g ad y σ) sz) := by
  refine ofZ (by decide +kernel) (Nat.le_of_ble_eq_true rfl) ?_
  intro p e s m args below meth c A Q ls H locs G hsz hP hD hS hl hret
  subst hsz
  have hl : lv_has ls 3 [(0, .ref (ad a0)), (1, .int v1)] := hl
  unfold wu_Mo_takes at h
  refine lv_aload_n G.1 G.2.1 d_Mo_takes_0 rfl (lv_at hl 0 rfl) ?_
  refine lv_iload_n G.1 G.2.1 d_Mo_takes_1 rfl (lv_at hl 1 rfl) ?_
  refine ucVi (As := [.int v1]) (rest := []) G hP hD hS (cu_Mo_isWord l D g ad y _ σ a0 v1 H.size h_a0 h) w9_Mo_isWord q3522 ⟨Nat.le_of_ble_eq_true rfl, Nat.le_of_ble_eq_true rfl⟩ rfl rfl h_a0 (q := (RMo, TMo, 131)) rfl rfl hl.1 rfl (Nat.le_of_ble_eq_true rfl) rfl ⟨Nat.le_refl _, Nat.le_refl _⟩ d_Mo_takes_2 (fun r_1 s_2 H locs h hP hD hS => ?_)
  refine lv_istore_n (lv' := [(2, .int r_1), (0, .ref (ad a0)), (1, .int v1)]) G.1 G.2.1 d_Mo_takes_5 rfl hl (by decide) rfl (fun ls hl => ?_)
  refine lv_aload_n G.1 G.2.1 d_Mo_takes_6 rfl (lv_at hl 1 rfl) ?_
  refine lv_dup G.1 G.2.1 d_Mo_takes_7 rfl ?_
  refine ugf (v := .int (sV s_2 a0 43)) G hP h_a0 iMo rfl 43 (by decide) rfl q3107 rfl rfl d_Mo_takes_8 ?_
  refine lv_iload_n G.1 G.2.1 d_Mo_takes_11 rfl (lv_at hl 0 rfl) ?_
  have J_20 : ∀ (s_j20 : St) (x2j20 : Int32) (z1j20 : Int32) (z2j20 : Int32) (H : Heap) (locs : List Loc), wj_Mo_takes_20 y Post a0 s_j20 x2j20 z1j20 z2j20 → va_P D CL (ws g ad y s_j20) H → va_D A (ws g ad y s_j20) → va_S A s.heap H locs → ∀ ls, lv_has ls 3 [(2, .int x2j20)] → W p l e ru_Mo_takes s m args below meth c H locs 0 0 Q (F0 m 20 ls [.int z2j20, .int z1j20, .ref (ad a0)]) := by
    intro s_j20 x2j20 z1j20 z2j20 H locs h hP hD hS ls hl
    unfold wj_Mo_takes_20 at h
    refine lv_iadd G.1 G.2.1 d_Mo_takes_20 ?_
    refine upf G hP hD hS h 43 putV h_a0 iMo tMo tMo_ok nMo rfl (by decide) rfl q3107 rfl rfl fV rfl rfl d_Mo_takes_21 (fun s_3 H locs h hP hD hS => ?_)
    refine lv_iload_n G.1 G.2.1 d_Mo_takes_24 rfl (lv_at hl 0 rfl) ?_
    exact hret _ _ _ _ _ _ _ ls (nb_n h.1) h.2 hP hD hS (Nat.le_refl _) (Nat.le_refl _) d_Mo_takes_25
  refine lv_if_eq (tgt := 19) G.1 G.2.1 d_Mo_takes_12 (by decide) (fun c12 => ?_) (fun c12 => ?_)
  · skip
    have h := h.1 c12
    refine lv_iconst (v := 0) G.1 G.2.1 d_Mo_takes_19 (by decide) ?_
    exact J_20 s_2 r_1 (sV s_2 a0 43) 0 H locs h hP hD hS ls (lv_sub hl [0] rfl)
  · skip
    have h := h.2 c12
    refine lv_iconst (v := 1) G.1 G.2.1 d_Mo_takes_15 (by decide) ?_
    refine lv_goto (tgt := 20) G.1 G.2.1 d_Mo_takes_16 (by decide) ?_
    exact J_20 s_2 r_1 (sV s_2 a0 43) 1 H locs h hP hD hS ls (lv_sub hl [0] rfl)
def y_Mo_isClassName : MethodName := ⟨"ClassWorksModel", "isClassName", "(I)Z"⟩
abbrev b_Mo_isClassName : ByteArray := prog_14_method_27_code
theorem q3091 : Cond.fieldLink "ClassWorksModel" 245 "ClassWorksModel" "kNum" "I" ∈ lw_ok := lw_okmem (List.mem_of_getElem? (i := 3091) (by decide +kernel)) rfl
theorem q3084 : Cond.fieldLink "ClassWorksModel" 212 "ClassWorksModel" "kRow" "I" ∈ lw_ok := lw_okmem (List.mem_of_getElem? (i := 3084) (by decide +kernel)) rfl
theorem q3085 : Cond.fieldLink "ClassWorksModel" 217 "ClassWorksModel" "kNone" "I" ∈ lw_ok := lw_okmem (List.mem_of_getElem? (i := 3085) (by decide +kernel)) rfl
theorem q3092 : Cond.fieldLink "ClassWorksModel" 248 "ClassWorksModel" "kNull" "I" ∈ lw_ok := lw_okmem (List.mem_of_getElem? (i := 3092) (by decide +kernel)) rfl
theorem q3086 : Cond.fieldLink "ClassWorksModel" 222 "ClassWorksModel" "kUnset" "I" ∈ lw_ok := lw_okmem (List.mem_of_getElem? (i := 3086) (by decide +kernel)) rfl
theorem q3087 : Cond.fieldLink "ClassWorksModel" 227 "ClassWorksModel" "kUnmade" "I" ∈ lw_ok := lw_okmem (List.mem_of_getElem? (i := 3087) (by decide +kernel)) rfl
theorem q3088 : Cond.fieldLink "ClassWorksModel" 232 "ClassWorksModel" "kAny" "I" ∈ lw_ok := lw_okmem (List.mem_of_getElem? (i := 3088) (by decide +kernel)) rfl
theorem d_Mo_isClassName_0 : decode b_Mo_isClassName 0 = .ok (.iload_n 1, 1) := by decide +kernel
theorem d_Mo_isClassName_1 : decode b_Mo_isClassName 1 = .ok (.aload_n 0, 1) := by decide +kernel
theorem d_Mo_isClassName_2 : decode b_Mo_isClassName 2 = .ok (.getfield 245, 3) := by decide +kernel
theorem d_Mo_isClassName_5 : decode b_Mo_isClassName 5 = .ok (.if_icmp .eq 55, 3) := by decide +kernel
theorem d_Mo_isClassName_8 : decode b_Mo_isClassName 8 = .ok (.iload_n 1, 1) := by decide +kernel
theorem d_Mo_isClassName_9 : decode b_Mo_isClassName 9 = .ok (.aload_n 0, 1) := by decide +kernel
theorem d_Mo_isClassName_10 : decode b_Mo_isClassName 10 = .ok (.getfield 212, 3) := by decide +kernel
theorem d_Mo_isClassName_13 : decode b_Mo_isClassName 13 = .ok (.if_icmp .eq 47, 3) := by decide +kernel
theorem d_Mo_isClassName_16 : decode b_Mo_isClassName 16 = .ok (.iload_n 1, 1) := by decide +kernel
theorem d_Mo_isClassName_17 : decode b_Mo_isClassName 17 = .ok (.aload_n 0, 1) := by decide +kernel
theorem d_Mo_isClassName_18 : decode b_Mo_isClassName 18 = .ok (.getfield 217, 3) := by decide +kernel
theorem d_Mo_isClassName_21 : decode b_Mo_isClassName 21 = .ok (.if_icmp .eq 39, 3) := by decide +kernel
theorem d_Mo_isClassName_24 : decode b_Mo_isClassName 24 = .ok (.iload_n 1, 1) := by decide +kernel
theorem d_Mo_isClassName_25 : decode b_Mo_isClassName 25 = .ok (.aload_n 0, 1) := by decide +kernel
theorem d_Mo_isClassName_26 : decode b_Mo_isClassName 26 = .ok (.getfield 248, 3) := by decide +kernel
theorem d_Mo_isClassName_29 : decode b_Mo_isClassName 29 = .ok (.if_icmp .eq 31, 3) := by decide +kernel
theorem d_Mo_isClassName_32 : decode b_Mo_isClassName 32 = .ok (.iload_n 1, 1) := by decide +kernel
theorem d_Mo_isClassName_33 : decode b_Mo_isClassName 33 = .ok (.aload_n 0, 1) := by decide +kernel
theorem d_Mo_isClassName_34 : decode b_Mo_isClassName 34 = .ok (.getfield 222, 3) := by decide +kernel
theorem d_Mo_isClassName_37 : decode b_Mo_isClassName 37 = .ok (.if_icmp .eq 23, 3) := by decide +kernel
theorem d_Mo_isClassName_40 : decode b_Mo_isClassName 40 = .ok (.iload_n 1, 1) := by decide +kernel
theorem d_Mo_isClassName_41 : decode b_Mo_isClassName 41 = .ok (.aload_n 0, 1) := by decide +kernel
theorem d_Mo_isClassName_42 : decode b_Mo_isClassName 42 = .ok (.getfield 227, 3) := by decide +kernel
theorem d_Mo_isClassName_45 : decode b_Mo_isClassName 45 = .ok (.if_icmp .eq 15, 3) := by decide +kernel
theorem d_Mo_isClassName_48 : decode b_Mo_isClassName 48 = .ok (.iload_n 1, 1) := by decide +kernel
theorem d_Mo_isClassName_49 : decode b_Mo_isClassName 49 = .ok (.aload_n 0, 1) := by decide +kernel
theorem d_Mo_isClassName_50 : decode b_Mo_isClassName 50 = .ok (.getfield 232, 3) := by decide +kernel
theorem d_Mo_isClassName_53 : decode b_Mo_isClassName 53 = .ok (.if_icmp .eq 7, 3) := by decide +kernel
theorem d_Mo_isClassName_56 : decode b_Mo_isClassName 56 = .ok (.iconst 1, 1) := by decide +kernel
theorem d_Mo_isClassName_57 : decode b_Mo_isClassName 57 = .ok (.goto 4, 3) := by decide +kernel
theorem d_Mo_isClassName_60 : decode b_Mo_isClassName 60 = .ok (.iconst 0, 1) := by decide +kernel
theorem d_Mo_isClassName_61 : decode b_Mo_isClassName 61 = .ok (.ireturn, 1) := by decide +kernel
abbrev ru_Mo_isClassName : Room := { frames := 0, cells := 0, slots := 0, locals := 0 }
def wj_Mo_isClassName_61 (y : Ly) (Post : St → Int32 → Prop) (a0 : Nat) (s_j61 : St) (z0j61 : Int32) : Prop := (nb z0j61 ∧ Post s_j61 z0j61)
def wj_Mo_isClassName_60 (y : Ly) (Post : St → Int32 → Prop) (a0 : Nat) (s_j60 : St) : Prop := wj_Mo_isClassName_61 y Post a0 s_j60 0
def wu_Mo_isClassName (y : Ly) (Post : St → Int32 → Prop) (σ : St) (a0 : Nat) (v1 : Int32) : Prop := ((v1 = (sV σ a0 27) → wj_Mo_isClassName_60 y Post a0 σ) ∧ (¬ (v1 = (sV σ a0 27)) → ((v1 = (sV σ a0 20) → wj_Mo_isClassName_60 y Post a0 σ) ∧ (¬ (v1 = (sV σ a0 20)) → ((v1 = (sV σ a0 21) → wj_Mo_isClassName_60 y Post a0 σ) ∧ (¬ (v1 = (sV σ a0 21)) → ((v1 = (sV σ a0 28) → wj_Mo_isClassName_60 y Post a0 σ) ∧ (¬ (v1 = (sV σ a0 28)) → ((v1 = (sV σ a0 22) → wj_Mo_isClassName_60 y Post a0 σ) ∧ (¬ (v1 = (sV σ a0 22)) → ((v1 = (sV σ a0 23) → wj_Mo_isClassName_60 y Post a0 σ) ∧ (¬ (v1 = (sV σ a0 23)) → ((v1 = (sV σ a0 24) → wj_Mo_isClassName_60 y Post a0 σ) ∧ (¬ (v1 = (sV σ a0 24)) → wj_Mo_isClassName_61 y Post a0 σ 1))))))))))))))
set_option maxHeartbeats 4000000 in
set_option maxRecDepth 100000 in
theorem cu_Mo_isClassName (l : Launch) (D : va_G) (g : Nat → ClassId) (ad : Nat → Nat) (y : Ly) (Post : St → Int32 → Prop) (σ : St) (a0 : Nat) (v1 : Int32) (sz : Nat) (h_a0 : cl a0 = 14) (h : wu_Mo_isClassName y Post σ a0 v1) : Met l y_Mo_isClassName (mw y_Mo_isClassName b_Mo_isClassName 2 (some (.boolean))) ru_Mo_isClassName (PC g D [] [.ref (ad a0), .int v1] sz (ws g ad y σ)) (va_Qi (fun (r : Int32) (u : St) => Post u r) (QW D (va_A (ws g ad y σ) sz) (fun u => ws g ad y u)) (va_A (ws g ad y σ) sz)) 0 0 (va_A (ws g ad y σ) sz) := by
  refine ofZ (by decide +kernel) (Nat.le_of_ble_eq_true rfl) ?_
  intro p e s m args below meth c A Q ls H locs G hsz hP hD hS hl hret
  subst hsz
  have hl : lv_has ls 2 [(0, .ref (ad a0)), (1, .int v1)] := hl
  unfold wu_Mo_isClassName at h
  refine lv_iload_n G.1 G.2.1 d_Mo_isClassName_0 rfl (lv_at hl 1 rfl) ?_
  refine lv_aload_n G.1 G.2.1 d_Mo_isClassName_1 rfl (lv_at hl 0 rfl) ?_
  refine ugf (v := .int (sV σ a0 27)) G hP h_a0 iMo rfl 27 (by decide) rfl q3091 rfl rfl d_Mo_isClassName_2 ?_
  have J_61 : ∀ (s_j61 : St) (z0j61 : Int32) (H : Heap) (locs : List Loc), wj_Mo_isClassName_61 y Post a0 s_j61 z0j61 → va_P D CL (ws g ad y s_j61) H → va_D A (ws g ad y s_j61) → va_S A s.heap H locs → ∀ ls, lv_has ls 2 [] → W p l e ru_Mo_isClassName s m args below meth c H locs 0 0 Q (F0 m 61 ls [.int z0j61]) := by
    intro s_j61 z0j61 H locs h hP hD hS ls hl
    unfold wj_Mo_isClassName_61 at h
    exact hret _ _ _ _ _ _ _ ls (nb_n h.1) h.2 hP hD hS (Nat.le_refl _) (Nat.le_refl _) d_Mo_isClassName_61
  have J_60 : ∀ (s_j60 : St) (H : Heap) (locs : List Loc), wj_Mo_isClassName_60 y Post a0 s_j60 → va_P D CL (ws g ad y s_j60) H → va_D A (ws g ad y s_j60) → va_S A s.heap H locs → ∀ ls, lv_has ls 2 [] → W p l e ru_Mo_isClassName s m args below meth c H locs 0 0 Q (F0 m 60 ls []) := by
    intro s_j60 H locs h hP hD hS ls hl
    unfold wj_Mo_isClassName_60 at h
    refine lv_iconst (v := 0) G.1 G.2.1 d_Mo_isClassName_60 (by decide) ?_
    exact J_61 s_j60 0 H locs h hP hD hS ls (lv_sub hl [] rfl)
  refine lv_icmp_eq (tgt := 60) G.1 G.2.1 d_Mo_isClassName_5 (by decide) (fun c5 => ?_) (fun c5 => ?_)
  · skip
    have h := h.1 c5
    exact J_60 σ H locs h hP hD hS ls (lv_sub hl [] rfl)
  · skip
    have h := h.2 c5
    refine lv_iload_n G.1 G.2.1 d_Mo_isClassName_8 rfl (lv_at hl 1 rfl) ?_
    refine lv_aload_n G.1 G.2.1 d_Mo_isClassName_9 rfl (lv_at hl 0 rfl) ?_
    refine ugf (v := .int (sV σ a0 20)) G hP h_a0 iMo rfl 20 (by decide) rfl q3084 rfl rfl d_Mo_isClassName_10 ?_
    refine lv_icmp_eq (tgt := 60) G.1 G.2.1 d_Mo_isClassName_13 (by decide) (fun c13 => ?_) (fun c13 => ?_)
    · skip
      have h := h.1 c13
      exact J_60 σ H locs h hP hD hS ls (lv_sub hl [] rfl)
    · skip
      have h := h.2 c13
      refine lv_iload_n G.1 G.2.1 d_Mo_isClassName_16 rfl (lv_at hl 1 rfl) ?_
      refine lv_aload_n G.1 G.2.1 d_Mo_isClassName_17 rfl (lv_at hl 0 rfl) ?_
      refine ugf (v := .int (sV σ a0 21)) G hP h_a0 iMo rfl 21 (by decide) rfl q3085 rfl rfl d_Mo_isClassName_18 ?_
      refine W.eq (g2 := F0 m 21 ls [.int (sV σ a0 21), .int v1]) rfl ?_
      refine lv_icmp_eq (tgt := 60) G.1 G.2.1 d_Mo_isClassName_21 (by decide) (fun c21 => ?_) (fun c21 => ?_)
      · skip
        have h := h.1 c21
        exact J_60 σ H locs h hP hD hS ls (lv_sub hl [] rfl)
      · skip
        have h := h.2 c21
        refine lv_iload_n G.1 G.2.1 d_Mo_isClassName_24 rfl (lv_at hl 1 rfl) ?_
        refine lv_aload_n G.1 G.2.1 d_Mo_isClassName_25 rfl (lv_at hl 0 rfl) ?_
        refine ugf (v := .int (sV σ a0 28)) G hP h_a0 iMo rfl 28 (by decide) rfl q3092 rfl rfl d_Mo_isClassName_26 ?_
        refine lv_icmp_eq (tgt := 60) G.1 G.2.1 d_Mo_isClassName_29 (by decide) (fun c29 => ?_) (fun c29 => ?_)
        · skip
          have h := h.1 c29
          exact J_60 σ H locs h hP hD hS ls (lv_sub hl [] rfl)
        · skip
          have h := h.2 c29
          refine lv_iload_n G.1 G.2.1 d_Mo_isClassName_32 rfl (lv_at hl 1 rfl) ?_
          refine lv_aload_n G.1 G.2.1 d_Mo_isClassName_33 rfl (lv_at hl 0 rfl) ?_
          refine ugf (v := .int (sV σ a0 22)) G hP h_a0 iMo rfl 22 (by decide) rfl q3086 rfl rfl d_Mo_isClassName_34 ?_
          refine lv_icmp_eq (tgt := 60) G.1 G.2.1 d_Mo_isClassName_37 (by decide) (fun c37 => ?_) (fun c37 => ?_)
          · skip
            have h := h.1 c37
            exact J_60 σ H locs h hP hD hS ls (lv_sub hl [] rfl)
          · skip
            have h := h.2 c37
            refine lv_iload_n G.1 G.2.1 d_Mo_isClassName_40 rfl (lv_at hl 1 rfl) ?_
            refine lv_aload_n G.1 G.2.1 d_Mo_isClassName_41 rfl (lv_at hl 0 rfl) ?_
            refine ugf (v := .int (sV σ a0 23)) G hP h_a0 iMo rfl 23 (by decide) rfl q3087 rfl rfl d_Mo_isClassName_42 ?_
            refine W.eq (g2 := F0 m 45 ls [.int (sV σ a0 23), .int v1]) rfl ?_
            refine lv_icmp_eq (tgt := 60) G.1 G.2.1 d_Mo_isClassName_45 (by decide) (fun c45 => ?_) (fun c45 => ?_)
            · skip
              have h := h.1 c45
              exact J_60 σ H locs h hP hD hS ls (lv_sub hl [] rfl)
            · skip
              have h := h.2 c45
              refine lv_iload_n G.1 G.2.1 d_Mo_isClassName_48 rfl (lv_at hl 1 rfl) ?_
              refine lv_aload_n G.1 G.2.1 d_Mo_isClassName_49 rfl (lv_at hl 0 rfl) ?_
              refine ugf (v := .int (sV σ a0 24)) G hP h_a0 iMo rfl 24 (by decide) rfl q3088 rfl rfl d_Mo_isClassName_50 ?_
              refine lv_icmp_eq (tgt := 60) G.1 G.2.1 d_Mo_isClassName_53 (by decide) (fun c53 => ?_) (fun c53 => ?_)
              · skip
                have h := h.1 c53
                exact J_60 σ H locs h hP hD hS ls (lv_sub hl [] rfl)
              · skip
                have h := h.2 c53
                refine lv_iconst (v := 1) G.1 G.2.1 d_Mo_isClassName_56 (by decide) ?_
                refine lv_goto (tgt := 61) G.1 G.2.1 d_Mo_isClassName_57 (by decide) ?_
                exact J_61 σ 1 H locs h hP hD hS ls (lv_sub hl [] rfl)
def y_Mo_classOf : MethodName := ⟨"ClassWorksModel", "classOf", "(I)I"⟩
abbrev b_Mo_classOf : ByteArray := prog_14_method_17_code
theorem q3109 : Cond.fieldLink "ClassWorksModel" 522 "ClassWorksModel" "w" "LClassWorksModel$World;" ∈ lw_ok := lw_okmem (List.mem_of_getElem? (i := 3109) (by decide +kernel)) rfl
theorem d_Mo_classOf_0 : decode b_Mo_classOf 0 = .ok (.iconst 0, 1) := by decide +kernel
theorem d_Mo_classOf_1 : decode b_Mo_classOf 1 = .ok (.istore_n 2, 1) := by decide +kernel
theorem d_Mo_classOf_2 : decode b_Mo_classOf 2 = .ok (.iload_n 2, 1) := by decide +kernel
theorem d_Mo_classOf_3 : decode b_Mo_classOf 3 = .ok (.aload_n 0, 1) := by decide +kernel
theorem d_Mo_classOf_4 : decode b_Mo_classOf 4 = .ok (.getfield 522, 3) := by decide +kernel
theorem d_Mo_classOf_7 : decode b_Mo_classOf 7 = .ok (.getfield 420, 3) := by decide +kernel
theorem d_Mo_classOf_10 : decode b_Mo_classOf 10 = .ok (.if_icmp .ge 24, 3) := by decide +kernel
theorem d_Mo_classOf_13 : decode b_Mo_classOf 13 = .ok (.aload_n 0, 1) := by decide +kernel
theorem d_Mo_classOf_14 : decode b_Mo_classOf 14 = .ok (.getfield 522, 3) := by decide +kernel
theorem d_Mo_classOf_17 : decode b_Mo_classOf 17 = .ok (.getfield 423, 3) := by decide +kernel
theorem d_Mo_classOf_20 : decode b_Mo_classOf 20 = .ok (.iload_n 2, 1) := by decide +kernel
theorem d_Mo_classOf_21 : decode b_Mo_classOf 21 = .ok (.iaload, 1) := by decide +kernel
theorem d_Mo_classOf_22 : decode b_Mo_classOf 22 = .ok (.iload_n 1, 1) := by decide +kernel
theorem d_Mo_classOf_23 : decode b_Mo_classOf 23 = .ok (.if_icmp .ne 5, 3) := by decide +kernel
theorem d_Mo_classOf_26 : decode b_Mo_classOf 26 = .ok (.iload_n 2, 1) := by decide +kernel
theorem d_Mo_classOf_27 : decode b_Mo_classOf 27 = .ok (.ireturn, 1) := by decide +kernel
theorem d_Mo_classOf_28 : decode b_Mo_classOf 28 = .ok (.iinc 2 1, 3) := by decide +kernel
theorem d_Mo_classOf_31 : decode b_Mo_classOf 31 = .ok (.goto (-29), 3) := by decide +kernel
theorem d_Mo_classOf_34 : decode b_Mo_classOf 34 = .ok (.bipush (-2), 2) := by decide +kernel
theorem d_Mo_classOf_36 : decode b_Mo_classOf 36 = .ok (.ireturn, 1) := by decide +kernel
abbrev ru_Mo_classOf : Room := { frames := 0, cells := 0, slots := 0, locals := 0 }
def wb_Mo_classOf_2 (y : Ly) (Post : St → Int32 → Prop) (K_2 : St → Int32 → Int32 → Prop) (a0 : Nat) (s_h2 : St) (x1h2 : Int32) (x2h2 : Int32) : Prop := ∃ b_1 : Nat, sO s_h2 a0 45 = some b_1 ∧ cl b_1 = 13 ∧ (((sV s_h2 b_1 2) ≤ x2h2 → Post s_h2 (-2)) ∧ (¬ ((sV s_h2 b_1 2) ≤ x2h2) → ∃ b_4 : Nat, sO s_h2 a0 45 = some b_4 ∧ cl b_4 = 13 ∧ xA y s_h2 b_4 3 x2h2 (fun x_7 : Int32 => ((¬ x_7 = x1h2 → K_2 s_h2 x1h2 (x2h2 + 1)) ∧ (x_7 = x1h2 → Post s_h2 x2h2)))))
def wl_Mo_classOf_2 (y : Ly) (Post : St → Int32 → Prop) (a0 : Nat) (s_h2 : St) (x1h2 : Int32) (x2h2 : Int32) : Prop := ∃ (I : St → Int32 → Int32 → Prop) (μ : St → Int32 → Int32 → Nat), I s_h2 x1h2 x2h2 ∧ ∀ (u : St) (t0 : Int32) (t1 : Int32), I u t0 t1 → wb_Mo_classOf_2 y Post (fun z t0q t1q => I z t0q t1q ∧ μ z t0q t1q < μ u t0 t1) a0 u t0 t1
def wu_Mo_classOf (y : Ly) (Post : St → Int32 → Prop) (σ : St) (a0 : Nat) (v1 : Int32) : Prop := wl_Mo_classOf_2 y Post a0 σ v1 0
set_option maxHeartbeats 4000000 in
set_option maxRecDepth 100000 in
theorem cu_Mo_classOf (l : Launch) (D : va_G) (g : Nat → ClassId) (ad : Nat → Nat) (y : Ly) (Post : St → Int32 → Prop) (σ : St) (a0 : Nat) (v1 : Int32) (sz : Nat) (h_a0 : cl a0 = 14) (h : wu_Mo_classOf y Post σ a0 v1) : Met l y_Mo_classOf (mw y_Mo_classOf b_Mo_classOf 3 (some .int)) ru_Mo_classOf (PC g D [] [.ref (ad a0), .int v1] sz (ws g ad y σ)) (va_Qi (fun (r : Int32) (u : St) => Post u r) (QW D (va_A (ws g ad y σ) sz) (fun u => ws g ad y u)) (va_A (ws g ad y σ) sz)) 0 0 (va_A (ws g ad y σ) sz) := by
  refine ofI (by decide +kernel) (Nat.le_of_ble_eq_true rfl) ?_
  intro p e s m args below meth c A Q ls H locs G hsz hP hD hS hl hret
  subst hsz
  have hl : lv_has ls 3 [(0, .ref (ad a0)), (1, .int v1)] := hl
  unfold wu_Mo_classOf at h
  refine lv_iconst (v := 0) G.1 G.2.1 d_Mo_classOf_0 (by decide) ?_
  refine lv_istore_n (lv' := [(2, .int 0), (0, .ref (ad a0)), (1, .int v1)]) G.1 G.2.1 d_Mo_classOf_1 rfl hl (by decide) rfl (fun ls hl => ?_)
  unfold wl_Mo_classOf_2 at h
  obtain ⟨I_2, μ_2, hI_2, hB_2⟩ := h
  have L_2 : ∀ (n_2 : Nat) (s_h2 : St) (x1h2 : Int32) (x2h2 : Int32), μ_2 s_h2 x1h2 x2h2 < n_2 → I_2 s_h2 x1h2 x2h2 → ∀ (H : Heap) (locs : List Loc), va_P D CL (ws g ad y s_h2) H → va_D A (ws g ad y s_h2) → va_S A s.heap H locs → ∀ ls, lv_has ls 3 [(0, .ref (ad a0)), (1, .int x1h2), (2, .int x2h2)] → W p l e ru_Mo_classOf s m args below meth c H locs 0 0 Q (F0 m 2 ls []) := by
    intro n_2
    induction n_2 with
    | zero => intro s_h2 x1h2 x2h2 hμ; exact absurd hμ (Nat.not_lt_zero _)
    | succ n_2 ih_2 =>
      intro s_h2 x1h2 x2h2 hμ_2 hJ H locs hP hD hS ls hl
      obtain ⟨K_2, hK_2, h⟩ : ∃ K : St → Int32 → Int32 → Prop, (∀ z (t0 : Int32) (t1 : Int32), K z t0 t1 → I_2 z t0 t1 ∧ μ_2 z t0 t1 < μ_2 s_h2 x1h2 x2h2) ∧ wb_Mo_classOf_2 y Post K a0 s_h2 x1h2 x2h2 := ⟨_, fun _ _ _ h => h, hB_2 s_h2 x1h2 x2h2 hJ⟩
      unfold wb_Mo_classOf_2 at h
      refine lv_iload_n G.1 G.2.1 d_Mo_classOf_2 rfl (lv_at hl 2 rfl) ?_
      refine lv_aload_n G.1 G.2.1 d_Mo_classOf_3 rfl (lv_at hl 0 rfl) ?_
      obtain ⟨b_1, e_2, c_3, h⟩ := h
      refine ugf (v := .ref (ad b_1)) G hP h_a0 iMo rfl 45 (by decide) rfl q3109 rfl (by show va_rf ((sO s_h2 a0 45).map ad) = _; rw [e_2]; rfl) d_Mo_classOf_4 ?_
      refine ugfN (v := .int (sV s_h2 b_1 2)) G hP c_3 iMw rfl 2 (by decide) rfl q2708 rfl rfl d_Mo_classOf_7 ?_
      refine lv_icmp_ge (tgt := 34) G.1 G.2.1 d_Mo_classOf_10 (by decide) (fun c10 => ?_) (fun c10 => ?_)
      · skip
        have h := h.1 c10
        refine lv_bipush (v := (-2)) G.1 G.2.1 d_Mo_classOf_34 (by decide) ?_
        exact hret _ _ _ _ _ _ _ ls h hP hD hS (Nat.le_refl _) (Nat.le_refl _) d_Mo_classOf_36
      · skip
        have h := h.2 c10
        refine lv_aload_n G.1 G.2.1 d_Mo_classOf_13 rfl (lv_at hl 0 rfl) ?_
        obtain ⟨b_4, e_5, c_6, h⟩ := h
        refine ugf (v := .ref (ad b_4)) G hP h_a0 iMo rfl 45 (by decide) rfl q3109 rfl (by show va_rf ((sO s_h2 a0 45).map ad) = _; rw [e_5]; rfl) d_Mo_classOf_14 ?_
        refine ugfN (v := .ref (yP y b_4 3)) G hP c_6 iMw rfl 3 (by decide) rfl q2710 rfl rfl d_Mo_classOf_17 ?_
        refine lv_iload_n G.1 G.2.1 d_Mo_classOf_20 rfl (lv_at hl 2 rfl) ?_
        refine uiald G hP (kdp c_6 rfl) (typ c_6 rfl) h d_Mo_classOf_21 (fun x_7 h => ?_)
        refine lv_iload_n G.1 G.2.1 d_Mo_classOf_22 rfl (lv_at hl 1 rfl) ?_
        refine W.eq (g2 := F0 m 23 ls [.int x1h2, .int x_7]) rfl ?_
        refine lv_icmp_ne (tgt := 28) G.1 G.2.1 d_Mo_classOf_23 (by decide) (fun c23 => ?_) (fun c23 => ?_)
        · skip
          have h := h.1 c23
          refine lv_iinc (v := x2h2 + 1) (lv' := [(2, .int (x2h2 + 1)), (0, .ref (ad a0)), (1, .int x1h2)]) G.1 G.2.1 d_Mo_classOf_28 hl (k := 2) rfl rfl (by decide) rfl (fun ls hl => ?_)
          refine lv_goto (tgt := 2) G.1 G.2.1 d_Mo_classOf_31 (by decide) ?_
          have h := hK_2 s_h2 x1h2 (x2h2 + 1) h
          exact ih_2 s_h2 x1h2 (x2h2 + 1) (Nat.lt_of_lt_of_le h.2 (Nat.le_of_lt_succ hμ_2)) h.1 H locs hP hD hS ls (lv_sub hl [1, 2, 0] rfl)
        · skip
          have h := h.2 c23
          refine lv_iload_n G.1 G.2.1 d_Mo_classOf_26 rfl (lv_at hl 2 rfl) ?_
          exact hret _ _ _ _ _ _ _ ls h hP hD hS (Nat.le_refl _) (Nat.le_refl _) d_Mo_classOf_27
  exact L_2 _ σ v1 0 (Nat.lt_succ_self _) hI_2 H locs hP hD hS ls (lv_sub hl [1, 2, 0] rfl)
def y_Mo_asks : MethodName := ⟨"ClassWorksModel", "asks", "(IZ)V"⟩
abbrev b_Mo_asks : ByteArray := prog_14_method_21_code
theorem q3115 : Cond.fieldLink "ClassWorksModel" 532 "ClassWorksModel" "least" "I" ∈ lw_ok := lw_okmem (List.mem_of_getElem? (i := 3115) (by decide +kernel)) rfl
theorem d_Mo_asks_0 : decode b_Mo_asks 0 = .ok (.iload_n 2, 1) := by decide +kernel
theorem d_Mo_asks_1 : decode b_Mo_asks 1 = .ok (.ifCond .eq 16, 3) := by decide +kernel
theorem d_Mo_asks_4 : decode b_Mo_asks 4 = .ok (.iload_n 1, 1) := by decide +kernel
theorem d_Mo_asks_5 : decode b_Mo_asks 5 = .ok (.aload_n 0, 1) := by decide +kernel
theorem d_Mo_asks_6 : decode b_Mo_asks 6 = .ok (.getfield 532, 3) := by decide +kernel
theorem d_Mo_asks_9 : decode b_Mo_asks 9 = .ok (.if_icmp .ge 8, 3) := by decide +kernel
theorem d_Mo_asks_12 : decode b_Mo_asks 12 = .ok (.aload_n 0, 1) := by decide +kernel
theorem d_Mo_asks_13 : decode b_Mo_asks 13 = .ok (.iload_n 1, 1) := by decide +kernel
theorem d_Mo_asks_14 : decode b_Mo_asks 14 = .ok (.putfield 532, 3) := by decide +kernel
theorem d_Mo_asks_17 : decode b_Mo_asks 17 = .ok (.return_, 1) := by decide +kernel
abbrev ru_Mo_asks : Room := { frames := 0, cells := 0, slots := 0, locals := 0 }
def wj_Mo_asks_17 (y : Ly) (Post : St → Prop) (a0 : Nat) (s_j17 : St) : Prop := Post s_j17
def wu_Mo_asks (y : Ly) (Post : St → Prop) (σ : St) (a0 : Nat) (v1 : Int32) (v2 : Int32) : Prop := ((v2 = 0 → wj_Mo_asks_17 y Post a0 σ) ∧ (¬ (v2 = 0) → (((sV σ a0 51) ≤ v1 → wj_Mo_asks_17 y Post a0 σ) ∧ (¬ ((sV σ a0 51) ≤ v1) → xP (uV σ a0 51 v1) (fun s_1 : St => wj_Mo_asks_17 y Post a0 s_1)))))
set_option maxHeartbeats 4000000 in
set_option maxRecDepth 100000 in
theorem cu_Mo_asks (l : Launch) (D : va_G) (g : Nat → ClassId) (ad : Nat → Nat) (y : Ly) (Post : St → Prop) (σ : St) (a0 : Nat) (v1 : Int32) (v2 : Int32) (sz : Nat) (h_a0 : cl a0 = 14) (h : wu_Mo_asks y Post σ a0 v1 v2) : Met l y_Mo_asks (mw y_Mo_asks b_Mo_asks 3 (none)) ru_Mo_asks (PC g D [] [.ref (ad a0), .int v1, .int v2] sz (ws g ad y σ)) (va_Qv (fun u : St => Post u) (QW D (va_A (ws g ad y σ) sz) (fun u => ws g ad y u)) (va_A (ws g ad y σ) sz)) 0 0 (va_A (ws g ad y σ) sz) := by
  refine ofV (by decide +kernel) (Nat.le_of_ble_eq_true rfl) ?_
  intro p e s m args below meth c A Q ls H locs G hsz hP hD hS hl hret
  subst hsz
  have hl : lv_has ls 3 [(0, .ref (ad a0)), (1, .int v1), (2, .int v2)] := hl
  unfold wu_Mo_asks at h
  refine lv_iload_n G.1 G.2.1 d_Mo_asks_0 rfl (lv_at hl 2 rfl) ?_
  have J_17 : ∀ (s_j17 : St) (H : Heap) (locs : List Loc), wj_Mo_asks_17 y Post a0 s_j17 → va_P D CL (ws g ad y s_j17) H → va_D A (ws g ad y s_j17) → va_S A s.heap H locs → ∀ ls, lv_has ls 3 [] → W p l e ru_Mo_asks s m args below meth c H locs 0 0 Q (F0 m 17 ls []) := by
    intro s_j17 H locs h hP hD hS ls hl
    unfold wj_Mo_asks_17 at h
    exact hret _ _ _ _ _ _ ls h hP hD hS (Nat.le_refl _) (Nat.le_refl _) d_Mo_asks_17
  refine lv_if_eq (tgt := 17) G.1 G.2.1 d_Mo_asks_1 (by decide) (fun c1 => ?_) (fun c1 => ?_)
  · skip
    have h := h.1 c1
    exact J_17 σ H locs h hP hD hS ls (lv_sub hl [] rfl)
  · skip
    have h := h.2 c1
    refine lv_iload_n G.1 G.2.1 d_Mo_asks_4 rfl (lv_at hl 1 rfl) ?_
    refine lv_aload_n G.1 G.2.1 d_Mo_asks_5 rfl (lv_at hl 0 rfl) ?_
    refine ugf (v := .int (sV σ a0 51)) G hP h_a0 iMo rfl 51 (by decide) rfl q3115 rfl rfl d_Mo_asks_6 ?_
    refine lv_icmp_ge (tgt := 17) G.1 G.2.1 d_Mo_asks_9 (by decide) (fun c9 => ?_) (fun c9 => ?_)
    · skip
      have h := h.1 c9
      exact J_17 σ H locs h hP hD hS ls (lv_sub hl [] rfl)
    · skip
      have h := h.2 c9
      refine lv_aload_n G.1 G.2.1 d_Mo_asks_12 rfl (lv_at hl 0 rfl) ?_
      refine lv_iload_n G.1 G.2.1 d_Mo_asks_13 rfl (lv_at hl 1 rfl) ?_
      refine upf G hP hD hS h 51 putV h_a0 iMo tMo tMo_ok nMo rfl (by decide) rfl q3115 rfl rfl fV rfl rfl d_Mo_asks_14 (fun s_1 H locs h hP hD hS => ?_)
      exact J_17 s_1 H locs h hP hD hS ls (lv_sub hl [] rfl)
def y_Mo_isOff : MethodName := ⟨"ClassWorksModel", "isOff", "(I)Z"⟩
abbrev b_Mo_isOff : ByteArray := prog_14_method_18_code
theorem d_Mo_isOff_0 : decode b_Mo_isOff 0 = .ok (.aload_n 0, 1) := by decide +kernel
theorem d_Mo_isOff_1 : decode b_Mo_isOff 1 = .ok (.getfield 522, 3) := by decide +kernel
theorem d_Mo_isOff_4 : decode b_Mo_isOff 4 = .ok (.getfield 417, 3) := by decide +kernel
theorem d_Mo_isOff_7 : decode b_Mo_isOff 7 = .ok (.iload_n 1, 1) := by decide +kernel
theorem d_Mo_isOff_8 : decode b_Mo_isOff 8 = .ok (.ishr, 1) := by decide +kernel
theorem d_Mo_isOff_9 : decode b_Mo_isOff 9 = .ok (.iconst 1, 1) := by decide +kernel
theorem d_Mo_isOff_10 : decode b_Mo_isOff 10 = .ok (.iand, 1) := by decide +kernel
theorem d_Mo_isOff_11 : decode b_Mo_isOff 11 = .ok (.iconst 1, 1) := by decide +kernel
theorem d_Mo_isOff_12 : decode b_Mo_isOff 12 = .ok (.if_icmp .ne 7, 3) := by decide +kernel
theorem d_Mo_isOff_15 : decode b_Mo_isOff 15 = .ok (.iconst 1, 1) := by decide +kernel
theorem d_Mo_isOff_16 : decode b_Mo_isOff 16 = .ok (.goto 4, 3) := by decide +kernel
theorem d_Mo_isOff_19 : decode b_Mo_isOff 19 = .ok (.iconst 0, 1) := by decide +kernel
theorem d_Mo_isOff_20 : decode b_Mo_isOff 20 = .ok (.ireturn, 1) := by decide +kernel
abbrev ru_Mo_isOff : Room := { frames := 0, cells := 0, slots := 0, locals := 0 }
def wj_Mo_isOff_20 (y : Ly) (Post : St → Int32 → Prop) (a0 : Nat) (s_j20 : St) (z0j20 : Int32) : Prop := (nb z0j20 ∧ Post s_j20 z0j20)
def wu_Mo_isOff (y : Ly) (Post : St → Int32 → Prop) (σ : St) (a0 : Nat) (v1 : Int32) : Prop := ∃ b_1 : Nat, sO σ a0 45 = some b_1 ∧ cl b_1 = 13 ∧ ((¬ (((sV σ b_1 1) >>> (v1 &&& 31)) &&& 1) = 1 → wj_Mo_isOff_20 y Post a0 σ 0) ∧ ((((sV σ b_1 1) >>> (v1 &&& 31)) &&& 1) = 1 → wj_Mo_isOff_20 y Post a0 σ 1))
set_option maxHeartbeats 4000000 in
set_option maxRecDepth 100000 in
theorem cu_Mo_isOff (l : Launch) (D : va_G) (g : Nat → ClassId) (ad : Nat → Nat) (y : Ly) (Post : St → Int32 → Prop) (σ : St) (a0 : Nat) (v1 : Int32) (sz : Nat) (h_a0 : cl a0 = 14) (h : wu_Mo_isOff y Post σ a0 v1) : Met l y_Mo_isOff (mw y_Mo_isOff b_Mo_isOff 2 (some (.boolean))) ru_Mo_isOff (PC g D [] [.ref (ad a0), .int v1] sz (ws g ad y σ)) (va_Qi (fun (r : Int32) (u : St) => Post u r) (QW D (va_A (ws g ad y σ) sz) (fun u => ws g ad y u)) (va_A (ws g ad y σ) sz)) 0 0 (va_A (ws g ad y σ) sz) := by
  refine ofZ (by decide +kernel) (Nat.le_of_ble_eq_true rfl) ?_
  intro p e s m args below meth c A Q ls H locs G hsz hP hD hS hl hret
  subst hsz
  have hl : lv_has ls 2 [(0, .ref (ad a0)), (1, .int v1)] := hl
  unfold wu_Mo_isOff at h
  refine lv_aload_n G.1 G.2.1 d_Mo_isOff_0 rfl (lv_at hl 0 rfl) ?_
  obtain ⟨b_1, e_2, c_3, h⟩ := h
  refine ugf (v := .ref (ad b_1)) G hP h_a0 iMo rfl 45 (by decide) rfl q3109 rfl (by show va_rf ((sO σ a0 45).map ad) = _; rw [e_2]; rfl) d_Mo_isOff_1 ?_
  refine ugfN (v := .int (sV σ b_1 1)) G hP c_3 iMw rfl 1 (by decide) rfl q2707 rfl rfl d_Mo_isOff_4 ?_
  refine lv_iload_n G.1 G.2.1 d_Mo_isOff_7 rfl (lv_at hl 1 rfl) ?_
  refine lv_ishr G.1 G.2.1 d_Mo_isOff_8 ?_
  refine lv_iconst (v := 1) G.1 G.2.1 d_Mo_isOff_9 (by decide) ?_
  refine lv_iand G.1 G.2.1 d_Mo_isOff_10 ?_
  refine lv_iconst (v := 1) G.1 G.2.1 d_Mo_isOff_11 (by decide) ?_
  have J_20 : ∀ (s_j20 : St) (z0j20 : Int32) (H : Heap) (locs : List Loc), wj_Mo_isOff_20 y Post a0 s_j20 z0j20 → va_P D CL (ws g ad y s_j20) H → va_D A (ws g ad y s_j20) → va_S A s.heap H locs → ∀ ls, lv_has ls 2 [] → W p l e ru_Mo_isOff s m args below meth c H locs 0 0 Q (F0 m 20 ls [.int z0j20]) := by
    intro s_j20 z0j20 H locs h hP hD hS ls hl
    unfold wj_Mo_isOff_20 at h
    exact hret _ _ _ _ _ _ _ ls (nb_n h.1) h.2 hP hD hS (Nat.le_refl _) (Nat.le_refl _) d_Mo_isOff_20
  refine lv_icmp_ne (tgt := 19) G.1 G.2.1 d_Mo_isOff_12 (by decide) (fun c12 => ?_) (fun c12 => ?_)
  · skip
    have h := h.1 c12
    refine lv_iconst (v := 0) G.1 G.2.1 d_Mo_isOff_19 (by decide) ?_
    exact J_20 σ 0 H locs h hP hD hS ls (lv_sub hl [] rfl)
  · skip
    have h := h.2 c12
    refine lv_iconst (v := 1) G.1 G.2.1 d_Mo_isOff_15 (by decide) ?_
    refine lv_goto (tgt := 20) G.1 G.2.1 d_Mo_isOff_16 (by decide) ?_
    exact J_20 σ 1 H locs h hP hD hS ls (lv_sub hl [] rfl)
def y_Mo_argumentsOf : MethodName := ⟨"ClassWorksModel", "argumentsOf", "(I)I"⟩
abbrev b_Mo_argumentsOf : ByteArray := prog_14_method_38_code
theorem d_Mo_argumentsOf_0 : decode b_Mo_argumentsOf 0 = .ok (.aload_n 0, 1) := by decide +kernel
theorem d_Mo_argumentsOf_1 : decode b_Mo_argumentsOf 1 = .ok (.getfield 80, 3) := by decide +kernel
theorem d_Mo_argumentsOf_4 : decode b_Mo_argumentsOf 4 = .ok (.aload_n 0, 1) := by decide +kernel
theorem d_Mo_argumentsOf_5 : decode b_Mo_argumentsOf 5 = .ok (.getfield 522, 3) := by decide +kernel
theorem d_Mo_argumentsOf_8 : decode b_Mo_argumentsOf 8 = .ok (.getfield 450, 3) := by decide +kernel
theorem d_Mo_argumentsOf_11 : decode b_Mo_argumentsOf 11 = .ok (.iload_n 1, 1) := by decide +kernel
theorem d_Mo_argumentsOf_12 : decode b_Mo_argumentsOf 12 = .ok (.iaload, 1) := by decide +kernel
theorem d_Mo_argumentsOf_13 : decode b_Mo_argumentsOf 13 = .ok (.iaload, 1) := by decide +kernel
theorem d_Mo_argumentsOf_14 : decode b_Mo_argumentsOf 14 = .ok (.aload_n 0, 1) := by decide +kernel
theorem d_Mo_argumentsOf_15 : decode b_Mo_argumentsOf 15 = .ok (.getfield 522, 3) := by decide +kernel
theorem d_Mo_argumentsOf_18 : decode b_Mo_argumentsOf 18 = .ok (.getfield 453, 3) := by decide +kernel
theorem d_Mo_argumentsOf_21 : decode b_Mo_argumentsOf 21 = .ok (.iload_n 1, 1) := by decide +kernel
theorem d_Mo_argumentsOf_22 : decode b_Mo_argumentsOf 22 = .ok (.iaload, 1) := by decide +kernel
theorem d_Mo_argumentsOf_23 : decode b_Mo_argumentsOf 23 = .ok (.iconst 1, 1) := by decide +kernel
theorem d_Mo_argumentsOf_24 : decode b_Mo_argumentsOf 24 = .ok (.iand, 1) := by decide +kernel
theorem d_Mo_argumentsOf_25 : decode b_Mo_argumentsOf 25 = .ok (.ifCond .eq 7, 3) := by decide +kernel
theorem d_Mo_argumentsOf_28 : decode b_Mo_argumentsOf 28 = .ok (.iconst 0, 1) := by decide +kernel
theorem d_Mo_argumentsOf_29 : decode b_Mo_argumentsOf 29 = .ok (.goto 4, 3) := by decide +kernel
theorem d_Mo_argumentsOf_32 : decode b_Mo_argumentsOf 32 = .ok (.iconst 1, 1) := by decide +kernel
theorem d_Mo_argumentsOf_33 : decode b_Mo_argumentsOf 33 = .ok (.iadd, 1) := by decide +kernel
theorem d_Mo_argumentsOf_34 : decode b_Mo_argumentsOf 34 = .ok (.ireturn, 1) := by decide +kernel
abbrev ru_Mo_argumentsOf : Room := { frames := 0, cells := 0, slots := 0, locals := 0 }
def wj_Mo_argumentsOf_33 (y : Ly) (Post : St → Int32 → Prop) (a0 : Nat) (s_j33 : St) (z0j33 : Int32) (z1j33 : Int32) : Prop := Post s_j33 (z0j33 + z1j33)
def wu_Mo_argumentsOf (y : Ly) (Post : St → Int32 → Prop) (σ : St) (a0 : Nat) (v1 : Int32) : Prop := ∃ b_1 : Nat, sO σ a0 45 = some b_1 ∧ cl b_1 = 13 ∧ xA y σ b_1 19 v1 (fun x_4 : Int32 => xA y σ a0 31 x_4 (fun x_5 : Int32 => ∃ b_6 : Nat, sO σ a0 45 = some b_6 ∧ cl b_6 = 13 ∧ xA y σ b_6 20 v1 (fun x_9 : Int32 => (((x_9 &&& 1) = 0 → wj_Mo_argumentsOf_33 y Post a0 σ x_5 1) ∧ (¬ ((x_9 &&& 1) = 0) → wj_Mo_argumentsOf_33 y Post a0 σ x_5 0)))))
set_option maxHeartbeats 4000000 in
set_option maxRecDepth 100000 in
theorem cu_Mo_argumentsOf (l : Launch) (D : va_G) (g : Nat → ClassId) (ad : Nat → Nat) (y : Ly) (Post : St → Int32 → Prop) (σ : St) (a0 : Nat) (v1 : Int32) (sz : Nat) (h_a0 : cl a0 = 14) (h : wu_Mo_argumentsOf y Post σ a0 v1) : Met l y_Mo_argumentsOf (mw y_Mo_argumentsOf b_Mo_argumentsOf 2 (some .int)) ru_Mo_argumentsOf (PC g D [] [.ref (ad a0), .int v1] sz (ws g ad y σ)) (va_Qi (fun (r : Int32) (u : St) => Post u r) (QW D (va_A (ws g ad y σ) sz) (fun u => ws g ad y u)) (va_A (ws g ad y σ) sz)) 0 0 (va_A (ws g ad y σ) sz) := by
  refine ofI (by decide +kernel) (Nat.le_of_ble_eq_true rfl) ?_
  intro p e s m args below meth c A Q ls H locs G hsz hP hD hS hl hret
  subst hsz
  have hl : lv_has ls 2 [(0, .ref (ad a0)), (1, .int v1)] := hl
  unfold wu_Mo_argumentsOf at h
  refine lv_aload_n G.1 G.2.1 d_Mo_argumentsOf_0 rfl (lv_at hl 0 rfl) ?_
  refine ugf (v := .ref (yP y a0 31)) G hP h_a0 iMo rfl 31 (by decide) rfl q3095 rfl rfl d_Mo_argumentsOf_1 ?_
  refine lv_aload_n G.1 G.2.1 d_Mo_argumentsOf_4 rfl (lv_at hl 0 rfl) ?_
  obtain ⟨b_1, e_2, c_3, h⟩ := h
  refine ugf (v := .ref (ad b_1)) G hP h_a0 iMo rfl 45 (by decide) rfl q3109 rfl (by show va_rf ((sO σ a0 45).map ad) = _; rw [e_2]; rfl) d_Mo_argumentsOf_5 ?_
  refine ugfN (v := .ref (yP y b_1 19)) G hP c_3 iMw rfl 19 (by decide) rfl q2742 rfl rfl d_Mo_argumentsOf_8 ?_
  refine lv_iload_n G.1 G.2.1 d_Mo_argumentsOf_11 rfl (lv_at hl 1 rfl) ?_
  refine uiald G hP (kdp c_3 rfl) (typ c_3 rfl) h d_Mo_argumentsOf_12 (fun x_4 h => ?_)
  refine uiald G hP (kdp h_a0 rfl) (typ h_a0 rfl) h d_Mo_argumentsOf_13 (fun x_5 h => ?_)
  refine lv_aload_n G.1 G.2.1 d_Mo_argumentsOf_14 rfl (lv_at hl 0 rfl) ?_
  obtain ⟨b_6, e_7, c_8, h⟩ := h
  refine ugf (v := .ref (ad b_6)) G hP h_a0 iMo rfl 45 (by decide) rfl q3109 rfl (by show va_rf ((sO σ a0 45).map ad) = _; rw [e_7]; rfl) d_Mo_argumentsOf_15 ?_
  refine ugfN (v := .ref (yP y b_6 20)) G hP c_8 iMw rfl 20 (by decide) rfl q2744 rfl rfl d_Mo_argumentsOf_18 ?_
  refine W.eq (g2 := F0 m 21 ls [.ref (yP y b_6 20), .int x_5]) rfl ?_
  refine lv_iload_n G.1 G.2.1 d_Mo_argumentsOf_21 rfl (lv_at hl 1 rfl) ?_
  refine uiald G hP (kdp c_8 rfl) (typ c_8 rfl) h d_Mo_argumentsOf_22 (fun x_9 h => ?_)
  refine lv_iconst (v := 1) G.1 G.2.1 d_Mo_argumentsOf_23 (by decide) ?_
  refine lv_iand G.1 G.2.1 d_Mo_argumentsOf_24 ?_
  have J_33 : ∀ (s_j33 : St) (z0j33 : Int32) (z1j33 : Int32) (H : Heap) (locs : List Loc), wj_Mo_argumentsOf_33 y Post a0 s_j33 z0j33 z1j33 → va_P D CL (ws g ad y s_j33) H → va_D A (ws g ad y s_j33) → va_S A s.heap H locs → ∀ ls, lv_has ls 2 [] → W p l e ru_Mo_argumentsOf s m args below meth c H locs 0 0 Q (F0 m 33 ls [.int z1j33, .int z0j33]) := by
    intro s_j33 z0j33 z1j33 H locs h hP hD hS ls hl
    unfold wj_Mo_argumentsOf_33 at h
    refine lv_iadd G.1 G.2.1 d_Mo_argumentsOf_33 ?_
    exact hret _ _ _ _ _ _ _ ls h hP hD hS (Nat.le_refl _) (Nat.le_refl _) d_Mo_argumentsOf_34
  refine lv_if_eq (tgt := 32) G.1 G.2.1 d_Mo_argumentsOf_25 (by decide) (fun c25 => ?_) (fun c25 => ?_)
  · skip
    have h := h.1 c25
    refine lv_iconst (v := 1) G.1 G.2.1 d_Mo_argumentsOf_32 (by decide) ?_
    exact J_33 σ x_5 1 H locs h hP hD hS ls (lv_sub hl [] rfl)
  · skip
    have h := h.2 c25
    refine lv_iconst (v := 0) G.1 G.2.1 d_Mo_argumentsOf_28 (by decide) ?_
    refine lv_goto (tgt := 33) G.1 G.2.1 d_Mo_argumentsOf_29 (by decide) ?_
    exact J_33 σ x_5 0 H locs h hP hD hS ls (lv_sub hl [] rfl)
def y_Mo_place : MethodName := ⟨"ClassWorksModel", "place", "()I"⟩
abbrev b_Mo_place : ByteArray := prog_14_method_132_code
theorem q3150 : Cond.fieldLink "ClassWorksModel" 317 "ClassWorksModel" "refusedPlace" "I" ∈ lw_ok := lw_okmem (List.mem_of_getElem? (i := 3150) (by decide +kernel)) rfl
theorem d_Mo_place_0 : decode b_Mo_place 0 = .ok (.aload_n 0, 1) := by decide +kernel
theorem d_Mo_place_1 : decode b_Mo_place 1 = .ok (.getfield 317, 3) := by decide +kernel
theorem d_Mo_place_4 : decode b_Mo_place 4 = .ok (.ireturn, 1) := by decide +kernel
abbrev ru_Mo_place : Room := { frames := 0, cells := 0, slots := 0, locals := 0 }
def wu_Mo_place (y : Ly) (Post : St → Int32 → Prop) (σ : St) (a0 : Nat) : Prop := Post σ (sV σ a0 86)
set_option maxHeartbeats 4000000 in
set_option maxRecDepth 100000 in
theorem cu_Mo_place (l : Launch) (D : va_G) (g : Nat → ClassId) (ad : Nat → Nat) (y : Ly) (Post : St → Int32 → Prop) (σ : St) (a0 : Nat) (sz : Nat) (h_a0 : cl a0 = 14) (h : wu_Mo_place y Post σ a0) : Met l y_Mo_place (mw y_Mo_place b_Mo_place 1 (some .int)) ru_Mo_place (PC g D [] [.ref (ad a0)] sz (ws g ad y σ)) (va_Qi (fun (r : Int32) (u : St) => Post u r) (QW D (va_A (ws g ad y σ) sz) (fun u => ws g ad y u)) (va_A (ws g ad y σ) sz)) 0 0 (va_A (ws g ad y σ) sz) := by
  refine ofI (by decide +kernel) (Nat.le_of_ble_eq_true rfl) ?_
  intro p e s m args below meth c A Q ls H locs G hsz hP hD hS hl hret
  subst hsz
  have hl : lv_has ls 1 [(0, .ref (ad a0))] := hl
  unfold wu_Mo_place at h
  refine lv_aload_n G.1 G.2.1 d_Mo_place_0 rfl (lv_at hl 0 rfl) ?_
  refine ugf (v := .int (sV σ a0 86)) G hP h_a0 iMo rfl 86 (by decide) rfl q3150 rfl rfl d_Mo_place_1 ?_
  exact hret _ _ _ _ _ _ _ ls h hP hD hS (Nat.le_refl _) (Nat.le_refl _) d_Mo_place_4
def y_Mo_classes : MethodName := ⟨"ClassWorksModel", "classes", "(I)I"⟩
abbrev b_Mo_classes : ByteArray := prog_14_method_133_code
theorem d_Mo_classes_0 : decode b_Mo_classes 0 = .ok (.aload_n 0, 1) := by decide +kernel
theorem d_Mo_classes_1 : decode b_Mo_classes 1 = .ok (.iload_n 1, 1) := by decide +kernel
theorem d_Mo_classes_2 : decode b_Mo_classes 2 = .ok (.invokevirtual 1118, 3) := by decide +kernel
theorem d_Mo_classes_5 : decode b_Mo_classes 5 = .ok (.ifCond .eq 18, 3) := by decide +kernel
theorem d_Mo_classes_8 : decode b_Mo_classes 8 = .ok (.aload_n 0, 1) := by decide +kernel
theorem d_Mo_classes_9 : decode b_Mo_classes 9 = .ok (.getfield 263, 3) := by decide +kernel
theorem d_Mo_classes_12 : decode b_Mo_classes 12 = .ok (.iload_n 1, 1) := by decide +kernel
theorem d_Mo_classes_13 : decode b_Mo_classes 13 = .ok (.aaload, 1) := by decide +kernel
theorem d_Mo_classes_14 : decode b_Mo_classes 14 = .ok (.getfield 420, 3) := by decide +kernel
theorem d_Mo_classes_17 : decode b_Mo_classes 17 = .ok (.bipush 21, 2) := by decide +kernel
theorem d_Mo_classes_19 : decode b_Mo_classes 19 = .ok (.isub, 1) := by decide +kernel
theorem d_Mo_classes_20 : decode b_Mo_classes 20 = .ok (.goto 4, 3) := by decide +kernel
theorem d_Mo_classes_23 : decode b_Mo_classes 23 = .ok (.iconst (-1), 1) := by decide +kernel
theorem d_Mo_classes_24 : decode b_Mo_classes 24 = .ok (.ireturn, 1) := by decide +kernel
abbrev ru_Mo_classes : Room := { frames := 1, cells := 0, slots := 0, locals := 21 }
def wj_Mo_classes_24 (y : Ly) (Post : St → Int32 → Prop) (a0 : Nat) (s_j24 : St) (z0j24 : Int32) : Prop := Post s_j24 z0j24
def wu_Mo_classes (y : Ly) (Post : St → Int32 → Prop) (σ : St) (a0 : Nat) (v1 : Int32) : Prop := wu_Mo_isWorld y (fun (s_2 : St) (r_1 : Int32) => ((r_1 = 0 → wj_Mo_classes_24 y Post a0 s_2 (-1)) ∧ (¬ (r_1 = 0) → xQ y a0 44 v1 (fun b_3 : Nat => wj_Mo_classes_24 y Post a0 s_2 ((sV s_2 b_3 2) - 21))))) σ a0 v1
set_option maxHeartbeats 4000000 in
set_option maxRecDepth 100000 in
theorem cu_Mo_classes (l : Launch) (D : va_G) (g : Nat → ClassId) (ad : Nat → Nat) (y : Ly) (Post : St → Int32 → Prop) (σ : St) (a0 : Nat) (v1 : Int32) (sz : Nat) (h_a0 : cl a0 = 14) (h : wu_Mo_classes y Post σ a0 v1) : Met l y_Mo_classes (mw y_Mo_classes b_Mo_classes 2 (some .int)) ru_Mo_classes (PC g D [] [.ref (ad a0), .int v1] sz (ws g ad y σ)) (va_Qi (fun (r : Int32) (u : St) => Post u r) (QW D (va_A (ws g ad y σ) sz) (fun u => ws g ad y u)) (va_A (ws g ad y σ) sz)) 0 0 (va_A (ws g ad y σ) sz) := by
  refine ofI (by decide +kernel) (Nat.le_of_ble_eq_true rfl) ?_
  intro p e s m args below meth c A Q ls H locs G hsz hP hD hS hl hret
  subst hsz
  have hl : lv_has ls 2 [(0, .ref (ad a0)), (1, .int v1)] := hl
  unfold wu_Mo_classes at h
  refine lv_aload_n G.1 G.2.1 d_Mo_classes_0 rfl (lv_at hl 0 rfl) ?_
  refine lv_iload_n G.1 G.2.1 d_Mo_classes_1 rfl (lv_at hl 1 rfl) ?_
  refine ucVi (As := [.int v1]) (rest := []) G hP hD hS (cu_Mo_isWorld l D g ad y _ σ a0 v1 H.size h_a0 h) w9_Mo_isWorld q3482 ⟨Nat.le_of_ble_eq_true rfl, Nat.le_of_ble_eq_true rfl⟩ rfl rfl h_a0 (q := (RMo, TMo, 131)) rfl rfl hl.1 rfl (Nat.le_of_ble_eq_true rfl) rfl ⟨Nat.le_refl _, Nat.le_refl _⟩ d_Mo_classes_2 (fun r_1 s_2 H locs h hP hD hS => ?_)
  have J_24 : ∀ (s_j24 : St) (z0j24 : Int32) (H : Heap) (locs : List Loc), wj_Mo_classes_24 y Post a0 s_j24 z0j24 → va_P D CL (ws g ad y s_j24) H → va_D A (ws g ad y s_j24) → va_S A s.heap H locs → ∀ ls, lv_has ls 2 [] → W p l e ru_Mo_classes s m args below meth c H locs 0 0 Q (F0 m 24 ls [.int z0j24]) := by
    intro s_j24 z0j24 H locs h hP hD hS ls hl
    unfold wj_Mo_classes_24 at h
    exact hret _ _ _ _ _ _ _ ls h hP hD hS (Nat.le_refl _) (Nat.le_refl _) d_Mo_classes_24
  refine lv_if_eq (tgt := 23) G.1 G.2.1 d_Mo_classes_5 (by decide) (fun c5 => ?_) (fun c5 => ?_)
  · skip
    have h := h.1 c5
    refine lv_iconst (v := (-1)) G.1 G.2.1 d_Mo_classes_23 (by decide) ?_
    exact J_24 s_2 (-1) H locs h hP hD hS ls (lv_sub hl [] rfl)
  · skip
    have h := h.2 c5
    refine lv_aload_n G.1 G.2.1 d_Mo_classes_8 rfl (lv_at hl 0 rfl) ?_
    refine ugf (v := .ref (yP y a0 44)) G hP h_a0 iMo rfl 44 (by decide) rfl q3108 rfl rfl d_Mo_classes_9 ?_
    refine lv_iload_n G.1 G.2.1 d_Mo_classes_12 rfl (lv_at hl 1 rfl) ?_
    refine uqald G hP (kdp h_a0 rfl) (typ h_a0 rfl) rfl h d_Mo_classes_13 (fun b_3 n_4 h => ?_)
    refine ugfN (v := .int (sV s_2 b_3 2)) G hP (oa_14 h_a0 n_4) iMw rfl 2 (by decide) rfl q2708 rfl rfl d_Mo_classes_14 ?_
    refine lv_bipush (v := 21) G.1 G.2.1 d_Mo_classes_17 (by decide) ?_
    refine lv_isub G.1 G.2.1 d_Mo_classes_19 ?_
    refine W.eq (g2 := F0 m 20 ls [.int ((sV s_2 b_3 2) - 21)]) rfl ?_
    refine lv_goto (tgt := 24) G.1 G.2.1 d_Mo_classes_20 (by decide) ?_
    exact J_24 s_2 ((sV s_2 b_3 2) - 21) H locs h hP hD hS ls (lv_sub hl [] rfl)
def y_Mo_isClass : MethodName := ⟨"ClassWorksModel", "isClass", "(II)Z"⟩
abbrev b_Mo_isClass : ByteArray := prog_14_method_128_code
theorem d_Mo_isClass_0 : decode b_Mo_isClass 0 = .ok (.aload_n 0, 1) := by decide +kernel
theorem d_Mo_isClass_1 : decode b_Mo_isClass 1 = .ok (.iload_n 1, 1) := by decide +kernel
theorem d_Mo_isClass_2 : decode b_Mo_isClass 2 = .ok (.invokevirtual 1118, 3) := by decide +kernel
theorem d_Mo_isClass_5 : decode b_Mo_isClass 5 = .ok (.ifCond .eq 24, 3) := by decide +kernel
theorem d_Mo_isClass_8 : decode b_Mo_isClass 8 = .ok (.iload_n 2, 1) := by decide +kernel
theorem d_Mo_isClass_9 : decode b_Mo_isClass 9 = .ok (.ifCond .lt 20, 3) := by decide +kernel
theorem d_Mo_isClass_12 : decode b_Mo_isClass 12 = .ok (.iload_n 2, 1) := by decide +kernel
theorem d_Mo_isClass_13 : decode b_Mo_isClass 13 = .ok (.aload_n 0, 1) := by decide +kernel
theorem d_Mo_isClass_14 : decode b_Mo_isClass 14 = .ok (.getfield 263, 3) := by decide +kernel
theorem d_Mo_isClass_17 : decode b_Mo_isClass 17 = .ok (.iload_n 1, 1) := by decide +kernel
theorem d_Mo_isClass_18 : decode b_Mo_isClass 18 = .ok (.aaload, 1) := by decide +kernel
theorem d_Mo_isClass_19 : decode b_Mo_isClass 19 = .ok (.getfield 420, 3) := by decide +kernel
theorem d_Mo_isClass_22 : decode b_Mo_isClass 22 = .ok (.if_icmp .ge 7, 3) := by decide +kernel
theorem d_Mo_isClass_25 : decode b_Mo_isClass 25 = .ok (.iconst 1, 1) := by decide +kernel
theorem d_Mo_isClass_26 : decode b_Mo_isClass 26 = .ok (.goto 4, 3) := by decide +kernel
theorem d_Mo_isClass_29 : decode b_Mo_isClass 29 = .ok (.iconst 0, 1) := by decide +kernel
theorem d_Mo_isClass_30 : decode b_Mo_isClass 30 = .ok (.ireturn, 1) := by decide +kernel
abbrev ru_Mo_isClass : Room := { frames := 1, cells := 0, slots := 0, locals := 21 }
def wj_Mo_isClass_30 (y : Ly) (Post : St → Int32 → Prop) (a0 : Nat) (s_j30 : St) (z0j30 : Int32) : Prop := (nb z0j30 ∧ Post s_j30 z0j30)
def wj_Mo_isClass_29 (y : Ly) (Post : St → Int32 → Prop) (a0 : Nat) (s_j29 : St) : Prop := wj_Mo_isClass_30 y Post a0 s_j29 0
def wu_Mo_isClass (y : Ly) (Post : St → Int32 → Prop) (σ : St) (a0 : Nat) (v1 : Int32) (v2 : Int32) : Prop := wu_Mo_isWorld y (fun (s_2 : St) (r_1 : Int32) => ((r_1 = 0 → wj_Mo_isClass_29 y Post a0 s_2) ∧ (¬ (r_1 = 0) → ((v2 < 0 → wj_Mo_isClass_29 y Post a0 s_2) ∧ (¬ (v2 < 0) → xQ y a0 44 v1 (fun b_3 : Nat => (((sV s_2 b_3 2) ≤ v2 → wj_Mo_isClass_29 y Post a0 s_2) ∧ (¬ ((sV s_2 b_3 2) ≤ v2) → wj_Mo_isClass_30 y Post a0 s_2 1)))))))) σ a0 v1
set_option maxHeartbeats 4000000 in
set_option maxRecDepth 100000 in
theorem cu_Mo_isClass (l : Launch) (D : va_G) (g : Nat → ClassId) (ad : Nat → Nat) (y : Ly) (Post : St → Int32 → Prop) (σ : St) (a0 : Nat) (v1 : Int32) (v2 : Int32) (sz : Nat) (h_a0 : cl a0 = 14) (h : wu_Mo_isClass y Post σ a0 v1 v2) : Met l y_Mo_isClass (mw y_Mo_isClass b_Mo_isClass 3 (some (.boolean))) ru_Mo_isClass (PC g D [] [.ref (ad a0), .int v1, .int v2] sz (ws g ad y σ)) (va_Qi (fun (r : Int32) (u : St) => Post u r) (QW D (va_A (ws g ad y σ) sz) (fun u => ws g ad y u)) (va_A (ws g ad y σ) sz)) 0 0 (va_A (ws g ad y σ) sz) := by
  refine ofZ (by decide +kernel) (Nat.le_of_ble_eq_true rfl) ?_
  intro p e s m args below meth c A Q ls H locs G hsz hP hD hS hl hret
  subst hsz
  have hl : lv_has ls 3 [(0, .ref (ad a0)), (1, .int v1), (2, .int v2)] := hl
  unfold wu_Mo_isClass at h
  refine lv_aload_n G.1 G.2.1 d_Mo_isClass_0 rfl (lv_at hl 0 rfl) ?_
  refine lv_iload_n G.1 G.2.1 d_Mo_isClass_1 rfl (lv_at hl 1 rfl) ?_
  refine ucVi (As := [.int v1]) (rest := []) G hP hD hS (cu_Mo_isWorld l D g ad y _ σ a0 v1 H.size h_a0 h) w9_Mo_isWorld q3482 ⟨Nat.le_of_ble_eq_true rfl, Nat.le_of_ble_eq_true rfl⟩ rfl rfl h_a0 (q := (RMo, TMo, 131)) rfl rfl hl.1 rfl (Nat.le_of_ble_eq_true rfl) rfl ⟨Nat.le_refl _, Nat.le_refl _⟩ d_Mo_isClass_2 (fun r_1 s_2 H locs h hP hD hS => ?_)
  have J_30 : ∀ (s_j30 : St) (z0j30 : Int32) (H : Heap) (locs : List Loc), wj_Mo_isClass_30 y Post a0 s_j30 z0j30 → va_P D CL (ws g ad y s_j30) H → va_D A (ws g ad y s_j30) → va_S A s.heap H locs → ∀ ls, lv_has ls 3 [] → W p l e ru_Mo_isClass s m args below meth c H locs 0 0 Q (F0 m 30 ls [.int z0j30]) := by
    intro s_j30 z0j30 H locs h hP hD hS ls hl
    unfold wj_Mo_isClass_30 at h
    exact hret _ _ _ _ _ _ _ ls (nb_n h.1) h.2 hP hD hS (Nat.le_refl _) (Nat.le_refl _) d_Mo_isClass_30
  have J_29 : ∀ (s_j29 : St) (H : Heap) (locs : List Loc), wj_Mo_isClass_29 y Post a0 s_j29 → va_P D CL (ws g ad y s_j29) H → va_D A (ws g ad y s_j29) → va_S A s.heap H locs → ∀ ls, lv_has ls 3 [] → W p l e ru_Mo_isClass s m args below meth c H locs 0 0 Q (F0 m 29 ls []) := by
    intro s_j29 H locs h hP hD hS ls hl
    unfold wj_Mo_isClass_29 at h
    refine lv_iconst (v := 0) G.1 G.2.1 d_Mo_isClass_29 (by decide) ?_
    exact J_30 s_j29 0 H locs h hP hD hS ls (lv_sub hl [] rfl)
  refine lv_if_eq (tgt := 29) G.1 G.2.1 d_Mo_isClass_5 (by decide) (fun c5 => ?_) (fun c5 => ?_)
  · skip
    have h := h.1 c5
    exact J_29 s_2 H locs h hP hD hS ls (lv_sub hl [] rfl)
  · skip
    have h := h.2 c5
    refine lv_iload_n G.1 G.2.1 d_Mo_isClass_8 rfl (lv_at hl 2 rfl) ?_
    refine lv_if_lt (tgt := 29) G.1 G.2.1 d_Mo_isClass_9 (by decide) (fun c9 => ?_) (fun c9 => ?_)
    · skip
      have h := h.1 c9
      exact J_29 s_2 H locs h hP hD hS ls (lv_sub hl [] rfl)
    · skip
      have h := h.2 c9
      refine lv_iload_n G.1 G.2.1 d_Mo_isClass_12 rfl (lv_at hl 2 rfl) ?_
      refine lv_aload_n G.1 G.2.1 d_Mo_isClass_13 rfl (lv_at hl 0 rfl) ?_
      refine ugf (v := .ref (yP y a0 44)) G hP h_a0 iMo rfl 44 (by decide) rfl q3108 rfl rfl d_Mo_isClass_14 ?_
      refine lv_iload_n G.1 G.2.1 d_Mo_isClass_17 rfl (lv_at hl 1 rfl) ?_
      refine uqald G hP (kdp h_a0 rfl) (typ h_a0 rfl) rfl h d_Mo_isClass_18 (fun b_3 n_4 h => ?_)
      refine W.eq (g2 := F0 m 19 ls [.ref (ad b_3), .int v2]) rfl ?_
      refine ugfN (v := .int (sV s_2 b_3 2)) G hP (oa_14 h_a0 n_4) iMw rfl 2 (by decide) rfl q2708 rfl rfl d_Mo_isClass_19 ?_
      refine lv_icmp_ge (tgt := 29) G.1 G.2.1 d_Mo_isClass_22 (by decide) (fun c22 => ?_) (fun c22 => ?_)
      · skip
        have h := h.1 c22
        exact J_29 s_2 H locs h hP hD hS ls (lv_sub hl [] rfl)
      · skip
        have h := h.2 c22
        refine lv_iconst (v := 1) G.1 G.2.1 d_Mo_isClass_25 (by decide) ?_
        refine lv_goto (tgt := 30) G.1 G.2.1 d_Mo_isClass_26 (by decide) ?_
        exact J_30 s_2 1 H locs h hP hD hS ls (lv_sub hl [] rfl)
theorem q3661 : Cond.methodLink "ClassWorksModel" 1129 y_Mo_isClass ∈ lw_ok := lw_okmem (List.mem_of_getElem? (i := 3661) (by decide +kernel)) rfl
theorem q3664 : Cond.code y_Mo_isClass b_Mo_isClass 3 (some (.boolean)) ∈ lw_ok := lw_okmem (List.mem_of_getElem? (i := 3664) (by decide +kernel)) rfl
theorem q3663 : Cond.instanceMethod y_Mo_isClass ∈ lw_ok := lw_okmem (List.mem_of_getElem? (i := 3663) (by decide +kernel)) rfl
theorem q215 : Cond.selects y_Mo_isClass.cls y_Mo_isClass y_Mo_isClass ∈ lw_ok := lw_okmem (List.mem_of_getElem? (i := 215) (by decide +kernel)) rfl
theorem w9_Mo_isClass : CWv y_Mo_isClass b_Mo_isClass 3 (some (.boolean)) 2 ∧ Cond.instanceMethod y_Mo_isClass ∈ lw_ok ∧ Cond.selects y_Mo_isClass.cls y_Mo_isClass y_Mo_isClass ∈ lw_ok := ⟨⟨q3664, q348, by decide +kernel, by decide +kernel, by decide +kernel⟩, q3663, q215⟩
theorem q3571 : Cond.methodLink "ClassWorksModel" 601 y_Mo_classOf ∈ lw_ok := lw_okmem (List.mem_of_getElem? (i := 3571) (by decide +kernel)) rfl
theorem q3574 : Cond.code y_Mo_classOf b_Mo_classOf 3 (some .int) ∈ lw_ok := lw_okmem (List.mem_of_getElem? (i := 3574) (by decide +kernel)) rfl
theorem q3573 : Cond.instanceMethod y_Mo_classOf ∈ lw_ok := lw_okmem (List.mem_of_getElem? (i := 3573) (by decide +kernel)) rfl
theorem q196 : Cond.selects y_Mo_classOf.cls y_Mo_classOf y_Mo_classOf ∈ lw_ok := lw_okmem (List.mem_of_getElem? (i := 196) (by decide +kernel)) rfl
theorem w9_Mo_classOf : CWv y_Mo_classOf b_Mo_classOf 3 (some .int) 1 ∧ Cond.instanceMethod y_Mo_classOf ∈ lw_ok ∧ Cond.selects y_Mo_classOf.cls y_Mo_classOf y_Mo_classOf ∈ lw_ok := ⟨⟨q3574, q348, by decide +kernel, by decide +kernel, by decide +kernel⟩, q3573, q196⟩
def y_Mo_told : MethodName := ⟨"ClassWorksModel", "told", "(III)I"⟩
abbrev b_Mo_told : ByteArray := prog_14_method_134_code
theorem d_Mo_told_0 : decode b_Mo_told 0 = .ok (.aload_n 0, 1) := by decide +kernel
theorem d_Mo_told_1 : decode b_Mo_told 1 = .ok (.iload_n 1, 1) := by decide +kernel
theorem d_Mo_told_2 : decode b_Mo_told 2 = .ok (.iload_n 2, 1) := by decide +kernel
theorem d_Mo_told_3 : decode b_Mo_told 3 = .ok (.invokevirtual 1129, 3) := by decide +kernel
theorem d_Mo_told_6 : decode b_Mo_told 6 = .ok (.ifCond .eq 13, 3) := by decide +kernel
theorem d_Mo_told_9 : decode b_Mo_told 9 = .ok (.iload_n 3, 1) := by decide +kernel
theorem d_Mo_told_10 : decode b_Mo_told 10 = .ok (.ifCond .lt 9, 3) := by decide +kernel
theorem d_Mo_told_13 : decode b_Mo_told 13 = .ok (.iload_n 3, 1) := by decide +kernel
theorem d_Mo_told_14 : decode b_Mo_told 14 = .ok (.bipush 6, 2) := by decide +kernel
theorem d_Mo_told_16 : decode b_Mo_told 16 = .ok (.if_icmp .le 5, 3) := by decide +kernel
theorem d_Mo_told_19 : decode b_Mo_told 19 = .ok (.iconst (-1), 1) := by decide +kernel
theorem d_Mo_told_20 : decode b_Mo_told 20 = .ok (.ireturn, 1) := by decide +kernel
theorem d_Mo_told_21 : decode b_Mo_told 21 = .ok (.aload_n 0, 1) := by decide +kernel
theorem d_Mo_told_22 : decode b_Mo_told 22 = .ok (.aload_n 0, 1) := by decide +kernel
theorem d_Mo_told_23 : decode b_Mo_told 23 = .ok (.getfield 263, 3) := by decide +kernel
theorem d_Mo_told_26 : decode b_Mo_told 26 = .ok (.iload_n 1, 1) := by decide +kernel
theorem d_Mo_told_27 : decode b_Mo_told 27 = .ok (.aaload, 1) := by decide +kernel
theorem d_Mo_told_28 : decode b_Mo_told 28 = .ok (.putfield 522, 3) := by decide +kernel
theorem d_Mo_told_31 : decode b_Mo_told 31 = .ok (.iload_n 3, 1) := by decide +kernel
theorem d_Mo_told_32 : decode b_Mo_told 32 = .ok (.tableswitch 129 0 5 #[40, 79, 89, 99, 109, 119], 40) := by decide +kernel
theorem d_Mo_told_72 : decode b_Mo_told 72 = .ok (.iload_n 2, 1) := by decide +kernel
theorem d_Mo_told_73 : decode b_Mo_told 73 = .ok (.ifCond .eq 19, 3) := by decide +kernel
theorem d_Mo_told_76 : decode b_Mo_told 76 = .ok (.aload_n 0, 1) := by decide +kernel
theorem d_Mo_told_77 : decode b_Mo_told 77 = .ok (.aload_n 0, 1) := by decide +kernel
theorem d_Mo_told_78 : decode b_Mo_told 78 = .ok (.getfield 522, 3) := by decide +kernel
theorem d_Mo_told_81 : decode b_Mo_told 81 = .ok (.getfield 426, 3) := by decide +kernel
theorem d_Mo_told_84 : decode b_Mo_told 84 = .ok (.iload_n 2, 1) := by decide +kernel
theorem d_Mo_told_85 : decode b_Mo_told 85 = .ok (.iaload, 1) := by decide +kernel
theorem d_Mo_told_86 : decode b_Mo_told 86 = .ok (.invokevirtual 601, 3) := by decide +kernel
theorem d_Mo_told_89 : decode b_Mo_told 89 = .ok (.ifCond .ge 8, 3) := by decide +kernel
theorem d_Mo_told_92 : decode b_Mo_told 92 = .ok (.bipush (-2), 2) := by decide +kernel
theorem d_Mo_told_94 : decode b_Mo_told 94 = .ok (.goto 16, 3) := by decide +kernel
theorem d_Mo_told_97 : decode b_Mo_told 97 = .ok (.aload_n 0, 1) := by decide +kernel
theorem d_Mo_told_98 : decode b_Mo_told 98 = .ok (.aload_n 0, 1) := by decide +kernel
theorem d_Mo_told_99 : decode b_Mo_told 99 = .ok (.getfield 522, 3) := by decide +kernel
theorem d_Mo_told_102 : decode b_Mo_told 102 = .ok (.getfield 426, 3) := by decide +kernel
theorem d_Mo_told_105 : decode b_Mo_told 105 = .ok (.iload_n 2, 1) := by decide +kernel
theorem d_Mo_told_106 : decode b_Mo_told 106 = .ok (.iaload, 1) := by decide +kernel
theorem d_Mo_told_107 : decode b_Mo_told 107 = .ok (.invokevirtual 601, 3) := by decide +kernel
theorem d_Mo_told_110 : decode b_Mo_told 110 = .ok (.ireturn, 1) := by decide +kernel
theorem d_Mo_told_111 : decode b_Mo_told 111 = .ok (.aload_n 0, 1) := by decide +kernel
theorem d_Mo_told_112 : decode b_Mo_told 112 = .ok (.getfield 522, 3) := by decide +kernel
theorem d_Mo_told_115 : decode b_Mo_told 115 = .ok (.getfield 432, 3) := by decide +kernel
theorem d_Mo_told_118 : decode b_Mo_told 118 = .ok (.iload_n 2, 1) := by decide +kernel
theorem d_Mo_told_119 : decode b_Mo_told 119 = .ok (.iaload, 1) := by decide +kernel
theorem d_Mo_told_120 : decode b_Mo_told 120 = .ok (.ireturn, 1) := by decide +kernel
theorem d_Mo_told_121 : decode b_Mo_told 121 = .ok (.aload_n 0, 1) := by decide +kernel
theorem d_Mo_told_122 : decode b_Mo_told 122 = .ok (.getfield 522, 3) := by decide +kernel
theorem d_Mo_told_125 : decode b_Mo_told 125 = .ok (.getfield 435, 3) := by decide +kernel
theorem d_Mo_told_128 : decode b_Mo_told 128 = .ok (.iload_n 2, 1) := by decide +kernel
theorem d_Mo_told_129 : decode b_Mo_told 129 = .ok (.iaload, 1) := by decide +kernel
theorem d_Mo_told_130 : decode b_Mo_told 130 = .ok (.ireturn, 1) := by decide +kernel
theorem d_Mo_told_131 : decode b_Mo_told 131 = .ok (.aload_n 0, 1) := by decide +kernel
theorem d_Mo_told_132 : decode b_Mo_told 132 = .ok (.getfield 522, 3) := by decide +kernel
theorem d_Mo_told_135 : decode b_Mo_told 135 = .ok (.getfield 438, 3) := by decide +kernel
theorem d_Mo_told_138 : decode b_Mo_told 138 = .ok (.iload_n 2, 1) := by decide +kernel
theorem d_Mo_told_139 : decode b_Mo_told 139 = .ok (.iaload, 1) := by decide +kernel
theorem d_Mo_told_140 : decode b_Mo_told 140 = .ok (.ireturn, 1) := by decide +kernel
theorem d_Mo_told_141 : decode b_Mo_told 141 = .ok (.aload_n 0, 1) := by decide +kernel
theorem d_Mo_told_142 : decode b_Mo_told 142 = .ok (.getfield 522, 3) := by decide +kernel
theorem d_Mo_told_145 : decode b_Mo_told 145 = .ok (.getfield 429, 3) := by decide +kernel
theorem d_Mo_told_148 : decode b_Mo_told 148 = .ok (.iload_n 2, 1) := by decide +kernel
theorem d_Mo_told_149 : decode b_Mo_told 149 = .ok (.iaload, 1) := by decide +kernel
theorem d_Mo_told_150 : decode b_Mo_told 150 = .ok (.ireturn, 1) := by decide +kernel
theorem d_Mo_told_151 : decode b_Mo_told 151 = .ok (.aload_n 0, 1) := by decide +kernel
theorem d_Mo_told_152 : decode b_Mo_told 152 = .ok (.getfield 522, 3) := by decide +kernel
theorem d_Mo_told_155 : decode b_Mo_told 155 = .ok (.getfield 441, 3) := by decide +kernel
theorem d_Mo_told_158 : decode b_Mo_told 158 = .ok (.iload_n 2, 1) := by decide +kernel
theorem d_Mo_told_159 : decode b_Mo_told 159 = .ok (.iaload, 1) := by decide +kernel
theorem d_Mo_told_160 : decode b_Mo_told 160 = .ok (.ireturn, 1) := by decide +kernel
theorem d_Mo_told_161 : decode b_Mo_told 161 = .ok (.aload_n 0, 1) := by decide +kernel
theorem d_Mo_told_162 : decode b_Mo_told 162 = .ok (.getfield 522, 3) := by decide +kernel
theorem d_Mo_told_165 : decode b_Mo_told 165 = .ok (.getfield 444, 3) := by decide +kernel
theorem d_Mo_told_168 : decode b_Mo_told 168 = .ok (.iload_n 2, 1) := by decide +kernel
theorem d_Mo_told_169 : decode b_Mo_told 169 = .ok (.iaload, 1) := by decide +kernel
theorem d_Mo_told_170 : decode b_Mo_told 170 = .ok (.ireturn, 1) := by decide +kernel
abbrev ru_Mo_told : Room := { frames := 2, cells := 0, slots := 0, locals := 43 }
def wj_Mo_told_19 (y : Ly) (Post : St → Int32 → Prop) (a0 : Nat) (s_j19 : St) : Prop := Post s_j19 (-1)
def wj_Mo_told_110 (y : Ly) (Post : St → Int32 → Prop) (a0 : Nat) (s_j110 : St) (z0j110 : Int32) : Prop := Post s_j110 z0j110
def wj_Mo_told_92 (y : Ly) (Post : St → Int32 → Prop) (a0 : Nat) (s_j92 : St) : Prop := wj_Mo_told_110 y Post a0 s_j92 (-2)
def wu_Mo_told (y : Ly) (Post : St → Int32 → Prop) (σ : St) (a0 : Nat) (v1 : Int32) (v2 : Int32) (v3 : Int32) : Prop := wu_Mo_isClass y (fun (s_2 : St) (r_1 : Int32) => ((r_1 = 0 → wj_Mo_told_19 y Post a0 s_2) ∧ (¬ (r_1 = 0) → ((v3 < 0 → wj_Mo_told_19 y Post a0 s_2) ∧ (¬ (v3 < 0) → ((v3 ≤ 6 → xQ y a0 44 v1 (fun b_3 : Nat => xP (uO s_2 a0 45 (some b_3)) (fun s_5 : St => ((v3 = 0 → ((v2 = 0 → wj_Mo_told_92 y Post a0 s_5) ∧ (¬ (v2 = 0) → ∃ b_6 : Nat, sO s_5 a0 45 = some b_6 ∧ cl b_6 = 13 ∧ xA y s_5 b_6 4 v2 (fun x_9 : Int32 => wu_Mo_classOf y (fun (s_11 : St) (r_10 : Int32) => ((0 ≤ r_10 → ∃ b_12 : Nat, sO s_11 a0 45 = some b_12 ∧ cl b_12 = 13 ∧ xA y s_11 b_12 4 v2 (fun x_15 : Int32 => wu_Mo_classOf y (fun (s_17 : St) (r_16 : Int32) => wj_Mo_told_110 y Post a0 s_17 r_16) s_11 a0 x_15)) ∧ (¬ (0 ≤ r_10) → wj_Mo_told_92 y Post a0 s_11))) s_5 a0 x_9)))) ∧ (¬ (v3 = 0) → ((v3 = 1 → ∃ b_18 : Nat, sO s_5 a0 45 = some b_18 ∧ cl b_18 = 13 ∧ xA y s_5 b_18 7 v2 (fun x_21 : Int32 => Post s_5 x_21)) ∧ (¬ (v3 = 1) → ((v3 = 2 → ∃ b_22 : Nat, sO s_5 a0 45 = some b_22 ∧ cl b_22 = 13 ∧ xA y s_5 b_22 8 v2 (fun x_25 : Int32 => Post s_5 x_25)) ∧ (¬ (v3 = 2) → ((v3 = 3 → ∃ b_26 : Nat, sO s_5 a0 45 = some b_26 ∧ cl b_26 = 13 ∧ xA y s_5 b_26 9 v2 (fun x_29 : Int32 => Post s_5 x_29)) ∧ (¬ (v3 = 3) → ((v3 = 4 → ∃ b_30 : Nat, sO s_5 a0 45 = some b_30 ∧ cl b_30 = 13 ∧ xA y s_5 b_30 5 v2 (fun x_33 : Int32 => Post s_5 x_33)) ∧ (¬ (v3 = 4) → ((v3 = 5 → ∃ b_34 : Nat, sO s_5 a0 45 = some b_34 ∧ cl b_34 = 13 ∧ xA y s_5 b_34 10 v2 (fun x_37 : Int32 => Post s_5 x_37)) ∧ (¬ (v3 = 5) → ∃ b_38 : Nat, sO s_5 a0 45 = some b_38 ∧ cl b_38 = 13 ∧ xA y s_5 b_38 11 v2 (fun x_41 : Int32 => Post s_5 x_41)))))))))))))))) ∧ (¬ (v3 ≤ 6) → wj_Mo_told_19 y Post a0 s_2))))))) σ a0 v1 v2
set_option maxHeartbeats 4000000 in
set_option maxRecDepth 100000 in
theorem cu_Mo_told (l : Launch) (D : va_G) (g : Nat → ClassId) (ad : Nat → Nat) (y : Ly) (Post : St → Int32 → Prop) (σ : St) (a0 : Nat) (v1 : Int32) (v2 : Int32) (v3 : Int32) (sz : Nat) (h_a0 : cl a0 = 14) (h : wu_Mo_told y Post σ a0 v1 v2 v3) : Met l y_Mo_told (mw y_Mo_told b_Mo_told 4 (some .int)) ru_Mo_told (PC g D [] [.ref (ad a0), .int v1, .int v2, .int v3] sz (ws g ad y σ)) (va_Qi (fun (r : Int32) (u : St) => Post u r) (QW D (va_A (ws g ad y σ) sz) (fun u => ws g ad y u)) (va_A (ws g ad y σ) sz)) 0 0 (va_A (ws g ad y σ) sz) := by
  refine ofI (by decide +kernel) (Nat.le_of_ble_eq_true rfl) ?_
  intro p e s m args below meth c A Q ls H locs G hsz hP hD hS hl hret
  subst hsz
  have hl : lv_has ls 4 [(0, .ref (ad a0)), (1, .int v1), (2, .int v2), (3, .int v3)] := hl
  unfold wu_Mo_told at h
  refine lv_aload_n G.1 G.2.1 d_Mo_told_0 rfl (lv_at hl 0 rfl) ?_
  refine lv_iload_n G.1 G.2.1 d_Mo_told_1 rfl (lv_at hl 1 rfl) ?_
  refine lv_iload_n G.1 G.2.1 d_Mo_told_2 rfl (lv_at hl 2 rfl) ?_
  refine ucVi (As := [.int v1, .int v2]) (rest := []) G hP hD hS (cu_Mo_isClass l D g ad y _ σ a0 v1 v2 H.size h_a0 h) w9_Mo_isClass q3661 ⟨Nat.le_of_ble_eq_true rfl, Nat.le_of_ble_eq_true rfl⟩ rfl rfl h_a0 (q := (RMo, TMo, 131)) rfl rfl hl.1 rfl (Nat.le_of_ble_eq_true rfl) rfl ⟨Nat.le_refl _, Nat.le_refl _⟩ d_Mo_told_3 (fun r_1 s_2 H locs h hP hD hS => ?_)
  have J_19 : ∀ (s_j19 : St) (H : Heap) (locs : List Loc), wj_Mo_told_19 y Post a0 s_j19 → va_P D CL (ws g ad y s_j19) H → va_D A (ws g ad y s_j19) → va_S A s.heap H locs → ∀ ls, lv_has ls 4 [] → W p l e ru_Mo_told s m args below meth c H locs 0 0 Q (F0 m 19 ls []) := by
    intro s_j19 H locs h hP hD hS ls hl
    unfold wj_Mo_told_19 at h
    refine lv_iconst (v := (-1)) G.1 G.2.1 d_Mo_told_19 (by decide) ?_
    exact hret _ _ _ _ _ _ _ ls h hP hD hS (Nat.le_refl _) (Nat.le_refl _) d_Mo_told_20
  refine lv_if_eq (tgt := 19) G.1 G.2.1 d_Mo_told_6 (by decide) (fun c6 => ?_) (fun c6 => ?_)
  · skip
    have h := h.1 c6
    exact J_19 s_2 H locs h hP hD hS ls (lv_sub hl [] rfl)
  · skip
    have h := h.2 c6
    refine lv_iload_n G.1 G.2.1 d_Mo_told_9 rfl (lv_at hl 3 rfl) ?_
    refine lv_if_lt (tgt := 19) G.1 G.2.1 d_Mo_told_10 (by decide) (fun c10 => ?_) (fun c10 => ?_)
    · skip
      have h := h.1 c10
      exact J_19 s_2 H locs h hP hD hS ls (lv_sub hl [] rfl)
    · skip
      have h := h.2 c10
      refine lv_iload_n G.1 G.2.1 d_Mo_told_13 rfl (lv_at hl 3 rfl) ?_
      refine lv_bipush (v := 6) G.1 G.2.1 d_Mo_told_14 (by decide) ?_
      refine lv_icmp_le (tgt := 21) G.1 G.2.1 d_Mo_told_16 (by decide) (fun c16 => ?_) (fun c16 => ?_)
      · skip
        have h := h.1 c16
        refine lv_aload_n G.1 G.2.1 d_Mo_told_21 rfl (lv_at hl 0 rfl) ?_
        refine W.eq (g2 := F0 m 22 ls [.ref (ad a0)]) rfl ?_
        refine lv_aload_n G.1 G.2.1 d_Mo_told_22 rfl (lv_at hl 0 rfl) ?_
        refine ugf (v := .ref (yP y a0 44)) G hP h_a0 iMo rfl 44 (by decide) rfl q3108 rfl rfl d_Mo_told_23 ?_
        refine lv_iload_n G.1 G.2.1 d_Mo_told_26 rfl (lv_at hl 1 rfl) ?_
        refine uqald G hP (kdp h_a0 rfl) (typ h_a0 rfl) rfl h d_Mo_told_27 (fun b_3 n_4 h => ?_)
        refine upf G hP hD hS h 45 putO h_a0 iMo tMo tMo_ok nMo rfl (by decide) rfl q3109 rfl rfl fO rfl rfl d_Mo_told_28 (fun s_5 H locs h hP hD hS => ?_)
        refine lv_iload_n G.1 G.2.1 d_Mo_told_31 rfl (lv_at hl 3 rfl) ?_
        by_cases e32_0 : v3 = 0
        · skip
          have h := h.1 e32_0
          refine lv_tableIn (off := 40) (tgt := 72) G.1 G.2.1 d_Mo_told_32 (by rw [e32_0]; decide) (by rw [e32_0]; decide) (by rw [e32_0]; rfl) (by decide) ?_
          refine lv_iload_n G.1 G.2.1 d_Mo_told_72 rfl (lv_at hl 2 rfl) ?_
          have J_110 : ∀ (s_j110 : St) (z0j110 : Int32) (H : Heap) (locs : List Loc), wj_Mo_told_110 y Post a0 s_j110 z0j110 → va_P D CL (ws g ad y s_j110) H → va_D A (ws g ad y s_j110) → va_S A s.heap H locs → ∀ ls, lv_has ls 4 [] → W p l e ru_Mo_told s m args below meth c H locs 0 0 Q (F0 m 110 ls [.int z0j110]) := by
            intro s_j110 z0j110 H locs h hP hD hS ls hl
            unfold wj_Mo_told_110 at h
            exact hret _ _ _ _ _ _ _ ls h hP hD hS (Nat.le_refl _) (Nat.le_refl _) d_Mo_told_110
          have J_92 : ∀ (s_j92 : St) (H : Heap) (locs : List Loc), wj_Mo_told_92 y Post a0 s_j92 → va_P D CL (ws g ad y s_j92) H → va_D A (ws g ad y s_j92) → va_S A s.heap H locs → ∀ ls, lv_has ls 4 [] → W p l e ru_Mo_told s m args below meth c H locs 0 0 Q (F0 m 92 ls []) := by
            intro s_j92 H locs h hP hD hS ls hl
            unfold wj_Mo_told_92 at h
            refine lv_bipush (v := (-2)) G.1 G.2.1 d_Mo_told_92 (by decide) ?_
            refine lv_goto (tgt := 110) G.1 G.2.1 d_Mo_told_94 (by decide) ?_
            exact J_110 s_j92 (-2) H locs h hP hD hS ls (lv_sub hl [] rfl)
          refine lv_if_eq (tgt := 92) G.1 G.2.1 d_Mo_told_73 (by decide) (fun c73 => ?_) (fun c73 => ?_)
          · skip
            have h := h.1 c73
            exact J_92 s_5 H locs h hP hD hS ls (lv_sub hl [] rfl)
          · skip
            have h := h.2 c73
            refine lv_aload_n G.1 G.2.1 d_Mo_told_76 rfl (lv_at hl 0 rfl) ?_
            refine lv_aload_n G.1 G.2.1 d_Mo_told_77 rfl (lv_at hl 0 rfl) ?_
            obtain ⟨b_6, e_7, c_8, h⟩ := h
            refine ugf (v := .ref (ad b_6)) G hP h_a0 iMo rfl 45 (by decide) rfl q3109 rfl (by show va_rf ((sO s_5 a0 45).map ad) = _; rw [e_7]; rfl) d_Mo_told_78 ?_
            refine W.eq (g2 := F0 m 81 ls [.ref (ad b_6), .ref (ad a0)]) rfl ?_
            refine ugfN (v := .ref (yP y b_6 4)) G hP c_8 iMw rfl 4 (by decide) rfl q2712 rfl rfl d_Mo_told_81 ?_
            refine lv_iload_n G.1 G.2.1 d_Mo_told_84 rfl (lv_at hl 2 rfl) ?_
            refine uiald G hP (kdp c_8 rfl) (typ c_8 rfl) h d_Mo_told_85 (fun x_9 h => ?_)
            refine ucVi (As := [.int x_9]) (rest := []) G hP hD hS (cu_Mo_classOf l D g ad y _ s_5 a0 x_9 H.size h_a0 h) w9_Mo_classOf q3571 ⟨Nat.le_of_ble_eq_true rfl, Nat.le_of_ble_eq_true rfl⟩ rfl rfl h_a0 (q := (RMo, TMo, 131)) rfl rfl hl.1 rfl (Nat.le_of_ble_eq_true rfl) rfl ⟨Nat.le_refl _, Nat.le_refl _⟩ d_Mo_told_86 (fun r_10 s_11 H locs h hP hD hS => ?_)
            refine lv_if_ge (tgt := 97) G.1 G.2.1 d_Mo_told_89 (by decide) (fun c89 => ?_) (fun c89 => ?_)
            · skip
              have h := h.1 c89
              refine lv_aload_n G.1 G.2.1 d_Mo_told_97 rfl (lv_at hl 0 rfl) ?_
              refine lv_aload_n G.1 G.2.1 d_Mo_told_98 rfl (lv_at hl 0 rfl) ?_
              obtain ⟨b_12, e_13, c_14, h⟩ := h
              refine ugf (v := .ref (ad b_12)) G hP h_a0 iMo rfl 45 (by decide) rfl q3109 rfl (by show va_rf ((sO s_11 a0 45).map ad) = _; rw [e_13]; rfl) d_Mo_told_99 ?_
              refine ugfN (v := .ref (yP y b_12 4)) G hP c_14 iMw rfl 4 (by decide) rfl q2712 rfl rfl d_Mo_told_102 ?_
              refine lv_iload_n G.1 G.2.1 d_Mo_told_105 rfl (lv_at hl 2 rfl) ?_
              refine uiald G hP (kdp c_14 rfl) (typ c_14 rfl) h d_Mo_told_106 (fun x_15 h => ?_)
              refine ucVi (As := [.int x_15]) (rest := []) G hP hD hS (cu_Mo_classOf l D g ad y _ s_11 a0 x_15 H.size h_a0 h) w9_Mo_classOf q3571 ⟨Nat.le_of_ble_eq_true rfl, Nat.le_of_ble_eq_true rfl⟩ rfl rfl h_a0 (q := (RMo, TMo, 131)) rfl rfl hl.1 rfl (Nat.le_of_ble_eq_true rfl) rfl ⟨Nat.le_refl _, Nat.le_refl _⟩ d_Mo_told_107 (fun r_16 s_17 H locs h hP hD hS => ?_)
              exact J_110 s_17 r_16 H locs h hP hD hS ls (lv_sub hl [] rfl)
            · skip
              have h := h.2 c89
              exact J_92 s_11 H locs h hP hD hS ls (lv_sub hl [] rfl)
        replace h := h.2 e32_0
        by_cases e32_1 : v3 = 1
        · skip
          have h := h.1 e32_1
          refine lv_tableIn (off := 79) (tgt := 111) G.1 G.2.1 d_Mo_told_32 (by rw [e32_1]; decide) (by rw [e32_1]; decide) (by rw [e32_1]; rfl) (by decide) ?_
          refine lv_aload_n G.1 G.2.1 d_Mo_told_111 rfl (lv_at hl 0 rfl) ?_
          obtain ⟨b_18, e_19, c_20, h⟩ := h
          refine ugf (v := .ref (ad b_18)) G hP h_a0 iMo rfl 45 (by decide) rfl q3109 rfl (by show va_rf ((sO s_5 a0 45).map ad) = _; rw [e_19]; rfl) d_Mo_told_112 ?_
          refine ugfN (v := .ref (yP y b_18 7)) G hP c_20 iMw rfl 7 (by decide) rfl q2718 rfl rfl d_Mo_told_115 ?_
          refine lv_iload_n G.1 G.2.1 d_Mo_told_118 rfl (lv_at hl 2 rfl) ?_
          refine uiald G hP (kdp c_20 rfl) (typ c_20 rfl) h d_Mo_told_119 (fun x_21 h => ?_)
          refine W.eq (g2 := F0 m 120 ls [.int x_21]) rfl ?_
          exact hret _ _ _ _ _ _ _ ls h hP hD hS (Nat.le_refl _) (Nat.le_refl _) d_Mo_told_120
        replace h := h.2 e32_1
        by_cases e32_2 : v3 = 2
        · skip
          have h := h.1 e32_2
          refine lv_tableIn (off := 89) (tgt := 121) G.1 G.2.1 d_Mo_told_32 (by rw [e32_2]; decide) (by rw [e32_2]; decide) (by rw [e32_2]; rfl) (by decide) ?_
          refine lv_aload_n G.1 G.2.1 d_Mo_told_121 rfl (lv_at hl 0 rfl) ?_
          obtain ⟨b_22, e_23, c_24, h⟩ := h
          refine ugf (v := .ref (ad b_22)) G hP h_a0 iMo rfl 45 (by decide) rfl q3109 rfl (by show va_rf ((sO s_5 a0 45).map ad) = _; rw [e_23]; rfl) d_Mo_told_122 ?_
          refine ugfN (v := .ref (yP y b_22 8)) G hP c_24 iMw rfl 8 (by decide) rfl q2720 rfl rfl d_Mo_told_125 ?_
          refine lv_iload_n G.1 G.2.1 d_Mo_told_128 rfl (lv_at hl 2 rfl) ?_
          refine uiald G hP (kdp c_24 rfl) (typ c_24 rfl) h d_Mo_told_129 (fun x_25 h => ?_)
          refine W.eq (g2 := F0 m 130 ls [.int x_25]) rfl ?_
          exact hret _ _ _ _ _ _ _ ls h hP hD hS (Nat.le_refl _) (Nat.le_refl _) d_Mo_told_130
        replace h := h.2 e32_2
        by_cases e32_3 : v3 = 3
        · skip
          have h := h.1 e32_3
          refine lv_tableIn (off := 99) (tgt := 131) G.1 G.2.1 d_Mo_told_32 (by rw [e32_3]; decide) (by rw [e32_3]; decide) (by rw [e32_3]; rfl) (by decide) ?_
          refine lv_aload_n G.1 G.2.1 d_Mo_told_131 rfl (lv_at hl 0 rfl) ?_
          obtain ⟨b_26, e_27, c_28, h⟩ := h
          refine ugf (v := .ref (ad b_26)) G hP h_a0 iMo rfl 45 (by decide) rfl q3109 rfl (by show va_rf ((sO s_5 a0 45).map ad) = _; rw [e_27]; rfl) d_Mo_told_132 ?_
          refine ugfN (v := .ref (yP y b_26 9)) G hP c_28 iMw rfl 9 (by decide) rfl q2722 rfl rfl d_Mo_told_135 ?_
          refine lv_iload_n G.1 G.2.1 d_Mo_told_138 rfl (lv_at hl 2 rfl) ?_
          refine uiald G hP (kdp c_28 rfl) (typ c_28 rfl) h d_Mo_told_139 (fun x_29 h => ?_)
          refine W.eq (g2 := F0 m 140 ls [.int x_29]) rfl ?_
          exact hret _ _ _ _ _ _ _ ls h hP hD hS (Nat.le_refl _) (Nat.le_refl _) d_Mo_told_140
        replace h := h.2 e32_3
        by_cases e32_4 : v3 = 4
        · skip
          have h := h.1 e32_4
          refine lv_tableIn (off := 109) (tgt := 141) G.1 G.2.1 d_Mo_told_32 (by rw [e32_4]; decide) (by rw [e32_4]; decide) (by rw [e32_4]; rfl) (by decide) ?_
          refine lv_aload_n G.1 G.2.1 d_Mo_told_141 rfl (lv_at hl 0 rfl) ?_
          obtain ⟨b_30, e_31, c_32, h⟩ := h
          refine ugf (v := .ref (ad b_30)) G hP h_a0 iMo rfl 45 (by decide) rfl q3109 rfl (by show va_rf ((sO s_5 a0 45).map ad) = _; rw [e_31]; rfl) d_Mo_told_142 ?_
          refine ugfN (v := .ref (yP y b_30 5)) G hP c_32 iMw rfl 5 (by decide) rfl q2714 rfl rfl d_Mo_told_145 ?_
          refine lv_iload_n G.1 G.2.1 d_Mo_told_148 rfl (lv_at hl 2 rfl) ?_
          refine uiald G hP (kdp c_32 rfl) (typ c_32 rfl) h d_Mo_told_149 (fun x_33 h => ?_)
          refine W.eq (g2 := F0 m 150 ls [.int x_33]) rfl ?_
          exact hret _ _ _ _ _ _ _ ls h hP hD hS (Nat.le_refl _) (Nat.le_refl _) d_Mo_told_150
        replace h := h.2 e32_4
        by_cases e32_5 : v3 = 5
        · skip
          have h := h.1 e32_5
          refine lv_tableIn (off := 119) (tgt := 151) G.1 G.2.1 d_Mo_told_32 (by rw [e32_5]; decide) (by rw [e32_5]; decide) (by rw [e32_5]; rfl) (by decide) ?_
          refine lv_aload_n G.1 G.2.1 d_Mo_told_151 rfl (lv_at hl 0 rfl) ?_
          obtain ⟨b_34, e_35, c_36, h⟩ := h
          refine ugf (v := .ref (ad b_34)) G hP h_a0 iMo rfl 45 (by decide) rfl q3109 rfl (by show va_rf ((sO s_5 a0 45).map ad) = _; rw [e_35]; rfl) d_Mo_told_152 ?_
          refine ugfN (v := .ref (yP y b_34 10)) G hP c_36 iMw rfl 10 (by decide) rfl q2724 rfl rfl d_Mo_told_155 ?_
          refine lv_iload_n G.1 G.2.1 d_Mo_told_158 rfl (lv_at hl 2 rfl) ?_
          refine uiald G hP (kdp c_36 rfl) (typ c_36 rfl) h d_Mo_told_159 (fun x_37 h => ?_)
          refine W.eq (g2 := F0 m 160 ls [.int x_37]) rfl ?_
          exact hret _ _ _ _ _ _ _ ls h hP hD hS (Nat.le_refl _) (Nat.le_refl _) d_Mo_told_160
        replace h := h.2 e32_5
        have te32_0 := lv_neT (a := 0) e32_0 (by decide)
        have te32_1 := lv_neT (a := 1) e32_1 (by decide)
        have te32_2 := lv_neT (a := 2) e32_2 (by decide)
        have te32_3 := lv_neT (a := 3) e32_3 (by decide)
        have te32_4 := lv_neT (a := 4) e32_4 (by decide)
        have te32_5 := lv_neT (a := 5) e32_5 (by decide)
        refine lv_tableOut (tgt := 161) G.1 G.2.1 d_Mo_told_32 (by omega) (by decide) ?_
        refine lv_aload_n G.1 G.2.1 d_Mo_told_161 rfl (lv_at hl 0 rfl) ?_
        obtain ⟨b_38, e_39, c_40, h⟩ := h
        refine ugf (v := .ref (ad b_38)) G hP h_a0 iMo rfl 45 (by decide) rfl q3109 rfl (by show va_rf ((sO s_5 a0 45).map ad) = _; rw [e_39]; rfl) d_Mo_told_162 ?_
        refine ugfN (v := .ref (yP y b_38 11)) G hP c_40 iMw rfl 11 (by decide) rfl q2726 rfl rfl d_Mo_told_165 ?_
        refine lv_iload_n G.1 G.2.1 d_Mo_told_168 rfl (lv_at hl 2 rfl) ?_
        refine uiald G hP (kdp c_40 rfl) (typ c_40 rfl) h d_Mo_told_169 (fun x_41 h => ?_)
        refine W.eq (g2 := F0 m 170 ls [.int x_41]) rfl ?_
        exact hret _ _ _ _ _ _ _ ls h hP hD hS (Nat.le_refl _) (Nat.le_refl _) d_Mo_told_170
      · skip
        have h := h.2 c16
        exact J_19 s_2 H locs h hP hD hS ls (lv_sub hl [] rfl)
def y_Mo_name : MethodName := ⟨"ClassWorksModel", "name", "(IIIII)I"⟩
abbrev b_Mo_name : ByteArray := prog_14_method_135_code
theorem q2728 : Cond.fieldLinkNest "ClassWorksModel" 621 "ClassWorksModel$World" "fieldNames" "[I" "ClassWorksModel" ∈ lw_nest := lw_nestmem (List.mem_of_getElem? (i := 2728) (by decide +kernel)) rfl
theorem d_Mo_name_0 : decode b_Mo_name 0 = .ok (.aload_n 0, 1) := by decide +kernel
theorem d_Mo_name_1 : decode b_Mo_name 1 = .ok (.iload_n 1, 1) := by decide +kernel
theorem d_Mo_name_2 : decode b_Mo_name 2 = .ok (.iload_n 2, 1) := by decide +kernel
theorem d_Mo_name_3 : decode b_Mo_name 3 = .ok (.invokevirtual 1129, 3) := by decide +kernel
theorem d_Mo_name_6 : decode b_Mo_name 6 = .ok (.ifCond .eq 18, 3) := by decide +kernel
theorem d_Mo_name_9 : decode b_Mo_name 9 = .ok (.iload_n 3, 1) := by decide +kernel
theorem d_Mo_name_10 : decode b_Mo_name 10 = .ok (.ifCond .lt 14, 3) := by decide +kernel
theorem d_Mo_name_13 : decode b_Mo_name 13 = .ok (.iload_n 3, 1) := by decide +kernel
theorem d_Mo_name_14 : decode b_Mo_name 14 = .ok (.iconst 1, 1) := by decide +kernel
theorem d_Mo_name_15 : decode b_Mo_name 15 = .ok (.if_icmp .gt 9, 3) := by decide +kernel
theorem d_Mo_name_18 : decode b_Mo_name 18 = .ok (.iload 4, 2) := by decide +kernel
theorem d_Mo_name_20 : decode b_Mo_name 20 = .ok (.iconst (-1), 1) := by decide +kernel
theorem d_Mo_name_21 : decode b_Mo_name 21 = .ok (.if_icmp .ge 5, 3) := by decide +kernel
theorem d_Mo_name_24 : decode b_Mo_name 24 = .ok (.iconst (-1), 1) := by decide +kernel
theorem d_Mo_name_25 : decode b_Mo_name 25 = .ok (.ireturn, 1) := by decide +kernel
theorem d_Mo_name_26 : decode b_Mo_name 26 = .ok (.aload_n 0, 1) := by decide +kernel
theorem d_Mo_name_27 : decode b_Mo_name 27 = .ok (.getfield 263, 3) := by decide +kernel
theorem d_Mo_name_30 : decode b_Mo_name 30 = .ok (.iload_n 1, 1) := by decide +kernel
theorem d_Mo_name_31 : decode b_Mo_name 31 = .ok (.aaload, 1) := by decide +kernel
theorem d_Mo_name_32 : decode b_Mo_name 32 = .ok (.astore 6, 2) := by decide +kernel
theorem d_Mo_name_34 : decode b_Mo_name 34 = .ok (.iload 4, 2) := by decide +kernel
theorem d_Mo_name_36 : decode b_Mo_name 36 = .ok (.iload_n 3, 1) := by decide +kernel
theorem d_Mo_name_37 : decode b_Mo_name 37 = .ok (.ifCond .ne 13, 3) := by decide +kernel
theorem d_Mo_name_40 : decode b_Mo_name 40 = .ok (.aload 6, 2) := by decide +kernel
theorem d_Mo_name_42 : decode b_Mo_name 42 = .ok (.getfield 435, 3) := by decide +kernel
theorem d_Mo_name_45 : decode b_Mo_name 45 = .ok (.iload_n 2, 1) := by decide +kernel
theorem d_Mo_name_46 : decode b_Mo_name 46 = .ok (.iaload, 1) := by decide +kernel
theorem d_Mo_name_47 : decode b_Mo_name 47 = .ok (.goto 10, 3) := by decide +kernel
theorem d_Mo_name_50 : decode b_Mo_name 50 = .ok (.aload 6, 2) := by decide +kernel
theorem d_Mo_name_52 : decode b_Mo_name 52 = .ok (.getfield 438, 3) := by decide +kernel
theorem d_Mo_name_55 : decode b_Mo_name 55 = .ok (.iload_n 2, 1) := by decide +kernel
theorem d_Mo_name_56 : decode b_Mo_name 56 = .ok (.iaload, 1) := by decide +kernel
theorem d_Mo_name_57 : decode b_Mo_name 57 = .ok (.if_icmp .lt 5, 3) := by decide +kernel
theorem d_Mo_name_60 : decode b_Mo_name 60 = .ok (.iconst (-1), 1) := by decide +kernel
theorem d_Mo_name_61 : decode b_Mo_name 61 = .ok (.ireturn, 1) := by decide +kernel
theorem d_Mo_name_62 : decode b_Mo_name 62 = .ok (.iload 4, 2) := by decide +kernel
theorem d_Mo_name_64 : decode b_Mo_name 64 = .ok (.ifCond .ge 13, 3) := by decide +kernel
theorem d_Mo_name_67 : decode b_Mo_name 67 = .ok (.aload 6, 2) := by decide +kernel
theorem d_Mo_name_69 : decode b_Mo_name 69 = .ok (.getfield 423, 3) := by decide +kernel
theorem d_Mo_name_72 : decode b_Mo_name 72 = .ok (.iload_n 2, 1) := by decide +kernel
theorem d_Mo_name_73 : decode b_Mo_name 73 = .ok (.iaload, 1) := by decide +kernel
theorem d_Mo_name_74 : decode b_Mo_name 74 = .ok (.goto 36, 3) := by decide +kernel
theorem d_Mo_name_77 : decode b_Mo_name 77 = .ok (.iload_n 3, 1) := by decide +kernel
theorem d_Mo_name_78 : decode b_Mo_name 78 = .ok (.ifCond .ne 19, 3) := by decide +kernel
theorem d_Mo_name_81 : decode b_Mo_name 81 = .ok (.aload 6, 2) := by decide +kernel
theorem d_Mo_name_83 : decode b_Mo_name 83 = .ok (.getfield 621, 3) := by decide +kernel
theorem d_Mo_name_86 : decode b_Mo_name 86 = .ok (.bipush 8, 2) := by decide +kernel
theorem d_Mo_name_88 : decode b_Mo_name 88 = .ok (.iload_n 2, 1) := by decide +kernel
theorem d_Mo_name_89 : decode b_Mo_name 89 = .ok (.imul, 1) := by decide +kernel
theorem d_Mo_name_90 : decode b_Mo_name 90 = .ok (.iload 4, 2) := by decide +kernel
theorem d_Mo_name_92 : decode b_Mo_name 92 = .ok (.iadd, 1) := by decide +kernel
theorem d_Mo_name_93 : decode b_Mo_name 93 = .ok (.iaload, 1) := by decide +kernel
theorem d_Mo_name_94 : decode b_Mo_name 94 = .ok (.goto 16, 3) := by decide +kernel
theorem d_Mo_name_97 : decode b_Mo_name 97 = .ok (.aload 6, 2) := by decide +kernel
theorem d_Mo_name_99 : decode b_Mo_name 99 = .ok (.getfield 447, 3) := by decide +kernel
theorem d_Mo_name_102 : decode b_Mo_name 102 = .ok (.bipush 12, 2) := by decide +kernel
theorem d_Mo_name_104 : decode b_Mo_name 104 = .ok (.iload_n 2, 1) := by decide +kernel
theorem d_Mo_name_105 : decode b_Mo_name 105 = .ok (.imul, 1) := by decide +kernel
theorem d_Mo_name_106 : decode b_Mo_name 106 = .ok (.iload 4, 2) := by decide +kernel
theorem d_Mo_name_108 : decode b_Mo_name 108 = .ok (.iadd, 1) := by decide +kernel
theorem d_Mo_name_109 : decode b_Mo_name 109 = .ok (.iaload, 1) := by decide +kernel
theorem d_Mo_name_110 : decode b_Mo_name 110 = .ok (.istore 7, 2) := by decide +kernel
theorem d_Mo_name_112 : decode b_Mo_name 112 = .ok (.iload 5, 2) := by decide +kernel
theorem d_Mo_name_114 : decode b_Mo_name 114 = .ok (.ifCond .lt 15, 3) := by decide +kernel
theorem d_Mo_name_117 : decode b_Mo_name 117 = .ok (.iload 5, 2) := by decide +kernel
theorem d_Mo_name_119 : decode b_Mo_name 119 = .ok (.aload_n 0, 1) := by decide +kernel
theorem d_Mo_name_120 : decode b_Mo_name 120 = .ok (.getfield 40, 3) := by decide +kernel
theorem d_Mo_name_123 : decode b_Mo_name 123 = .ok (.iload 7, 2) := by decide +kernel
theorem d_Mo_name_125 : decode b_Mo_name 125 = .ok (.baload, 1) := by decide +kernel
theorem d_Mo_name_126 : decode b_Mo_name 126 = .ok (.if_icmp .lt 7, 3) := by decide +kernel
theorem d_Mo_name_129 : decode b_Mo_name 129 = .ok (.iconst (-1), 1) := by decide +kernel
theorem d_Mo_name_130 : decode b_Mo_name 130 = .ok (.goto 16, 3) := by decide +kernel
theorem d_Mo_name_133 : decode b_Mo_name 133 = .ok (.aload_n 0, 1) := by decide +kernel
theorem d_Mo_name_134 : decode b_Mo_name 134 = .ok (.getfield 28, 3) := by decide +kernel
theorem d_Mo_name_137 : decode b_Mo_name 137 = .ok (.bipush 12, 2) := by decide +kernel
theorem d_Mo_name_139 : decode b_Mo_name 139 = .ok (.iload 7, 2) := by decide +kernel
theorem d_Mo_name_141 : decode b_Mo_name 141 = .ok (.imul, 1) := by decide +kernel
theorem d_Mo_name_142 : decode b_Mo_name 142 = .ok (.iload 5, 2) := by decide +kernel
theorem d_Mo_name_144 : decode b_Mo_name 144 = .ok (.iadd, 1) := by decide +kernel
theorem d_Mo_name_145 : decode b_Mo_name 145 = .ok (.baload, 1) := by decide +kernel
theorem d_Mo_name_146 : decode b_Mo_name 146 = .ok (.ireturn, 1) := by decide +kernel
abbrev ru_Mo_name : Room := { frames := 2, cells := 0, slots := 0, locals := 43 }
def wj_Mo_name_24 (y : Ly) (Post : St → Int32 → Prop) (a0 : Nat) (s_j24 : St) : Prop := Post s_j24 (-1)
def wj_Mo_name_146 (y : Ly) (Post : St → Int32 → Prop) (a0 : Nat) (s_j146 : St) (z0j146 : Int32) : Prop := Post s_j146 z0j146
def wj_Mo_name_129 (y : Ly) (Post : St → Int32 → Prop) (a0 : Nat) (s_j129 : St) : Prop := wj_Mo_name_146 y Post a0 s_j129 (-1)
def wj_Mo_name_110 (y : Ly) (Post : St → Int32 → Prop) (a0 : Nat) (s_j110 : St) (x5j110 : Int32) (z0j110 : Int32) : Prop := ((x5j110 < 0 → wj_Mo_name_129 y Post a0 s_j110) ∧ (¬ (x5j110 < 0) → xA y s_j110 a0 1 z0j110 (fun x_5 : Int32 => ((x5j110 < x_5 → xA y s_j110 a0 0 ((12 * z0j110) + x5j110) (fun x_6 : Int32 => wj_Mo_name_146 y Post a0 s_j110 x_6)) ∧ (¬ (x5j110 < x_5) → wj_Mo_name_129 y Post a0 s_j110)))))
def wj_Mo_name_57 (y : Ly) (Post : St → Int32 → Prop) (a0 : Nat) (s_j57 : St) (x2j57 : Int32) (x3j57 : Int32) (x4j57 : Int32) (x5j57 : Int32) (x6j57 : Nat) (z0j57 : Int32) (z1j57 : Int32) : Prop := cl x6j57 = 13 ∧ ((z0j57 < z1j57 → ((0 ≤ x4j57 → ((¬ x3j57 = 0 → xA y s_j57 x6j57 18 ((12 * x2j57) + x4j57) (fun x_7 : Int32 => wj_Mo_name_110 y Post a0 s_j57 x5j57 x_7)) ∧ (x3j57 = 0 → xA y s_j57 x6j57 12 ((8 * x2j57) + x4j57) (fun x_8 : Int32 => wj_Mo_name_110 y Post a0 s_j57 x5j57 x_8)))) ∧ (¬ (0 ≤ x4j57) → xA y s_j57 x6j57 3 x2j57 (fun x_9 : Int32 => wj_Mo_name_110 y Post a0 s_j57 x5j57 x_9)))) ∧ (¬ (z0j57 < z1j57) → Post s_j57 (-1)))
def wu_Mo_name (y : Ly) (Post : St → Int32 → Prop) (σ : St) (a0 : Nat) (v1 : Int32) (v2 : Int32) (v3 : Int32) (v4 : Int32) (v5 : Int32) : Prop := wu_Mo_isClass y (fun (s_2 : St) (r_1 : Int32) => ((r_1 = 0 → wj_Mo_name_24 y Post a0 s_2) ∧ (¬ (r_1 = 0) → ((v3 < 0 → wj_Mo_name_24 y Post a0 s_2) ∧ (¬ (v3 < 0) → ((1 < v3 → wj_Mo_name_24 y Post a0 s_2) ∧ (¬ (1 < v3) → (((-1) ≤ v4 → xQ y a0 44 v1 (fun b_3 : Nat => ((¬ v3 = 0 → xA y s_2 b_3 9 v2 (fun x_10 : Int32 => wj_Mo_name_57 y Post a0 s_2 v2 v3 v4 v5 b_3 v4 x_10)) ∧ (v3 = 0 → xA y s_2 b_3 8 v2 (fun x_11 : Int32 => wj_Mo_name_57 y Post a0 s_2 v2 v3 v4 v5 b_3 v4 x_11))))) ∧ (¬ ((-1) ≤ v4) → wj_Mo_name_24 y Post a0 s_2))))))))) σ a0 v1 v2
set_option maxHeartbeats 4000000 in
set_option maxRecDepth 100000 in
theorem cu_Mo_name (l : Launch) (D : va_G) (g : Nat → ClassId) (ad : Nat → Nat) (y : Ly) (Post : St → Int32 → Prop) (σ : St) (a0 : Nat) (v1 : Int32) (v2 : Int32) (v3 : Int32) (v4 : Int32) (v5 : Int32) (sz : Nat) (h_a0 : cl a0 = 14) (h : wu_Mo_name y Post σ a0 v1 v2 v3 v4 v5) : Met l y_Mo_name (mw y_Mo_name b_Mo_name 8 (some .int)) ru_Mo_name (PC g D [] [.ref (ad a0), .int v1, .int v2, .int v3, .int v4, .int v5] sz (ws g ad y σ)) (va_Qi (fun (r : Int32) (u : St) => Post u r) (QW D (va_A (ws g ad y σ) sz) (fun u => ws g ad y u)) (va_A (ws g ad y σ) sz)) 0 0 (va_A (ws g ad y σ) sz) := by
  refine ofI (by decide +kernel) (Nat.le_of_ble_eq_true rfl) ?_
  intro p e s m args below meth c A Q ls H locs G hsz hP hD hS hl hret
  subst hsz
  have hl : lv_has ls 8 [(0, .ref (ad a0)), (1, .int v1), (2, .int v2), (3, .int v3), (4, .int v4), (5, .int v5)] := hl
  unfold wu_Mo_name at h
  refine lv_aload_n G.1 G.2.1 d_Mo_name_0 rfl (lv_at hl 0 rfl) ?_
  refine lv_iload_n G.1 G.2.1 d_Mo_name_1 rfl (lv_at hl 1 rfl) ?_
  refine lv_iload_n G.1 G.2.1 d_Mo_name_2 rfl (lv_at hl 2 rfl) ?_
  refine ucVi (As := [.int v1, .int v2]) (rest := []) G hP hD hS (cu_Mo_isClass l D g ad y _ σ a0 v1 v2 H.size h_a0 h) w9_Mo_isClass q3661 ⟨Nat.le_of_ble_eq_true rfl, Nat.le_of_ble_eq_true rfl⟩ rfl rfl h_a0 (q := (RMo, TMo, 131)) rfl rfl hl.1 rfl (Nat.le_of_ble_eq_true rfl) rfl ⟨Nat.le_refl _, Nat.le_refl _⟩ d_Mo_name_3 (fun r_1 s_2 H locs h hP hD hS => ?_)
  have J_24 : ∀ (s_j24 : St) (H : Heap) (locs : List Loc), wj_Mo_name_24 y Post a0 s_j24 → va_P D CL (ws g ad y s_j24) H → va_D A (ws g ad y s_j24) → va_S A s.heap H locs → ∀ ls, lv_has ls 8 [] → W p l e ru_Mo_name s m args below meth c H locs 0 0 Q (F0 m 24 ls []) := by
    intro s_j24 H locs h hP hD hS ls hl
    unfold wj_Mo_name_24 at h
    refine lv_iconst (v := (-1)) G.1 G.2.1 d_Mo_name_24 (by decide) ?_
    exact hret _ _ _ _ _ _ _ ls h hP hD hS (Nat.le_refl _) (Nat.le_refl _) d_Mo_name_25
  refine lv_if_eq (tgt := 24) G.1 G.2.1 d_Mo_name_6 (by decide) (fun c6 => ?_) (fun c6 => ?_)
  · skip
    have h := h.1 c6
    exact J_24 s_2 H locs h hP hD hS ls (lv_sub hl [] rfl)
  · skip
    have h := h.2 c6
    refine lv_iload_n G.1 G.2.1 d_Mo_name_9 rfl (lv_at hl 3 rfl) ?_
    refine lv_if_lt (tgt := 24) G.1 G.2.1 d_Mo_name_10 (by decide) (fun c10 => ?_) (fun c10 => ?_)
    · skip
      have h := h.1 c10
      exact J_24 s_2 H locs h hP hD hS ls (lv_sub hl [] rfl)
    · skip
      have h := h.2 c10
      refine lv_iload_n G.1 G.2.1 d_Mo_name_13 rfl (lv_at hl 3 rfl) ?_
      refine lv_iconst (v := 1) G.1 G.2.1 d_Mo_name_14 (by decide) ?_
      refine lv_icmp_gt (tgt := 24) G.1 G.2.1 d_Mo_name_15 (by decide) (fun c15 => ?_) (fun c15 => ?_)
      · skip
        have h := h.1 c15
        exact J_24 s_2 H locs h hP hD hS ls (lv_sub hl [] rfl)
      · skip
        have h := h.2 c15
        refine lv_iload G.1 G.2.1 d_Mo_name_18 (lv_at hl 4 rfl) ?_
        refine W.eq (g2 := F0 m 20 ls [.int v4]) rfl ?_
        refine lv_iconst (v := (-1)) G.1 G.2.1 d_Mo_name_20 (by decide) ?_
        refine lv_icmp_ge (tgt := 26) G.1 G.2.1 d_Mo_name_21 (by decide) (fun c21 => ?_) (fun c21 => ?_)
        · skip
          have h := h.1 c21
          refine lv_aload_n G.1 G.2.1 d_Mo_name_26 rfl (lv_at hl 0 rfl) ?_
          refine ugf (v := .ref (yP y a0 44)) G hP h_a0 iMo rfl 44 (by decide) rfl q3108 rfl rfl d_Mo_name_27 ?_
          refine lv_iload_n G.1 G.2.1 d_Mo_name_30 rfl (lv_at hl 1 rfl) ?_
          refine uqald G hP (kdp h_a0 rfl) (typ h_a0 rfl) rfl h d_Mo_name_31 (fun b_3 n_4 h => ?_)
          refine lv_astore (lv' := [(6, .ref (ad b_3)), (0, .ref (ad a0)), (1, .int v1), (2, .int v2), (3, .int v3), (4, .int v4), (5, .int v5)]) G.1 G.2.1 d_Mo_name_32 hl (by decide) rfl (fun ls hl => ?_)
          refine lv_iload G.1 G.2.1 d_Mo_name_34 (lv_at hl 5 rfl) ?_
          refine lv_iload_n G.1 G.2.1 d_Mo_name_36 rfl (lv_at hl 4 rfl) ?_
          have J_57 : ∀ (s_j57 : St) (x2j57 : Int32) (x3j57 : Int32) (x4j57 : Int32) (x5j57 : Int32) (x6j57 : Nat) (z0j57 : Int32) (z1j57 : Int32) (H : Heap) (locs : List Loc), wj_Mo_name_57 y Post a0 s_j57 x2j57 x3j57 x4j57 x5j57 x6j57 z0j57 z1j57 → va_P D CL (ws g ad y s_j57) H → va_D A (ws g ad y s_j57) → va_S A s.heap H locs → ∀ ls, lv_has ls 8 [(0, .ref (ad a0)), (2, .int x2j57), (3, .int x3j57), (4, .int x4j57), (5, .int x5j57), (6, .ref (ad x6j57))] → W p l e ru_Mo_name s m args below meth c H locs 0 0 Q (F0 m 57 ls [.int z1j57, .int z0j57]) := by
            intro s_j57 x2j57 x3j57 x4j57 x5j57 x6j57 z0j57 z1j57 H locs h hP hD hS ls hl
            unfold wj_Mo_name_57 at h
            obtain ⟨c_x6j57, h⟩ := h
            refine lv_icmp_lt (tgt := 62) G.1 G.2.1 d_Mo_name_57 (by decide) (fun c57 => ?_) (fun c57 => ?_)
            · skip
              have h := h.1 c57
              refine lv_iload G.1 G.2.1 d_Mo_name_62 (lv_at hl 3 rfl) ?_
              have J_110 : ∀ (s_j110 : St) (x5j110 : Int32) (z0j110 : Int32) (H : Heap) (locs : List Loc), wj_Mo_name_110 y Post a0 s_j110 x5j110 z0j110 → va_P D CL (ws g ad y s_j110) H → va_D A (ws g ad y s_j110) → va_S A s.heap H locs → ∀ ls, lv_has ls 8 [(0, .ref (ad a0)), (5, .int x5j110)] → W p l e ru_Mo_name s m args below meth c H locs 0 0 Q (F0 m 110 ls [.int z0j110]) := by
                intro s_j110 x5j110 z0j110 H locs h hP hD hS ls hl
                unfold wj_Mo_name_110 at h
                refine lv_istore (lv' := [(7, .int z0j110), (0, .ref (ad a0)), (5, .int x5j110)]) G.1 G.2.1 d_Mo_name_110 hl (by decide) rfl (fun ls hl => ?_)
                refine lv_iload G.1 G.2.1 d_Mo_name_112 (lv_at hl 2 rfl) ?_
                have J_146 : ∀ (s_j146 : St) (z0j146 : Int32) (H : Heap) (locs : List Loc), wj_Mo_name_146 y Post a0 s_j146 z0j146 → va_P D CL (ws g ad y s_j146) H → va_D A (ws g ad y s_j146) → va_S A s.heap H locs → ∀ ls, lv_has ls 8 [] → W p l e ru_Mo_name s m args below meth c H locs 0 0 Q (F0 m 146 ls [.int z0j146]) := by
                  intro s_j146 z0j146 H locs h hP hD hS ls hl
                  unfold wj_Mo_name_146 at h
                  exact hret _ _ _ _ _ _ _ ls h hP hD hS (Nat.le_refl _) (Nat.le_refl _) d_Mo_name_146
                have J_129 : ∀ (s_j129 : St) (H : Heap) (locs : List Loc), wj_Mo_name_129 y Post a0 s_j129 → va_P D CL (ws g ad y s_j129) H → va_D A (ws g ad y s_j129) → va_S A s.heap H locs → ∀ ls, lv_has ls 8 [] → W p l e ru_Mo_name s m args below meth c H locs 0 0 Q (F0 m 129 ls []) := by
                  intro s_j129 H locs h hP hD hS ls hl
                  unfold wj_Mo_name_129 at h
                  refine lv_iconst (v := (-1)) G.1 G.2.1 d_Mo_name_129 (by decide) ?_
                  refine lv_goto (tgt := 146) G.1 G.2.1 d_Mo_name_130 (by decide) ?_
                  exact J_146 s_j129 (-1) H locs h hP hD hS ls (lv_sub hl [] rfl)
                refine lv_if_lt (tgt := 129) G.1 G.2.1 d_Mo_name_114 (by decide) (fun c114 => ?_) (fun c114 => ?_)
                · skip
                  have h := h.1 c114
                  exact J_129 s_j110 H locs h hP hD hS ls (lv_sub hl [] rfl)
                · skip
                  have h := h.2 c114
                  refine lv_iload G.1 G.2.1 d_Mo_name_117 (lv_at hl 2 rfl) ?_
                  refine lv_aload_n G.1 G.2.1 d_Mo_name_119 rfl (lv_at hl 1 rfl) ?_
                  refine ugf (v := .ref (yP y a0 1)) G hP h_a0 iMo rfl 1 (by decide) rfl q3065 rfl rfl d_Mo_name_120 ?_
                  refine lv_iload G.1 G.2.1 d_Mo_name_123 (lv_at hl 0 rfl) ?_
                  refine ubald G hP (kdp h_a0 rfl) (typ h_a0 rfl) h d_Mo_name_125 (fun x_5 h => ?_)
                  refine lv_icmp_lt (tgt := 133) G.1 G.2.1 d_Mo_name_126 (by decide) (fun c126 => ?_) (fun c126 => ?_)
                  · skip
                    have h := h.1 c126
                    refine lv_aload_n G.1 G.2.1 d_Mo_name_133 rfl (lv_at hl 1 rfl) ?_
                    refine ugf (v := .ref (yP y a0 0)) G hP h_a0 iMo rfl 0 (by decide) rfl q3064 rfl rfl d_Mo_name_134 ?_
                    refine W.eq (g2 := F0 m 137 ls [.ref (yP y a0 0)]) rfl ?_
                    refine lv_bipush (v := 12) G.1 G.2.1 d_Mo_name_137 (by decide) ?_
                    refine lv_iload G.1 G.2.1 d_Mo_name_139 (lv_at hl 0 rfl) ?_
                    refine lv_imul G.1 G.2.1 d_Mo_name_141 ?_
                    refine lv_iload G.1 G.2.1 d_Mo_name_142 (lv_at hl 2 rfl) ?_
                    refine lv_iadd G.1 G.2.1 d_Mo_name_144 ?_
                    refine ubald G hP (kdp h_a0 rfl) (typ h_a0 rfl) h d_Mo_name_145 (fun x_6 h => ?_)
                    exact J_146 s_j110 x_6 H locs h hP hD hS ls (lv_sub hl [] rfl)
                  · skip
                    have h := h.2 c126
                    exact J_129 s_j110 H locs h hP hD hS ls (lv_sub hl [] rfl)
              refine lv_if_ge (tgt := 77) G.1 G.2.1 d_Mo_name_64 (by decide) (fun c64 => ?_) (fun c64 => ?_)
              · skip
                have h := h.1 c64
                refine lv_iload_n G.1 G.2.1 d_Mo_name_77 rfl (lv_at hl 2 rfl) ?_
                refine lv_if_ne (tgt := 97) G.1 G.2.1 d_Mo_name_78 (by decide) (fun c78 => ?_) (fun c78 => ?_)
                · skip
                  have h := h.1 c78
                  refine lv_aload G.1 G.2.1 d_Mo_name_97 (lv_at hl 5 rfl) ?_
                  refine ugfN (v := .ref (yP y x6j57 18)) G hP c_x6j57 iMw rfl 18 (by decide) rfl q2740 rfl rfl d_Mo_name_99 ?_
                  refine lv_bipush (v := 12) G.1 G.2.1 d_Mo_name_102 (by decide) ?_
                  refine lv_iload_n G.1 G.2.1 d_Mo_name_104 rfl (lv_at hl 1 rfl) ?_
                  refine lv_imul G.1 G.2.1 d_Mo_name_105 ?_
                  refine lv_iload G.1 G.2.1 d_Mo_name_106 (lv_at hl 3 rfl) ?_
                  refine W.eq (g2 := F0 m 108 ls [.int x4j57, .int (12 * x2j57), .ref (yP y x6j57 18)]) rfl ?_
                  refine lv_iadd G.1 G.2.1 d_Mo_name_108 ?_
                  refine uiald G hP (kdp c_x6j57 rfl) (typ c_x6j57 rfl) h d_Mo_name_109 (fun x_7 h => ?_)
                  exact J_110 s_j57 x5j57 x_7 H locs h hP hD hS ls (lv_sub hl [0, 4] rfl)
                · skip
                  have h := h.2 c78
                  refine lv_aload G.1 G.2.1 d_Mo_name_81 (lv_at hl 5 rfl) ?_
                  refine ugfN (v := .ref (yP y x6j57 12)) G hP c_x6j57 iMw rfl 12 (by decide) rfl q2728 rfl rfl d_Mo_name_83 ?_
                  refine lv_bipush (v := 8) G.1 G.2.1 d_Mo_name_86 (by decide) ?_
                  refine lv_iload_n G.1 G.2.1 d_Mo_name_88 rfl (lv_at hl 1 rfl) ?_
                  refine lv_imul G.1 G.2.1 d_Mo_name_89 ?_
                  refine lv_iload G.1 G.2.1 d_Mo_name_90 (lv_at hl 3 rfl) ?_
                  refine W.eq (g2 := F0 m 92 ls [.int x4j57, .int (8 * x2j57), .ref (yP y x6j57 12)]) rfl ?_
                  refine lv_iadd G.1 G.2.1 d_Mo_name_92 ?_
                  refine uiald G hP (kdp c_x6j57 rfl) (typ c_x6j57 rfl) h d_Mo_name_93 (fun x_8 h => ?_)
                  refine lv_goto (tgt := 110) G.1 G.2.1 d_Mo_name_94 (by decide) ?_
                  exact J_110 s_j57 x5j57 x_8 H locs h hP hD hS ls (lv_sub hl [0, 4] rfl)
              · skip
                have h := h.2 c64
                refine lv_aload G.1 G.2.1 d_Mo_name_67 (lv_at hl 5 rfl) ?_
                refine ugfN (v := .ref (yP y x6j57 3)) G hP c_x6j57 iMw rfl 3 (by decide) rfl q2710 rfl rfl d_Mo_name_69 ?_
                refine lv_iload_n G.1 G.2.1 d_Mo_name_72 rfl (lv_at hl 1 rfl) ?_
                refine uiald G hP (kdp c_x6j57 rfl) (typ c_x6j57 rfl) h d_Mo_name_73 (fun x_9 h => ?_)
                refine lv_goto (tgt := 110) G.1 G.2.1 d_Mo_name_74 (by decide) ?_
                exact J_110 s_j57 x5j57 x_9 H locs h hP hD hS ls (lv_sub hl [0, 4] rfl)
            · skip
              have h := h.2 c57
              refine lv_iconst (v := (-1)) G.1 G.2.1 d_Mo_name_60 (by decide) ?_
              exact hret _ _ _ _ _ _ _ ls h hP hD hS (Nat.le_refl _) (Nat.le_refl _) d_Mo_name_61
          refine lv_if_ne (tgt := 50) G.1 G.2.1 d_Mo_name_37 (by decide) (fun c37 => ?_) (fun c37 => ?_)
          · skip
            have h := h.1 c37
            refine lv_aload G.1 G.2.1 d_Mo_name_50 (lv_at hl 0 rfl) ?_
            refine ugfN (v := .ref (yP y b_3 9)) G hP (oa_14 h_a0 n_4) iMw rfl 9 (by decide) rfl q2722 rfl rfl d_Mo_name_52 ?_
            refine W.eq (g2 := F0 m 55 ls [.ref (yP y b_3 9), .int v4]) rfl ?_
            refine lv_iload_n G.1 G.2.1 d_Mo_name_55 rfl (lv_at hl 3 rfl) ?_
            refine uiald G hP (kdp (oa_14 h_a0 n_4) rfl) (typ (oa_14 h_a0 n_4) rfl) h d_Mo_name_56 (fun x_10 h => ?_)
            exact J_57 s_2 v2 v3 v4 v5 b_3 v4 x_10 H locs h hP hD hS ls (lv_sub hl [1, 3, 4, 5, 6, 0] rfl)
          · skip
            have h := h.2 c37
            refine lv_aload G.1 G.2.1 d_Mo_name_40 (lv_at hl 0 rfl) ?_
            refine ugfN (v := .ref (yP y b_3 8)) G hP (oa_14 h_a0 n_4) iMw rfl 8 (by decide) rfl q2720 rfl rfl d_Mo_name_42 ?_
            refine W.eq (g2 := F0 m 45 ls [.ref (yP y b_3 8), .int v4]) rfl ?_
            refine lv_iload_n G.1 G.2.1 d_Mo_name_45 rfl (lv_at hl 3 rfl) ?_
            refine uiald G hP (kdp (oa_14 h_a0 n_4) rfl) (typ (oa_14 h_a0 n_4) rfl) h d_Mo_name_46 (fun x_11 h => ?_)
            refine lv_goto (tgt := 57) G.1 G.2.1 d_Mo_name_47 (by decide) ?_
            exact J_57 s_2 v2 v3 v4 v5 b_3 v4 x_11 H locs h hP hD hS ls (lv_sub hl [1, 3, 4, 5, 6, 0] rfl)
        · skip
          have h := h.2 c21
          exact J_24 s_2 H locs h hP hD hS ls (lv_sub hl [] rfl)
def y_Mo_member : MethodName := ⟨"ClassWorksModel", "member", "(IIII)I"⟩
abbrev b_Mo_member : ByteArray := prog_14_method_136_code
theorem q2732 : Cond.fieldLinkNest "ClassWorksModel" 627 "ClassWorksModel$World" "fieldFlags" "[I" "ClassWorksModel" ∈ lw_nest := lw_nestmem (List.mem_of_getElem? (i := 2732) (by decide +kernel)) rfl
theorem q2730 : Cond.fieldLinkNest "ClassWorksModel" 624 "ClassWorksModel$World" "fieldTypes" "[I" "ClassWorksModel" ∈ lw_nest := lw_nestmem (List.mem_of_getElem? (i := 2730) (by decide +kernel)) rfl
theorem d_Mo_member_0 : decode b_Mo_member 0 = .ok (.aload_n 0, 1) := by decide +kernel
theorem d_Mo_member_1 : decode b_Mo_member 1 = .ok (.iload_n 1, 1) := by decide +kernel
theorem d_Mo_member_2 : decode b_Mo_member 2 = .ok (.iload_n 2, 1) := by decide +kernel
theorem d_Mo_member_3 : decode b_Mo_member 3 = .ok (.invokevirtual 1129, 3) := by decide +kernel
theorem d_Mo_member_6 : decode b_Mo_member 6 = .ok (.ifCond .eq 19, 3) := by decide +kernel
theorem d_Mo_member_9 : decode b_Mo_member 9 = .ok (.iload 4, 2) := by decide +kernel
theorem d_Mo_member_11 : decode b_Mo_member 11 = .ok (.ifCond .lt 14, 3) := by decide +kernel
theorem d_Mo_member_14 : decode b_Mo_member 14 = .ok (.iload 4, 2) := by decide +kernel
theorem d_Mo_member_16 : decode b_Mo_member 16 = .ok (.bipush 6, 2) := by decide +kernel
theorem d_Mo_member_18 : decode b_Mo_member 18 = .ok (.if_icmp .gt 7, 3) := by decide +kernel
theorem d_Mo_member_21 : decode b_Mo_member 21 = .ok (.iload_n 3, 1) := by decide +kernel
theorem d_Mo_member_22 : decode b_Mo_member 22 = .ok (.ifCond .ge 5, 3) := by decide +kernel
theorem d_Mo_member_25 : decode b_Mo_member 25 = .ok (.iconst (-1), 1) := by decide +kernel
theorem d_Mo_member_26 : decode b_Mo_member 26 = .ok (.ireturn, 1) := by decide +kernel
theorem d_Mo_member_27 : decode b_Mo_member 27 = .ok (.aload_n 0, 1) := by decide +kernel
theorem d_Mo_member_28 : decode b_Mo_member 28 = .ok (.getfield 263, 3) := by decide +kernel
theorem d_Mo_member_31 : decode b_Mo_member 31 = .ok (.iload_n 1, 1) := by decide +kernel
theorem d_Mo_member_32 : decode b_Mo_member 32 = .ok (.aaload, 1) := by decide +kernel
theorem d_Mo_member_33 : decode b_Mo_member 33 = .ok (.astore 5, 2) := by decide +kernel
theorem d_Mo_member_35 : decode b_Mo_member 35 = .ok (.iload_n 3, 1) := by decide +kernel
theorem d_Mo_member_36 : decode b_Mo_member 36 = .ok (.iload 4, 2) := by decide +kernel
theorem d_Mo_member_38 : decode b_Mo_member 38 = .ok (.iconst 5, 1) := by decide +kernel
theorem d_Mo_member_39 : decode b_Mo_member 39 = .ok (.if_icmp .ge 13, 3) := by decide +kernel
theorem d_Mo_member_42 : decode b_Mo_member 42 = .ok (.aload 5, 2) := by decide +kernel
theorem d_Mo_member_44 : decode b_Mo_member 44 = .ok (.getfield 438, 3) := by decide +kernel
theorem d_Mo_member_47 : decode b_Mo_member 47 = .ok (.iload_n 2, 1) := by decide +kernel
theorem d_Mo_member_48 : decode b_Mo_member 48 = .ok (.iaload, 1) := by decide +kernel
theorem d_Mo_member_49 : decode b_Mo_member 49 = .ok (.goto 10, 3) := by decide +kernel
theorem d_Mo_member_52 : decode b_Mo_member 52 = .ok (.aload 5, 2) := by decide +kernel
theorem d_Mo_member_54 : decode b_Mo_member 54 = .ok (.getfield 435, 3) := by decide +kernel
theorem d_Mo_member_57 : decode b_Mo_member 57 = .ok (.iload_n 2, 1) := by decide +kernel
theorem d_Mo_member_58 : decode b_Mo_member 58 = .ok (.iaload, 1) := by decide +kernel
theorem d_Mo_member_59 : decode b_Mo_member 59 = .ok (.if_icmp .lt 5, 3) := by decide +kernel
theorem d_Mo_member_62 : decode b_Mo_member 62 = .ok (.iconst (-1), 1) := by decide +kernel
theorem d_Mo_member_63 : decode b_Mo_member 63 = .ok (.ireturn, 1) := by decide +kernel
theorem d_Mo_member_64 : decode b_Mo_member 64 = .ok (.bipush 12, 2) := by decide +kernel
theorem d_Mo_member_66 : decode b_Mo_member 66 = .ok (.iload_n 2, 1) := by decide +kernel
theorem d_Mo_member_67 : decode b_Mo_member 67 = .ok (.imul, 1) := by decide +kernel
theorem d_Mo_member_68 : decode b_Mo_member 68 = .ok (.iload_n 3, 1) := by decide +kernel
theorem d_Mo_member_69 : decode b_Mo_member 69 = .ok (.iadd, 1) := by decide +kernel
theorem d_Mo_member_70 : decode b_Mo_member 70 = .ok (.istore 6, 2) := by decide +kernel
theorem d_Mo_member_72 : decode b_Mo_member 72 = .ok (.bipush 8, 2) := by decide +kernel
theorem d_Mo_member_74 : decode b_Mo_member 74 = .ok (.iload_n 2, 1) := by decide +kernel
theorem d_Mo_member_75 : decode b_Mo_member 75 = .ok (.imul, 1) := by decide +kernel
theorem d_Mo_member_76 : decode b_Mo_member 76 = .ok (.iload_n 3, 1) := by decide +kernel
theorem d_Mo_member_77 : decode b_Mo_member 77 = .ok (.iadd, 1) := by decide +kernel
theorem d_Mo_member_78 : decode b_Mo_member 78 = .ok (.istore 7, 2) := by decide +kernel
theorem d_Mo_member_80 : decode b_Mo_member 80 = .ok (.iload 4, 2) := by decide +kernel
theorem d_Mo_member_82 : decode b_Mo_member 82 = .ok (.tableswitch 97 0 5 #[38, 47, 61, 70, 79, 88], 38) := by decide +kernel
theorem d_Mo_member_120 : decode b_Mo_member 120 = .ok (.aload 5, 2) := by decide +kernel
theorem d_Mo_member_122 : decode b_Mo_member 122 = .ok (.getfield 453, 3) := by decide +kernel
theorem d_Mo_member_125 : decode b_Mo_member 125 = .ok (.iload 6, 2) := by decide +kernel
theorem d_Mo_member_127 : decode b_Mo_member 127 = .ok (.iaload, 1) := by decide +kernel
theorem d_Mo_member_128 : decode b_Mo_member 128 = .ok (.ireturn, 1) := by decide +kernel
theorem d_Mo_member_129 : decode b_Mo_member 129 = .ok (.aload_n 0, 1) := by decide +kernel
theorem d_Mo_member_130 : decode b_Mo_member 130 = .ok (.getfield 80, 3) := by decide +kernel
theorem d_Mo_member_133 : decode b_Mo_member 133 = .ok (.aload 5, 2) := by decide +kernel
theorem d_Mo_member_135 : decode b_Mo_member 135 = .ok (.getfield 450, 3) := by decide +kernel
theorem d_Mo_member_138 : decode b_Mo_member 138 = .ok (.iload 6, 2) := by decide +kernel
theorem d_Mo_member_140 : decode b_Mo_member 140 = .ok (.iaload, 1) := by decide +kernel
theorem d_Mo_member_141 : decode b_Mo_member 141 = .ok (.iaload, 1) := by decide +kernel
theorem d_Mo_member_142 : decode b_Mo_member 142 = .ok (.ireturn, 1) := by decide +kernel
theorem d_Mo_member_143 : decode b_Mo_member 143 = .ok (.aload 5, 2) := by decide +kernel
theorem d_Mo_member_145 : decode b_Mo_member 145 = .ok (.getfield 456, 3) := by decide +kernel
theorem d_Mo_member_148 : decode b_Mo_member 148 = .ok (.iload 6, 2) := by decide +kernel
theorem d_Mo_member_150 : decode b_Mo_member 150 = .ok (.iaload, 1) := by decide +kernel
theorem d_Mo_member_151 : decode b_Mo_member 151 = .ok (.ireturn, 1) := by decide +kernel
theorem d_Mo_member_152 : decode b_Mo_member 152 = .ok (.aload 5, 2) := by decide +kernel
theorem d_Mo_member_154 : decode b_Mo_member 154 = .ok (.getfield 459, 3) := by decide +kernel
theorem d_Mo_member_157 : decode b_Mo_member 157 = .ok (.iload 6, 2) := by decide +kernel
theorem d_Mo_member_159 : decode b_Mo_member 159 = .ok (.iaload, 1) := by decide +kernel
theorem d_Mo_member_160 : decode b_Mo_member 160 = .ok (.ireturn, 1) := by decide +kernel
theorem d_Mo_member_161 : decode b_Mo_member 161 = .ok (.aload 5, 2) := by decide +kernel
theorem d_Mo_member_163 : decode b_Mo_member 163 = .ok (.getfield 465, 3) := by decide +kernel
theorem d_Mo_member_166 : decode b_Mo_member 166 = .ok (.iload 6, 2) := by decide +kernel
theorem d_Mo_member_168 : decode b_Mo_member 168 = .ok (.iaload, 1) := by decide +kernel
theorem d_Mo_member_169 : decode b_Mo_member 169 = .ok (.ireturn, 1) := by decide +kernel
theorem d_Mo_member_170 : decode b_Mo_member 170 = .ok (.aload 5, 2) := by decide +kernel
theorem d_Mo_member_172 : decode b_Mo_member 172 = .ok (.getfield 627, 3) := by decide +kernel
theorem d_Mo_member_175 : decode b_Mo_member 175 = .ok (.iload 7, 2) := by decide +kernel
theorem d_Mo_member_177 : decode b_Mo_member 177 = .ok (.iaload, 1) := by decide +kernel
theorem d_Mo_member_178 : decode b_Mo_member 178 = .ok (.ireturn, 1) := by decide +kernel
theorem d_Mo_member_179 : decode b_Mo_member 179 = .ok (.aload 5, 2) := by decide +kernel
theorem d_Mo_member_181 : decode b_Mo_member 181 = .ok (.getfield 624, 3) := by decide +kernel
theorem d_Mo_member_184 : decode b_Mo_member 184 = .ok (.iload 7, 2) := by decide +kernel
theorem d_Mo_member_186 : decode b_Mo_member 186 = .ok (.iaload, 1) := by decide +kernel
theorem d_Mo_member_187 : decode b_Mo_member 187 = .ok (.iconst 1, 1) := by decide +kernel
theorem d_Mo_member_188 : decode b_Mo_member 188 = .ok (.if_icmp .ne 7, 3) := by decide +kernel
theorem d_Mo_member_191 : decode b_Mo_member 191 = .ok (.iconst 0, 1) := by decide +kernel
theorem d_Mo_member_192 : decode b_Mo_member 192 = .ok (.goto 20, 3) := by decide +kernel
theorem d_Mo_member_195 : decode b_Mo_member 195 = .ok (.aload 5, 2) := by decide +kernel
theorem d_Mo_member_197 : decode b_Mo_member 197 = .ok (.getfield 624, 3) := by decide +kernel
theorem d_Mo_member_200 : decode b_Mo_member 200 = .ok (.iload 7, 2) := by decide +kernel
theorem d_Mo_member_202 : decode b_Mo_member 202 = .ok (.iaload, 1) := by decide +kernel
theorem d_Mo_member_203 : decode b_Mo_member 203 = .ok (.iconst 2, 1) := by decide +kernel
theorem d_Mo_member_204 : decode b_Mo_member 204 = .ok (.if_icmp .ne 7, 3) := by decide +kernel
theorem d_Mo_member_207 : decode b_Mo_member 207 = .ok (.iconst 1, 1) := by decide +kernel
theorem d_Mo_member_208 : decode b_Mo_member 208 = .ok (.goto 4, 3) := by decide +kernel
theorem d_Mo_member_211 : decode b_Mo_member 211 = .ok (.iconst 2, 1) := by decide +kernel
theorem d_Mo_member_212 : decode b_Mo_member 212 = .ok (.ireturn, 1) := by decide +kernel
abbrev ru_Mo_member : Room := { frames := 2, cells := 0, slots := 0, locals := 43 }
def wj_Mo_member_25 (y : Ly) (Post : St → Int32 → Prop) (a0 : Nat) (s_j25 : St) : Prop := Post s_j25 (-1)
def wj_Mo_member_212 (y : Ly) (Post : St → Int32 → Prop) (a0 : Nat) (s_j212 : St) (z0j212 : Int32) : Prop := Post s_j212 z0j212
def wj_Mo_member_59 (y : Ly) (Post : St → Int32 → Prop) (a0 : Nat) (s_j59 : St) (x2j59 : Int32) (x3j59 : Int32) (x4j59 : Int32) (x5j59 : Nat) (z0j59 : Int32) (z1j59 : Int32) : Prop := cl x5j59 = 13 ∧ ((z0j59 < z1j59 → ((x4j59 = 0 → xA y s_j59 x5j59 20 ((12 * x2j59) + x3j59) (fun x_5 : Int32 => Post s_j59 x_5)) ∧ (¬ (x4j59 = 0) → ((x4j59 = 1 → xA y s_j59 x5j59 19 ((12 * x2j59) + x3j59) (fun x_6 : Int32 => xA y s_j59 a0 31 x_6 (fun x_7 : Int32 => Post s_j59 x_7))) ∧ (¬ (x4j59 = 1) → ((x4j59 = 2 → xA y s_j59 x5j59 21 ((12 * x2j59) + x3j59) (fun x_8 : Int32 => Post s_j59 x_8)) ∧ (¬ (x4j59 = 2) → ((x4j59 = 3 → xA y s_j59 x5j59 22 ((12 * x2j59) + x3j59) (fun x_9 : Int32 => Post s_j59 x_9)) ∧ (¬ (x4j59 = 3) → ((x4j59 = 4 → xA y s_j59 x5j59 24 ((12 * x2j59) + x3j59) (fun x_10 : Int32 => Post s_j59 x_10)) ∧ (¬ (x4j59 = 4) → ((x4j59 = 5 → xA y s_j59 x5j59 14 ((8 * x2j59) + x3j59) (fun x_11 : Int32 => Post s_j59 x_11)) ∧ (¬ (x4j59 = 5) → xA y s_j59 x5j59 13 ((8 * x2j59) + x3j59) (fun x_12 : Int32 => ((¬ x_12 = 1 → xA y s_j59 x5j59 13 ((8 * x2j59) + x3j59) (fun x_13 : Int32 => ((¬ x_13 = 2 → wj_Mo_member_212 y Post a0 s_j59 2) ∧ (x_13 = 2 → wj_Mo_member_212 y Post a0 s_j59 1)))) ∧ (x_12 = 1 → wj_Mo_member_212 y Post a0 s_j59 0)))))))))))))))) ∧ (¬ (z0j59 < z1j59) → Post s_j59 (-1)))
def wu_Mo_member (y : Ly) (Post : St → Int32 → Prop) (σ : St) (a0 : Nat) (v1 : Int32) (v2 : Int32) (v3 : Int32) (v4 : Int32) : Prop := wu_Mo_isClass y (fun (s_2 : St) (r_1 : Int32) => ((r_1 = 0 → wj_Mo_member_25 y Post a0 s_2) ∧ (¬ (r_1 = 0) → ((v4 < 0 → wj_Mo_member_25 y Post a0 s_2) ∧ (¬ (v4 < 0) → ((6 < v4 → wj_Mo_member_25 y Post a0 s_2) ∧ (¬ (6 < v4) → ((0 ≤ v3 → xQ y a0 44 v1 (fun b_3 : Nat => ((5 ≤ v4 → xA y s_2 b_3 8 v2 (fun x_14 : Int32 => wj_Mo_member_59 y Post a0 s_2 v2 v3 v4 b_3 v3 x_14)) ∧ (¬ (5 ≤ v4) → xA y s_2 b_3 9 v2 (fun x_15 : Int32 => wj_Mo_member_59 y Post a0 s_2 v2 v3 v4 b_3 v3 x_15))))) ∧ (¬ (0 ≤ v3) → wj_Mo_member_25 y Post a0 s_2))))))))) σ a0 v1 v2
set_option maxHeartbeats 4000000 in
set_option maxRecDepth 100000 in
theorem cu_Mo_member (l : Launch) (D : va_G) (g : Nat → ClassId) (ad : Nat → Nat) (y : Ly) (Post : St → Int32 → Prop) (σ : St) (a0 : Nat) (v1 : Int32) (v2 : Int32) (v3 : Int32) (v4 : Int32) (sz : Nat) (h_a0 : cl a0 = 14) (h : wu_Mo_member y Post σ a0 v1 v2 v3 v4) : Met l y_Mo_member (mw y_Mo_member b_Mo_member 8 (some .int)) ru_Mo_member (PC g D [] [.ref (ad a0), .int v1, .int v2, .int v3, .int v4] sz (ws g ad y σ)) (va_Qi (fun (r : Int32) (u : St) => Post u r) (QW D (va_A (ws g ad y σ) sz) (fun u => ws g ad y u)) (va_A (ws g ad y σ) sz)) 0 0 (va_A (ws g ad y σ) sz) := by
  refine ofI (by decide +kernel) (Nat.le_of_ble_eq_true rfl) ?_
  intro p e s m args below meth c A Q ls H locs G hsz hP hD hS hl hret
  subst hsz
  have hl : lv_has ls 8 [(0, .ref (ad a0)), (1, .int v1), (2, .int v2), (3, .int v3), (4, .int v4)] := hl
  unfold wu_Mo_member at h
  refine lv_aload_n G.1 G.2.1 d_Mo_member_0 rfl (lv_at hl 0 rfl) ?_
  refine lv_iload_n G.1 G.2.1 d_Mo_member_1 rfl (lv_at hl 1 rfl) ?_
  refine lv_iload_n G.1 G.2.1 d_Mo_member_2 rfl (lv_at hl 2 rfl) ?_
  refine ucVi (As := [.int v1, .int v2]) (rest := []) G hP hD hS (cu_Mo_isClass l D g ad y _ σ a0 v1 v2 H.size h_a0 h) w9_Mo_isClass q3661 ⟨Nat.le_of_ble_eq_true rfl, Nat.le_of_ble_eq_true rfl⟩ rfl rfl h_a0 (q := (RMo, TMo, 131)) rfl rfl hl.1 rfl (Nat.le_of_ble_eq_true rfl) rfl ⟨Nat.le_refl _, Nat.le_refl _⟩ d_Mo_member_3 (fun r_1 s_2 H locs h hP hD hS => ?_)
  have J_25 : ∀ (s_j25 : St) (H : Heap) (locs : List Loc), wj_Mo_member_25 y Post a0 s_j25 → va_P D CL (ws g ad y s_j25) H → va_D A (ws g ad y s_j25) → va_S A s.heap H locs → ∀ ls, lv_has ls 8 [] → W p l e ru_Mo_member s m args below meth c H locs 0 0 Q (F0 m 25 ls []) := by
    intro s_j25 H locs h hP hD hS ls hl
    unfold wj_Mo_member_25 at h
    refine lv_iconst (v := (-1)) G.1 G.2.1 d_Mo_member_25 (by decide) ?_
    exact hret _ _ _ _ _ _ _ ls h hP hD hS (Nat.le_refl _) (Nat.le_refl _) d_Mo_member_26
  refine lv_if_eq (tgt := 25) G.1 G.2.1 d_Mo_member_6 (by decide) (fun c6 => ?_) (fun c6 => ?_)
  · skip
    have h := h.1 c6
    exact J_25 s_2 H locs h hP hD hS ls (lv_sub hl [] rfl)
  · skip
    have h := h.2 c6
    refine lv_iload G.1 G.2.1 d_Mo_member_9 (lv_at hl 4 rfl) ?_
    refine lv_if_lt (tgt := 25) G.1 G.2.1 d_Mo_member_11 (by decide) (fun c11 => ?_) (fun c11 => ?_)
    · skip
      have h := h.1 c11
      exact J_25 s_2 H locs h hP hD hS ls (lv_sub hl [] rfl)
    · skip
      have h := h.2 c11
      refine lv_iload G.1 G.2.1 d_Mo_member_14 (lv_at hl 4 rfl) ?_
      refine lv_bipush (v := 6) G.1 G.2.1 d_Mo_member_16 (by decide) ?_
      refine lv_icmp_gt (tgt := 25) G.1 G.2.1 d_Mo_member_18 (by decide) (fun c18 => ?_) (fun c18 => ?_)
      · skip
        have h := h.1 c18
        exact J_25 s_2 H locs h hP hD hS ls (lv_sub hl [] rfl)
      · skip
        have h := h.2 c18
        refine lv_iload_n G.1 G.2.1 d_Mo_member_21 rfl (lv_at hl 3 rfl) ?_
        refine W.eq (g2 := F0 m 22 ls [.int v3]) rfl ?_
        refine lv_if_ge (tgt := 27) G.1 G.2.1 d_Mo_member_22 (by decide) (fun c22 => ?_) (fun c22 => ?_)
        · skip
          have h := h.1 c22
          refine lv_aload_n G.1 G.2.1 d_Mo_member_27 rfl (lv_at hl 0 rfl) ?_
          refine ugf (v := .ref (yP y a0 44)) G hP h_a0 iMo rfl 44 (by decide) rfl q3108 rfl rfl d_Mo_member_28 ?_
          refine lv_iload_n G.1 G.2.1 d_Mo_member_31 rfl (lv_at hl 1 rfl) ?_
          refine uqald G hP (kdp h_a0 rfl) (typ h_a0 rfl) rfl h d_Mo_member_32 (fun b_3 n_4 h => ?_)
          refine lv_astore (lv' := [(5, .ref (ad b_3)), (0, .ref (ad a0)), (1, .int v1), (2, .int v2), (3, .int v3), (4, .int v4)]) G.1 G.2.1 d_Mo_member_33 hl (by decide) rfl (fun ls hl => ?_)
          refine lv_iload_n G.1 G.2.1 d_Mo_member_35 rfl (lv_at hl 4 rfl) ?_
          refine lv_iload G.1 G.2.1 d_Mo_member_36 (lv_at hl 5 rfl) ?_
          refine lv_iconst (v := 5) G.1 G.2.1 d_Mo_member_38 (by decide) ?_
          have J_59 : ∀ (s_j59 : St) (x2j59 : Int32) (x3j59 : Int32) (x4j59 : Int32) (x5j59 : Nat) (z0j59 : Int32) (z1j59 : Int32) (H : Heap) (locs : List Loc), wj_Mo_member_59 y Post a0 s_j59 x2j59 x3j59 x4j59 x5j59 z0j59 z1j59 → va_P D CL (ws g ad y s_j59) H → va_D A (ws g ad y s_j59) → va_S A s.heap H locs → ∀ ls, lv_has ls 8 [(0, .ref (ad a0)), (2, .int x2j59), (3, .int x3j59), (4, .int x4j59), (5, .ref (ad x5j59))] → W p l e ru_Mo_member s m args below meth c H locs 0 0 Q (F0 m 59 ls [.int z1j59, .int z0j59]) := by
            intro s_j59 x2j59 x3j59 x4j59 x5j59 z0j59 z1j59 H locs h hP hD hS ls hl
            unfold wj_Mo_member_59 at h
            obtain ⟨c_x5j59, h⟩ := h
            refine lv_icmp_lt (tgt := 64) G.1 G.2.1 d_Mo_member_59 (by decide) (fun c59 => ?_) (fun c59 => ?_)
            · skip
              have h := h.1 c59
              refine lv_bipush (v := 12) G.1 G.2.1 d_Mo_member_64 (by decide) ?_
              refine lv_iload_n G.1 G.2.1 d_Mo_member_66 rfl (lv_at hl 1 rfl) ?_
              refine lv_imul G.1 G.2.1 d_Mo_member_67 ?_
              refine lv_iload_n G.1 G.2.1 d_Mo_member_68 rfl (lv_at hl 2 rfl) ?_
              refine lv_iadd G.1 G.2.1 d_Mo_member_69 ?_
              refine lv_istore (lv' := [(6, .int ((12 * x2j59) + x3j59)), (0, .ref (ad a0)), (2, .int x2j59), (3, .int x3j59), (4, .int x4j59), (5, .ref (ad x5j59))]) G.1 G.2.1 d_Mo_member_70 hl (by decide) rfl (fun ls hl => ?_)
              refine lv_bipush (v := 8) G.1 G.2.1 d_Mo_member_72 (by decide) ?_
              refine lv_iload_n G.1 G.2.1 d_Mo_member_74 rfl (lv_at hl 2 rfl) ?_
              refine lv_imul G.1 G.2.1 d_Mo_member_75 ?_
              refine lv_iload_n G.1 G.2.1 d_Mo_member_76 rfl (lv_at hl 3 rfl) ?_
              refine W.eq (g2 := F0 m 77 ls [.int x3j59, .int (8 * x2j59)]) rfl ?_
              refine lv_iadd G.1 G.2.1 d_Mo_member_77 ?_
              refine lv_istore (lv' := [(7, .int ((8 * x2j59) + x3j59)), (6, .int ((12 * x2j59) + x3j59)), (0, .ref (ad a0)), (2, .int x2j59), (3, .int x3j59), (4, .int x4j59), (5, .ref (ad x5j59))]) G.1 G.2.1 d_Mo_member_78 hl (by decide) rfl (fun ls hl => ?_)
              refine lv_iload G.1 G.2.1 d_Mo_member_80 (lv_at hl 5 rfl) ?_
              by_cases e82_0 : x4j59 = 0
              · skip
                have h := h.1 e82_0
                refine lv_tableIn (off := 38) (tgt := 120) G.1 G.2.1 d_Mo_member_82 (by rw [e82_0]; decide) (by rw [e82_0]; decide) (by rw [e82_0]; rfl) (by decide) ?_
                refine lv_aload G.1 G.2.1 d_Mo_member_120 (lv_at hl 6 rfl) ?_
                refine ugfN (v := .ref (yP y x5j59 20)) G hP c_x5j59 iMw rfl 20 (by decide) rfl q2744 rfl rfl d_Mo_member_122 ?_
                refine lv_iload G.1 G.2.1 d_Mo_member_125 (lv_at hl 1 rfl) ?_
                refine uiald G hP (kdp c_x5j59 rfl) (typ c_x5j59 rfl) h d_Mo_member_127 (fun x_5 h => ?_)
                exact hret _ _ _ _ _ _ _ ls h hP hD hS (Nat.le_refl _) (Nat.le_refl _) d_Mo_member_128
              replace h := h.2 e82_0
              by_cases e82_1 : x4j59 = 1
              · skip
                have h := h.1 e82_1
                refine lv_tableIn (off := 47) (tgt := 129) G.1 G.2.1 d_Mo_member_82 (by rw [e82_1]; decide) (by rw [e82_1]; decide) (by rw [e82_1]; rfl) (by decide) ?_
                refine lv_aload_n G.1 G.2.1 d_Mo_member_129 rfl (lv_at hl 2 rfl) ?_
                refine ugf (v := .ref (yP y a0 31)) G hP h_a0 iMo rfl 31 (by decide) rfl q3095 rfl rfl d_Mo_member_130 ?_
                refine lv_aload G.1 G.2.1 d_Mo_member_133 (lv_at hl 6 rfl) ?_
                refine ugfN (v := .ref (yP y x5j59 19)) G hP c_x5j59 iMw rfl 19 (by decide) rfl q2742 rfl rfl d_Mo_member_135 ?_
                refine lv_iload G.1 G.2.1 d_Mo_member_138 (lv_at hl 1 rfl) ?_
                refine uiald G hP (kdp c_x5j59 rfl) (typ c_x5j59 rfl) h d_Mo_member_140 (fun x_6 h => ?_)
                refine uiald G hP (kdp h_a0 rfl) (typ h_a0 rfl) h d_Mo_member_141 (fun x_7 h => ?_)
                exact hret _ _ _ _ _ _ _ ls h hP hD hS (Nat.le_refl _) (Nat.le_refl _) d_Mo_member_142
              replace h := h.2 e82_1
              by_cases e82_2 : x4j59 = 2
              · skip
                have h := h.1 e82_2
                refine lv_tableIn (off := 61) (tgt := 143) G.1 G.2.1 d_Mo_member_82 (by rw [e82_2]; decide) (by rw [e82_2]; decide) (by rw [e82_2]; rfl) (by decide) ?_
                refine lv_aload G.1 G.2.1 d_Mo_member_143 (lv_at hl 6 rfl) ?_
                refine ugfN (v := .ref (yP y x5j59 21)) G hP c_x5j59 iMw rfl 21 (by decide) rfl q2746 rfl rfl d_Mo_member_145 ?_
                refine lv_iload G.1 G.2.1 d_Mo_member_148 (lv_at hl 1 rfl) ?_
                refine uiald G hP (kdp c_x5j59 rfl) (typ c_x5j59 rfl) h d_Mo_member_150 (fun x_8 h => ?_)
                exact hret _ _ _ _ _ _ _ ls h hP hD hS (Nat.le_refl _) (Nat.le_refl _) d_Mo_member_151
              replace h := h.2 e82_2
              by_cases e82_3 : x4j59 = 3
              · skip
                have h := h.1 e82_3
                refine lv_tableIn (off := 70) (tgt := 152) G.1 G.2.1 d_Mo_member_82 (by rw [e82_3]; decide) (by rw [e82_3]; decide) (by rw [e82_3]; rfl) (by decide) ?_
                refine lv_aload G.1 G.2.1 d_Mo_member_152 (lv_at hl 6 rfl) ?_
                refine ugfN (v := .ref (yP y x5j59 22)) G hP c_x5j59 iMw rfl 22 (by decide) rfl q2748 rfl rfl d_Mo_member_154 ?_
                refine lv_iload G.1 G.2.1 d_Mo_member_157 (lv_at hl 1 rfl) ?_
                refine uiald G hP (kdp c_x5j59 rfl) (typ c_x5j59 rfl) h d_Mo_member_159 (fun x_9 h => ?_)
                exact hret _ _ _ _ _ _ _ ls h hP hD hS (Nat.le_refl _) (Nat.le_refl _) d_Mo_member_160
              replace h := h.2 e82_3
              by_cases e82_4 : x4j59 = 4
              · skip
                have h := h.1 e82_4
                refine lv_tableIn (off := 79) (tgt := 161) G.1 G.2.1 d_Mo_member_82 (by rw [e82_4]; decide) (by rw [e82_4]; decide) (by rw [e82_4]; rfl) (by decide) ?_
                refine lv_aload G.1 G.2.1 d_Mo_member_161 (lv_at hl 6 rfl) ?_
                refine ugfN (v := .ref (yP y x5j59 24)) G hP c_x5j59 iMw rfl 24 (by decide) rfl q2752 rfl rfl d_Mo_member_163 ?_
                refine lv_iload G.1 G.2.1 d_Mo_member_166 (lv_at hl 1 rfl) ?_
                refine uiald G hP (kdp c_x5j59 rfl) (typ c_x5j59 rfl) h d_Mo_member_168 (fun x_10 h => ?_)
                exact hret _ _ _ _ _ _ _ ls h hP hD hS (Nat.le_refl _) (Nat.le_refl _) d_Mo_member_169
              replace h := h.2 e82_4
              by_cases e82_5 : x4j59 = 5
              · skip
                have h := h.1 e82_5
                refine lv_tableIn (off := 88) (tgt := 170) G.1 G.2.1 d_Mo_member_82 (by rw [e82_5]; decide) (by rw [e82_5]; decide) (by rw [e82_5]; rfl) (by decide) ?_
                refine lv_aload G.1 G.2.1 d_Mo_member_170 (lv_at hl 6 rfl) ?_
                refine ugfN (v := .ref (yP y x5j59 14)) G hP c_x5j59 iMw rfl 14 (by decide) rfl q2732 rfl rfl d_Mo_member_172 ?_
                refine lv_iload G.1 G.2.1 d_Mo_member_175 (lv_at hl 0 rfl) ?_
                refine uiald G hP (kdp c_x5j59 rfl) (typ c_x5j59 rfl) h d_Mo_member_177 (fun x_11 h => ?_)
                exact hret _ _ _ _ _ _ _ ls h hP hD hS (Nat.le_refl _) (Nat.le_refl _) d_Mo_member_178
              replace h := h.2 e82_5
              have te82_0 := lv_neT (a := 0) e82_0 (by decide)
              have te82_1 := lv_neT (a := 1) e82_1 (by decide)
              have te82_2 := lv_neT (a := 2) e82_2 (by decide)
              have te82_3 := lv_neT (a := 3) e82_3 (by decide)
              have te82_4 := lv_neT (a := 4) e82_4 (by decide)
              have te82_5 := lv_neT (a := 5) e82_5 (by decide)
              refine lv_tableOut (tgt := 179) G.1 G.2.1 d_Mo_member_82 (by omega) (by decide) ?_
              refine lv_aload G.1 G.2.1 d_Mo_member_179 (lv_at hl 6 rfl) ?_
              refine ugfN (v := .ref (yP y x5j59 13)) G hP c_x5j59 iMw rfl 13 (by decide) rfl q2730 rfl rfl d_Mo_member_181 ?_
              refine lv_iload G.1 G.2.1 d_Mo_member_184 (lv_at hl 0 rfl) ?_
              refine uiald G hP (kdp c_x5j59 rfl) (typ c_x5j59 rfl) h d_Mo_member_186 (fun x_12 h => ?_)
              refine lv_iconst (v := 1) G.1 G.2.1 d_Mo_member_187 (by decide) ?_
              have J_212 : ∀ (s_j212 : St) (z0j212 : Int32) (H : Heap) (locs : List Loc), wj_Mo_member_212 y Post a0 s_j212 z0j212 → va_P D CL (ws g ad y s_j212) H → va_D A (ws g ad y s_j212) → va_S A s.heap H locs → ∀ ls, lv_has ls 8 [] → W p l e ru_Mo_member s m args below meth c H locs 0 0 Q (F0 m 212 ls [.int z0j212]) := by
                intro s_j212 z0j212 H locs h hP hD hS ls hl
                unfold wj_Mo_member_212 at h
                exact hret _ _ _ _ _ _ _ ls h hP hD hS (Nat.le_refl _) (Nat.le_refl _) d_Mo_member_212
              refine lv_icmp_ne (tgt := 195) G.1 G.2.1 d_Mo_member_188 (by decide) (fun c188 => ?_) (fun c188 => ?_)
              · skip
                have h := h.1 c188
                refine lv_aload G.1 G.2.1 d_Mo_member_195 (lv_at hl 6 rfl) ?_
                refine ugfN (v := .ref (yP y x5j59 13)) G hP c_x5j59 iMw rfl 13 (by decide) rfl q2730 rfl rfl d_Mo_member_197 ?_
                refine W.eq (g2 := F0 m 200 ls [.ref (yP y x5j59 13)]) rfl ?_
                refine lv_iload G.1 G.2.1 d_Mo_member_200 (lv_at hl 0 rfl) ?_
                refine uiald G hP (kdp c_x5j59 rfl) (typ c_x5j59 rfl) h d_Mo_member_202 (fun x_13 h => ?_)
                refine lv_iconst (v := 2) G.1 G.2.1 d_Mo_member_203 (by decide) ?_
                refine lv_icmp_ne (tgt := 211) G.1 G.2.1 d_Mo_member_204 (by decide) (fun c204 => ?_) (fun c204 => ?_)
                · skip
                  have h := h.1 c204
                  refine lv_iconst (v := 2) G.1 G.2.1 d_Mo_member_211 (by decide) ?_
                  exact J_212 s_j59 2 H locs h hP hD hS ls (lv_sub hl [] rfl)
                · skip
                  have h := h.2 c204
                  refine lv_iconst (v := 1) G.1 G.2.1 d_Mo_member_207 (by decide) ?_
                  refine lv_goto (tgt := 212) G.1 G.2.1 d_Mo_member_208 (by decide) ?_
                  exact J_212 s_j59 1 H locs h hP hD hS ls (lv_sub hl [] rfl)
              · skip
                have h := h.2 c188
                refine lv_iconst (v := 0) G.1 G.2.1 d_Mo_member_191 (by decide) ?_
                refine lv_goto (tgt := 212) G.1 G.2.1 d_Mo_member_192 (by decide) ?_
                exact J_212 s_j59 0 H locs h hP hD hS ls (lv_sub hl [] rfl)
            · skip
              have h := h.2 c59
              refine lv_iconst (v := (-1)) G.1 G.2.1 d_Mo_member_62 (by decide) ?_
              exact hret _ _ _ _ _ _ _ ls h hP hD hS (Nat.le_refl _) (Nat.le_refl _) d_Mo_member_63
          refine lv_icmp_ge (tgt := 52) G.1 G.2.1 d_Mo_member_39 (by decide) (fun c39 => ?_) (fun c39 => ?_)
          · skip
            have h := h.1 c39
            refine lv_aload G.1 G.2.1 d_Mo_member_52 (lv_at hl 0 rfl) ?_
            refine ugfN (v := .ref (yP y b_3 8)) G hP (oa_14 h_a0 n_4) iMw rfl 8 (by decide) rfl q2720 rfl rfl d_Mo_member_54 ?_
            refine W.eq (g2 := F0 m 57 ls [.ref (yP y b_3 8), .int v3]) rfl ?_
            refine lv_iload_n G.1 G.2.1 d_Mo_member_57 rfl (lv_at hl 3 rfl) ?_
            refine uiald G hP (kdp (oa_14 h_a0 n_4) rfl) (typ (oa_14 h_a0 n_4) rfl) h d_Mo_member_58 (fun x_14 h => ?_)
            exact J_59 s_2 v2 v3 v4 b_3 v3 x_14 H locs h hP hD hS ls (lv_sub hl [1, 3, 4, 5, 0] rfl)
          · skip
            have h := h.2 c39
            refine lv_aload G.1 G.2.1 d_Mo_member_42 (lv_at hl 0 rfl) ?_
            refine ugfN (v := .ref (yP y b_3 9)) G hP (oa_14 h_a0 n_4) iMw rfl 9 (by decide) rfl q2722 rfl rfl d_Mo_member_44 ?_
            refine W.eq (g2 := F0 m 47 ls [.ref (yP y b_3 9), .int v3]) rfl ?_
            refine lv_iload_n G.1 G.2.1 d_Mo_member_47 rfl (lv_at hl 3 rfl) ?_
            refine uiald G hP (kdp (oa_14 h_a0 n_4) rfl) (typ (oa_14 h_a0 n_4) rfl) h d_Mo_member_48 (fun x_15 h => ?_)
            refine lv_goto (tgt := 59) G.1 G.2.1 d_Mo_member_49 (by decide) ?_
            exact J_59 s_2 v2 v3 v4 b_3 v3 x_15 H locs h hP hD hS ls (lv_sub hl [1, 3, 4, 5, 0] rfl)
        · skip
          have h := h.2 c22
          exact J_25 s_2 H locs h hP hD hS ls (lv_sub hl [] rfl)
