def y_Wo_init : MethodName := ⟨"ClassWorks$Words", "<init>", "(LClassWorks$Names;)V"⟩
abbrev b_Wo_init : ByteArray := prog_10_method_1_code
theorem q546 : Cond.methodLink "ClassWorks$Words" 3 Lib.objectInit ∈ lw_ok := lw_okmem (List.mem_of_getElem? (i := 546) (by decide +kernel)) rfl
theorem q547 : Cond.fieldLink "ClassWorks$Words" 9 "ClassWorks$Words" "kind" "[I" ∈ lw_ok := lw_okmem (List.mem_of_getElem? (i := 547) (by decide +kernel)) rfl
theorem q549 : Cond.fieldLink "ClassWorks$Words" 15 "ClassWorks$Words" "value" "[I" ∈ lw_ok := lw_okmem (List.mem_of_getElem? (i := 549) (by decide +kernel)) rfl
theorem q551 : Cond.fieldLink "ClassWorks$Words" 18 "ClassWorks$Words" "at" "[I" ∈ lw_ok := lw_okmem (List.mem_of_getElem? (i := 551) (by decide +kernel)) rfl
theorem q553 : Cond.fieldLink "ClassWorks$Words" 21 "ClassWorks$Words" "after" "I" ∈ lw_ok := lw_okmem (List.mem_of_getElem? (i := 553) (by decide +kernel)) rfl
theorem q557 : Cond.fieldLink "ClassWorks$Words" 25 "ClassWorks$Words" "count" "I" ∈ lw_ok := lw_okmem (List.mem_of_getElem? (i := 557) (by decide +kernel)) rfl
theorem q559 : Cond.fieldLink "ClassWorks$Words" 28 "ClassWorks$Words" "end" "I" ∈ lw_ok := lw_okmem (List.mem_of_getElem? (i := 559) (by decide +kernel)) rfl
theorem q556 : Cond.fieldLink "ClassWorks$Words" 31 "ClassWorks$Words" "names" "LClassWorks$Names;" ∈ lw_ok := lw_okmem (List.mem_of_getElem? (i := 556) (by decide +kernel)) rfl
theorem q558 : Cond.fieldLink "ClassWorks$Words" 35 "ClassWorks$Words" "text" "[B" ∈ lw_ok := lw_okmem (List.mem_of_getElem? (i := 558) (by decide +kernel)) rfl
theorem d_Wo_init_0 : decode b_Wo_init 0 = .ok (.aload_n 0, 1) := by decide +kernel
theorem d_Wo_init_1 : decode b_Wo_init 1 = .ok (.invokespecial 3, 3) := by decide +kernel
theorem d_Wo_init_4 : decode b_Wo_init 4 = .ok (.aload_n 0, 1) := by decide +kernel
theorem d_Wo_init_5 : decode b_Wo_init 5 = .ok (.sipush 6002, 3) := by decide +kernel
theorem d_Wo_init_8 : decode b_Wo_init 8 = .ok (.newarray .int, 2) := by decide +kernel
theorem d_Wo_init_10 : decode b_Wo_init 10 = .ok (.putfield 9, 3) := by decide +kernel
theorem d_Wo_init_13 : decode b_Wo_init 13 = .ok (.aload_n 0, 1) := by decide +kernel
theorem d_Wo_init_14 : decode b_Wo_init 14 = .ok (.sipush 6002, 3) := by decide +kernel
theorem d_Wo_init_17 : decode b_Wo_init 17 = .ok (.newarray .int, 2) := by decide +kernel
theorem d_Wo_init_19 : decode b_Wo_init 19 = .ok (.putfield 15, 3) := by decide +kernel
theorem d_Wo_init_22 : decode b_Wo_init 22 = .ok (.aload_n 0, 1) := by decide +kernel
theorem d_Wo_init_23 : decode b_Wo_init 23 = .ok (.sipush 6002, 3) := by decide +kernel
theorem d_Wo_init_26 : decode b_Wo_init 26 = .ok (.newarray .int, 2) := by decide +kernel
theorem d_Wo_init_28 : decode b_Wo_init 28 = .ok (.putfield 18, 3) := by decide +kernel
theorem d_Wo_init_31 : decode b_Wo_init 31 = .ok (.aload_n 0, 1) := by decide +kernel
theorem d_Wo_init_32 : decode b_Wo_init 32 = .ok (.iconst 0, 1) := by decide +kernel
theorem d_Wo_init_33 : decode b_Wo_init 33 = .ok (.putfield 21, 3) := by decide +kernel
theorem d_Wo_init_36 : decode b_Wo_init 36 = .ok (.aload_n 0, 1) := by decide +kernel
theorem d_Wo_init_37 : decode b_Wo_init 37 = .ok (.iconst 0, 1) := by decide +kernel
theorem d_Wo_init_38 : decode b_Wo_init 38 = .ok (.putfield 25, 3) := by decide +kernel
theorem d_Wo_init_41 : decode b_Wo_init 41 = .ok (.aload_n 0, 1) := by decide +kernel
theorem d_Wo_init_42 : decode b_Wo_init 42 = .ok (.iconst 0, 1) := by decide +kernel
theorem d_Wo_init_43 : decode b_Wo_init 43 = .ok (.putfield 28, 3) := by decide +kernel
theorem d_Wo_init_46 : decode b_Wo_init 46 = .ok (.aload_n 0, 1) := by decide +kernel
theorem d_Wo_init_47 : decode b_Wo_init 47 = .ok (.aload_n 1, 1) := by decide +kernel
theorem d_Wo_init_48 : decode b_Wo_init 48 = .ok (.putfield 31, 3) := by decide +kernel
theorem d_Wo_init_51 : decode b_Wo_init 51 = .ok (.aload_n 0, 1) := by decide +kernel
theorem d_Wo_init_52 : decode b_Wo_init 52 = .ok (.iconst 1, 1) := by decide +kernel
theorem d_Wo_init_53 : decode b_Wo_init 53 = .ok (.newarray .byte, 2) := by decide +kernel
theorem d_Wo_init_55 : decode b_Wo_init 55 = .ok (.putfield 35, 3) := by decide +kernel
theorem d_Wo_init_58 : decode b_Wo_init 58 = .ok (.return_, 1) := by decide +kernel
abbrev rm_Wo_init : Room := { frames := 1, cells := 4, slots := 18007, locals := 12 }
set_option maxHeartbeats 4000000 in
set_option maxRecDepth 100000 in
theorem c_Wo_init (l : Launch) (D : va_G) (g : Nat → ClassId) (h0 : Nat) (nm : Nat) (sz : Nat)  : Met l y_Wo_init (mw y_Wo_init b_Wo_init 2 (none)) (rm_Wo_init) (PC g D [] [.ref h0, .ref nm] sz [(h0, .inr (8, [.null, .null, .null, .int (nI 0), .null, .int (nI 0), .null, .int (nI 0)]))]) (va_Qv (fun u : Unit => True) (QW D (va_A [(h0, .inr (8, [.null, .null, .null, .int (nI 0), .null, .int (nI 0), .null, .int (nI 0)]))] sz) (fun u : Unit => [])) (va_A [(h0, .inr (8, [.null, .null, .null, .int (nI 0), .null, .int (nI 0), .null, .int (nI 0)]))] sz)) 4 18007 (va_A [(h0, .inr (8, [.null, .null, .null, .int (nI 0), .null, .int (nI 0), .null, .int (nI 0)]))] sz) := by
  refine ofV (by decide +kernel) (Nat.le_of_ble_eq_true rfl) ?_
  intro p e s m args below meth c A Q ls H locs G hsz hP hD hS hl hret
  subst hsz
  have hl : lv_has ls 2 [(0, .ref h0), (1, .ref nm)] := hl
  refine lv_aload_n G.1 G.2.1 d_Wo_init_0 rfl (lv_at hl 0 rfl) ?_
  refine kobj G q546 q361 q362 hl.1 d_Wo_init_1 (Nat.le_of_ble_eq_true rfl) (Nat.le_of_ble_eq_true rfl) ?_
  refine lv_aload_n G.1 G.2.1 d_Wo_init_4 rfl (lv_at hl 0 rfl) ?_
  refine lv_sipush (v := nI 6002) G.1 G.2.1 d_Wo_init_5 (by decide) ?_
  refine kNew (ty := .int) (N' := 6002) (a0 := (6002, .inl (fun _ => nI 0))) G q404 rfl (fun _ h => h) 0 rfl hP hD hS (fun _ => rfl) (nI_pos (by omega)) (nI_clamp (by omega)) (Nat.le_of_ble_eq_true rfl) (Nat.le_of_ble_eq_true rfl) (Nat.le_of_ble_eq_true rfl) d_Wo_init_8 (fun q_1 H hP hD hS => ?_)
  have hP : va_P D CL [(h0, .inr (8, [.null, .null, .null, .int (nI 0), .null, .int (nI 0), .null, .int (nI 0)])), (q_1, .inl (g 0, 6002, .inl (fun _ => nI 0)))] H := hP
  have hD : va_D A [(h0, .inr (8, [.null, .null, .null, .int (nI 0), .null, .int (nI 0), .null, .int (nI 0)])), (q_1, .inl (g 0, 6002, .inl (fun _ => nI 0)))] := hD
  refine W.widen (k := 1) (n := 6002) (by omega) (by omega) ?_
  refine kpF (ci := 8) G iWo tWo tWo_ok nWo hP hD hS 0 rfl rfl 0 (by decide) q547 rfl rfl rfl rfl rfl rfl (Nat.le_of_ble_eq_true rfl) d_Wo_init_10 (fun H locs hP hD hS => ?_)
  have hP : va_P D CL [(h0, .inr (8, [.ref q_1, .null, .null, .int (nI 0), .null, .int (nI 0), .null, .int (nI 0)])), (q_1, .inl (g 0, 6002, .inl (fun _ => nI 0)))] H := hP
  have hD : va_D A [(h0, .inr (8, [.ref q_1, .null, .null, .int (nI 0), .null, .int (nI 0), .null, .int (nI 0)])), (q_1, .inl (g 0, 6002, .inl (fun _ => nI 0)))] := hD
  refine lv_aload_n G.1 G.2.1 d_Wo_init_13 rfl (lv_at hl 0 rfl) ?_
  refine lv_sipush (v := nI 6002) G.1 G.2.1 d_Wo_init_14 (by decide) ?_
  refine kNew (ty := .int) (N' := 6002) (a0 := (6002, .inl (fun _ => nI 0))) G q404 rfl (fun _ h => h) 0 rfl hP hD hS (fun _ => rfl) (nI_pos (by omega)) (nI_clamp (by omega)) (Nat.le_of_ble_eq_true rfl) (Nat.le_of_ble_eq_true rfl) (Nat.le_of_ble_eq_true rfl) d_Wo_init_17 (fun q_2 H hP hD hS => ?_)
  have hP : va_P D CL [(h0, .inr (8, [.ref q_1, .null, .null, .int (nI 0), .null, .int (nI 0), .null, .int (nI 0)])), (q_1, .inl (g 0, 6002, .inl (fun _ => nI 0))), (q_2, .inl (g 0, 6002, .inl (fun _ => nI 0)))] H := hP
  have hD : va_D A [(h0, .inr (8, [.ref q_1, .null, .null, .int (nI 0), .null, .int (nI 0), .null, .int (nI 0)])), (q_1, .inl (g 0, 6002, .inl (fun _ => nI 0))), (q_2, .inl (g 0, 6002, .inl (fun _ => nI 0)))] := hD
  refine W.widen (k := 2) (n := 12004) (by omega) (by omega) ?_
  refine kpF (ci := 8) G iWo tWo tWo_ok nWo hP hD hS 0 rfl rfl 1 (by decide) q549 rfl rfl rfl rfl rfl rfl (Nat.le_of_ble_eq_true rfl) d_Wo_init_19 (fun H locs hP hD hS => ?_)
  have hP : va_P D CL [(h0, .inr (8, [.ref q_1, .ref q_2, .null, .int (nI 0), .null, .int (nI 0), .null, .int (nI 0)])), (q_1, .inl (g 0, 6002, .inl (fun _ => nI 0))), (q_2, .inl (g 0, 6002, .inl (fun _ => nI 0)))] H := hP
  have hD : va_D A [(h0, .inr (8, [.ref q_1, .ref q_2, .null, .int (nI 0), .null, .int (nI 0), .null, .int (nI 0)])), (q_1, .inl (g 0, 6002, .inl (fun _ => nI 0))), (q_2, .inl (g 0, 6002, .inl (fun _ => nI 0)))] := hD
  refine lv_aload_n G.1 G.2.1 d_Wo_init_22 rfl (lv_at hl 0 rfl) ?_
  refine W.eq (g2 := F0 m 23 ls [.ref h0]) rfl ?_
  refine lv_sipush (v := nI 6002) G.1 G.2.1 d_Wo_init_23 (by decide) ?_
  refine kNew (ty := .int) (N' := 6002) (a0 := (6002, .inl (fun _ => nI 0))) G q404 rfl (fun _ h => h) 0 rfl hP hD hS (fun _ => rfl) (nI_pos (by omega)) (nI_clamp (by omega)) (Nat.le_of_ble_eq_true rfl) (Nat.le_of_ble_eq_true rfl) (Nat.le_of_ble_eq_true rfl) d_Wo_init_26 (fun q_3 H hP hD hS => ?_)
  have hP : va_P D CL [(h0, .inr (8, [.ref q_1, .ref q_2, .null, .int (nI 0), .null, .int (nI 0), .null, .int (nI 0)])), (q_1, .inl (g 0, 6002, .inl (fun _ => nI 0))), (q_2, .inl (g 0, 6002, .inl (fun _ => nI 0))), (q_3, .inl (g 0, 6002, .inl (fun _ => nI 0)))] H := hP
  have hD : va_D A [(h0, .inr (8, [.ref q_1, .ref q_2, .null, .int (nI 0), .null, .int (nI 0), .null, .int (nI 0)])), (q_1, .inl (g 0, 6002, .inl (fun _ => nI 0))), (q_2, .inl (g 0, 6002, .inl (fun _ => nI 0))), (q_3, .inl (g 0, 6002, .inl (fun _ => nI 0)))] := hD
  refine W.widen (k := 3) (n := 18006) (by omega) (by omega) ?_
  refine kpF (ci := 8) G iWo tWo tWo_ok nWo hP hD hS 0 rfl rfl 2 (by decide) q551 rfl rfl rfl rfl rfl rfl (Nat.le_of_ble_eq_true rfl) d_Wo_init_28 (fun H locs hP hD hS => ?_)
  have hP : va_P D CL [(h0, .inr (8, [.ref q_1, .ref q_2, .ref q_3, .int (nI 0), .null, .int (nI 0), .null, .int (nI 0)])), (q_1, .inl (g 0, 6002, .inl (fun _ => nI 0))), (q_2, .inl (g 0, 6002, .inl (fun _ => nI 0))), (q_3, .inl (g 0, 6002, .inl (fun _ => nI 0)))] H := hP
  have hD : va_D A [(h0, .inr (8, [.ref q_1, .ref q_2, .ref q_3, .int (nI 0), .null, .int (nI 0), .null, .int (nI 0)])), (q_1, .inl (g 0, 6002, .inl (fun _ => nI 0))), (q_2, .inl (g 0, 6002, .inl (fun _ => nI 0))), (q_3, .inl (g 0, 6002, .inl (fun _ => nI 0)))] := hD
  refine lv_aload_n G.1 G.2.1 d_Wo_init_31 rfl (lv_at hl 0 rfl) ?_
  refine lv_iconst (v := nI 0) G.1 G.2.1 d_Wo_init_32 (by decide) ?_
  refine kp (ci := 8) G iWo tWo tWo_ok nWo hP hD hS 0 rfl rfl 3 (by decide) q553 rfl rfl rfl rfl (Nat.le_of_ble_eq_true rfl) d_Wo_init_33 (fun H locs hP hD hS => ?_)
  have hP : va_P D CL [(h0, .inr (8, [.ref q_1, .ref q_2, .ref q_3, .int (nI 0), .null, .int (nI 0), .null, .int (nI 0)])), (q_1, .inl (g 0, 6002, .inl (fun _ => nI 0))), (q_2, .inl (g 0, 6002, .inl (fun _ => nI 0))), (q_3, .inl (g 0, 6002, .inl (fun _ => nI 0)))] H := hP
  have hD : va_D A [(h0, .inr (8, [.ref q_1, .ref q_2, .ref q_3, .int (nI 0), .null, .int (nI 0), .null, .int (nI 0)])), (q_1, .inl (g 0, 6002, .inl (fun _ => nI 0))), (q_2, .inl (g 0, 6002, .inl (fun _ => nI 0))), (q_3, .inl (g 0, 6002, .inl (fun _ => nI 0)))] := hD
  refine lv_aload_n G.1 G.2.1 d_Wo_init_36 rfl (lv_at hl 0 rfl) ?_
  refine lv_iconst (v := nI 0) G.1 G.2.1 d_Wo_init_37 (by decide) ?_
  refine kp (ci := 8) G iWo tWo tWo_ok nWo hP hD hS 0 rfl rfl 5 (by decide) q557 rfl rfl rfl rfl (Nat.le_of_ble_eq_true rfl) d_Wo_init_38 (fun H locs hP hD hS => ?_)
  have hP : va_P D CL [(h0, .inr (8, [.ref q_1, .ref q_2, .ref q_3, .int (nI 0), .null, .int (nI 0), .null, .int (nI 0)])), (q_1, .inl (g 0, 6002, .inl (fun _ => nI 0))), (q_2, .inl (g 0, 6002, .inl (fun _ => nI 0))), (q_3, .inl (g 0, 6002, .inl (fun _ => nI 0)))] H := hP
  have hD : va_D A [(h0, .inr (8, [.ref q_1, .ref q_2, .ref q_3, .int (nI 0), .null, .int (nI 0), .null, .int (nI 0)])), (q_1, .inl (g 0, 6002, .inl (fun _ => nI 0))), (q_2, .inl (g 0, 6002, .inl (fun _ => nI 0))), (q_3, .inl (g 0, 6002, .inl (fun _ => nI 0)))] := hD
  refine lv_aload_n G.1 G.2.1 d_Wo_init_41 rfl (lv_at hl 0 rfl) ?_
  refine lv_iconst (v := nI 0) G.1 G.2.1 d_Wo_init_42 (by decide) ?_
  refine kp (ci := 8) G iWo tWo tWo_ok nWo hP hD hS 0 rfl rfl 7 (by decide) q559 rfl rfl rfl rfl (Nat.le_of_ble_eq_true rfl) d_Wo_init_43 (fun H locs hP hD hS => ?_)
  have hP : va_P D CL [(h0, .inr (8, [.ref q_1, .ref q_2, .ref q_3, .int (nI 0), .null, .int (nI 0), .null, .int (nI 0)])), (q_1, .inl (g 0, 6002, .inl (fun _ => nI 0))), (q_2, .inl (g 0, 6002, .inl (fun _ => nI 0))), (q_3, .inl (g 0, 6002, .inl (fun _ => nI 0)))] H := hP
  have hD : va_D A [(h0, .inr (8, [.ref q_1, .ref q_2, .ref q_3, .int (nI 0), .null, .int (nI 0), .null, .int (nI 0)])), (q_1, .inl (g 0, 6002, .inl (fun _ => nI 0))), (q_2, .inl (g 0, 6002, .inl (fun _ => nI 0))), (q_3, .inl (g 0, 6002, .inl (fun _ => nI 0)))] := hD
  refine W.eq (g2 := F0 m 46 ls []) rfl ?_
  refine lv_aload_n G.1 G.2.1 d_Wo_init_46 rfl (lv_at hl 0 rfl) ?_
  refine lv_aload_n G.1 G.2.1 d_Wo_init_47 rfl (lv_at hl 1 rfl) ?_
  refine kpF (ci := 8) G iWo tWo tWo_ok nWo hP hD hS 0 rfl rfl 4 (by decide) q556 rfl rfl rfl rfl rfl rfl (Nat.le_of_ble_eq_true rfl) d_Wo_init_48 (fun H locs hP hD hS => ?_)
  have hP : va_P D CL [(h0, .inr (8, [.ref q_1, .ref q_2, .ref q_3, .int (nI 0), .ref nm, .int (nI 0), .null, .int (nI 0)])), (q_1, .inl (g 0, 6002, .inl (fun _ => nI 0))), (q_2, .inl (g 0, 6002, .inl (fun _ => nI 0))), (q_3, .inl (g 0, 6002, .inl (fun _ => nI 0)))] H := hP
  have hD : va_D A [(h0, .inr (8, [.ref q_1, .ref q_2, .ref q_3, .int (nI 0), .ref nm, .int (nI 0), .null, .int (nI 0)])), (q_1, .inl (g 0, 6002, .inl (fun _ => nI 0))), (q_2, .inl (g 0, 6002, .inl (fun _ => nI 0))), (q_3, .inl (g 0, 6002, .inl (fun _ => nI 0)))] := hD
  refine lv_aload_n G.1 G.2.1 d_Wo_init_51 rfl (lv_at hl 0 rfl) ?_
  refine lv_iconst (v := nI 1) G.1 G.2.1 d_Wo_init_52 (by decide) ?_
  refine kNew (ty := .byte) (N' := 1) (a0 := (1, .inl (fun _ => nI 0))) G q403 rfl (fun _ h => h) 1 rfl hP hD hS (fun _ => rfl) (nI_pos (by omega)) (nI_clamp (by omega)) (Nat.le_of_ble_eq_true rfl) (Nat.le_of_ble_eq_true rfl) (Nat.le_of_ble_eq_true rfl) d_Wo_init_53 (fun q_4 H hP hD hS => ?_)
  have hP : va_P D CL [(h0, .inr (8, [.ref q_1, .ref q_2, .ref q_3, .int (nI 0), .ref nm, .int (nI 0), .null, .int (nI 0)])), (q_1, .inl (g 0, 6002, .inl (fun _ => nI 0))), (q_2, .inl (g 0, 6002, .inl (fun _ => nI 0))), (q_3, .inl (g 0, 6002, .inl (fun _ => nI 0))), (q_4, .inl (g 1, 1, .inl (fun _ => nI 0)))] H := hP
  have hD : va_D A [(h0, .inr (8, [.ref q_1, .ref q_2, .ref q_3, .int (nI 0), .ref nm, .int (nI 0), .null, .int (nI 0)])), (q_1, .inl (g 0, 6002, .inl (fun _ => nI 0))), (q_2, .inl (g 0, 6002, .inl (fun _ => nI 0))), (q_3, .inl (g 0, 6002, .inl (fun _ => nI 0))), (q_4, .inl (g 1, 1, .inl (fun _ => nI 0)))] := hD
  refine W.widen (k := 4) (n := 18007) (by omega) (by omega) ?_
  refine kp (ci := 8) G iWo tWo tWo_ok nWo hP hD hS 0 rfl rfl 6 (by decide) q558 rfl rfl rfl rfl (Nat.le_of_ble_eq_true rfl) d_Wo_init_55 (fun H locs hP hD hS => ?_)
  have hP : va_P D CL [(h0, .inr (8, [.ref q_1, .ref q_2, .ref q_3, .int (nI 0), .ref nm, .int (nI 0), .ref q_4, .int (nI 0)])), (q_1, .inl (g 0, 6002, .inl (fun _ => nI 0))), (q_2, .inl (g 0, 6002, .inl (fun _ => nI 0))), (q_3, .inl (g 0, 6002, .inl (fun _ => nI 0))), (q_4, .inl (g 1, 1, .inl (fun _ => nI 0)))] H := hP
  have hD : va_D A [(h0, .inr (8, [.ref q_1, .ref q_2, .ref q_3, .int (nI 0), .ref nm, .int (nI 0), .ref q_4, .int (nI 0)])), (q_1, .inl (g 0, 6002, .inl (fun _ => nI 0))), (q_2, .inl (g 0, 6002, .inl (fun _ => nI 0))), (q_3, .inl (g 0, 6002, .inl (fun _ => nI 0))), (q_4, .inl (g 1, 1, .inl (fun _ => nI 0)))] := hD
  refine hret () _ _ _ _ _ ls trivial (hP.sub [] rfl) (hD.sub [] (by decide) rfl) hS (Nat.le_of_ble_eq_true rfl) (Nat.le_of_ble_eq_true rfl) d_Wo_init_58
def y_Re_init : MethodName := ⟨"ClassWorks$Reader", "<init>", "(LClassWorks$Names;LClassWorks$Words;)V"⟩
abbrev b_Re_init : ByteArray := prog_8_method_1_code
theorem q582 : Cond.methodLink "ClassWorks$Reader" 3 Lib.objectInit ∈ lw_ok := lw_okmem (List.mem_of_getElem? (i := 582) (by decide +kernel)) rfl
theorem q585 : Cond.fieldLink "ClassWorks$Reader" 9 "ClassWorks$Reader" "spot" "I" ∈ lw_ok := lw_okmem (List.mem_of_getElem? (i := 585) (by decide +kernel)) rfl
theorem q587 : Cond.fieldLink "ClassWorks$Reader" 15 "ClassWorks$Reader" "came" "I" ∈ lw_ok := lw_okmem (List.mem_of_getElem? (i := 587) (by decide +kernel)) rfl
theorem q592 : Cond.fieldLink "ClassWorks$Reader" 18 "ClassWorks$Reader" "rule" "I" ∈ lw_ok := lw_okmem (List.mem_of_getElem? (i := 592) (by decide +kernel)) rfl
theorem q593 : Cond.fieldLink "ClassWorks$Reader" 21 "ClassWorks$Reader" "state" "I" ∈ lw_ok := lw_okmem (List.mem_of_getElem? (i := 593) (by decide +kernel)) rfl
theorem q594 : Cond.fieldLink "ClassWorks$Reader" 24 "ClassWorks$Reader" "noted" "I" ∈ lw_ok := lw_okmem (List.mem_of_getElem? (i := 594) (by decide +kernel)) rfl
theorem q595 : Cond.fieldLink "ClassWorks$Reader" 27 "ClassWorks$Reader" "p" "I" ∈ lw_ok := lw_okmem (List.mem_of_getElem? (i := 595) (by decide +kernel)) rfl
theorem q596 : Cond.fieldLink "ClassWorks$Reader" 30 "ClassWorks$Reader" "cls" "I" ∈ lw_ok := lw_okmem (List.mem_of_getElem? (i := 596) (by decide +kernel)) rfl
theorem q597 : Cond.fieldLink "ClassWorks$Reader" 33 "ClassWorks$Reader" "method" "I" ∈ lw_ok := lw_okmem (List.mem_of_getElem? (i := 597) (by decide +kernel)) rfl
theorem q598 : Cond.fieldLink "ClassWorks$Reader" 36 "ClassWorks$Reader" "types" "[I" ∈ lw_ok := lw_okmem (List.mem_of_getElem? (i := 598) (by decide +kernel)) rfl
theorem q599 : Cond.fieldLink "ClassWorks$Reader" 40 "ClassWorks$Reader" "typeCount" "I" ∈ lw_ok := lw_okmem (List.mem_of_getElem? (i := 599) (by decide +kernel)) rfl
theorem q583 : Cond.classLink "ClassWorks$Reader" 43 "ClassWorks$Ints" ∈ lw_ok := lw_okmem (List.mem_of_getElem? (i := 583) (by decide +kernel)) rfl
theorem q584 : Cond.methodLink "ClassWorks$Reader" 45 y_In_init ∈ lw_ok := lw_okmem (List.mem_of_getElem? (i := 584) (by decide +kernel)) rfl
theorem q600 : Cond.fieldLink "ClassWorks$Reader" 48 "ClassWorks$Reader" "labels" "LClassWorks$Ints;" ∈ lw_ok := lw_okmem (List.mem_of_getElem? (i := 600) (by decide +kernel)) rfl
theorem q601 : Cond.fieldLink "ClassWorks$Reader" 52 "ClassWorks$Reader" "uses" "LClassWorks$Ints;" ∈ lw_ok := lw_okmem (List.mem_of_getElem? (i := 601) (by decide +kernel)) rfl
theorem q602 : Cond.fieldLink "ClassWorks$Reader" 55 "ClassWorks$Reader" "toldTwice" "I" ∈ lw_ok := lw_okmem (List.mem_of_getElem? (i := 602) (by decide +kernel)) rfl
theorem q603 : Cond.fieldLink "ClassWorks$Reader" 58 "ClassWorks$Reader" "frame" "I" ∈ lw_ok := lw_okmem (List.mem_of_getElem? (i := 603) (by decide +kernel)) rfl
theorem q604 : Cond.fieldLink "ClassWorks$Reader" 61 "ClassWorks$Reader" "framePlace" "I" ∈ lw_ok := lw_okmem (List.mem_of_getElem? (i := 604) (by decide +kernel)) rfl
theorem q589 : Cond.fieldLink "ClassWorks$Reader" 64 "ClassWorks$Reader" "names" "LClassWorks$Names;" ∈ lw_ok := lw_okmem (List.mem_of_getElem? (i := 589) (by decide +kernel)) rfl
theorem q590 : Cond.fieldLink "ClassWorks$Reader" 68 "ClassWorks$Reader" "words" "LClassWorks$Words;" ∈ lw_ok := lw_okmem (List.mem_of_getElem? (i := 590) (by decide +kernel)) rfl
theorem q591 : Cond.fieldLink "ClassWorks$Reader" 72 "ClassWorks$Reader" "world" "LClassWorks$World;" ∈ lw_ok := lw_okmem (List.mem_of_getElem? (i := 591) (by decide +kernel)) rfl
theorem d_Re_init_0 : decode b_Re_init 0 = .ok (.aload_n 0, 1) := by decide +kernel
theorem d_Re_init_1 : decode b_Re_init 1 = .ok (.invokespecial 3, 3) := by decide +kernel
theorem d_Re_init_4 : decode b_Re_init 4 = .ok (.aload_n 0, 1) := by decide +kernel
theorem d_Re_init_5 : decode b_Re_init 5 = .ok (.bipush (-2), 2) := by decide +kernel
theorem d_Re_init_7 : decode b_Re_init 7 = .ok (.putfield 9, 3) := by decide +kernel
theorem d_Re_init_10 : decode b_Re_init 10 = .ok (.aload_n 0, 1) := by decide +kernel
theorem d_Re_init_11 : decode b_Re_init 11 = .ok (.iconst 0, 1) := by decide +kernel
theorem d_Re_init_12 : decode b_Re_init 12 = .ok (.putfield 15, 3) := by decide +kernel
theorem d_Re_init_15 : decode b_Re_init 15 = .ok (.aload_n 0, 1) := by decide +kernel
theorem d_Re_init_16 : decode b_Re_init 16 = .ok (.iconst 0, 1) := by decide +kernel
theorem d_Re_init_17 : decode b_Re_init 17 = .ok (.putfield 18, 3) := by decide +kernel
theorem d_Re_init_20 : decode b_Re_init 20 = .ok (.aload_n 0, 1) := by decide +kernel
theorem d_Re_init_21 : decode b_Re_init 21 = .ok (.iconst 0, 1) := by decide +kernel
theorem d_Re_init_22 : decode b_Re_init 22 = .ok (.putfield 21, 3) := by decide +kernel
theorem d_Re_init_25 : decode b_Re_init 25 = .ok (.aload_n 0, 1) := by decide +kernel
theorem d_Re_init_26 : decode b_Re_init 26 = .ok (.iconst 0, 1) := by decide +kernel
theorem d_Re_init_27 : decode b_Re_init 27 = .ok (.putfield 24, 3) := by decide +kernel
theorem d_Re_init_30 : decode b_Re_init 30 = .ok (.aload_n 0, 1) := by decide +kernel
theorem d_Re_init_31 : decode b_Re_init 31 = .ok (.iconst 0, 1) := by decide +kernel
theorem d_Re_init_32 : decode b_Re_init 32 = .ok (.putfield 27, 3) := by decide +kernel
theorem d_Re_init_35 : decode b_Re_init 35 = .ok (.aload_n 0, 1) := by decide +kernel
theorem d_Re_init_36 : decode b_Re_init 36 = .ok (.iconst 0, 1) := by decide +kernel
theorem d_Re_init_37 : decode b_Re_init 37 = .ok (.putfield 30, 3) := by decide +kernel
theorem d_Re_init_40 : decode b_Re_init 40 = .ok (.aload_n 0, 1) := by decide +kernel
theorem d_Re_init_41 : decode b_Re_init 41 = .ok (.iconst 0, 1) := by decide +kernel
theorem d_Re_init_42 : decode b_Re_init 42 = .ok (.putfield 33, 3) := by decide +kernel
theorem d_Re_init_45 : decode b_Re_init 45 = .ok (.aload_n 0, 1) := by decide +kernel
theorem d_Re_init_46 : decode b_Re_init 46 = .ok (.bipush 6, 2) := by decide +kernel
theorem d_Re_init_48 : decode b_Re_init 48 = .ok (.newarray .int, 2) := by decide +kernel
theorem d_Re_init_50 : decode b_Re_init 50 = .ok (.putfield 36, 3) := by decide +kernel
theorem d_Re_init_53 : decode b_Re_init 53 = .ok (.aload_n 0, 1) := by decide +kernel
theorem d_Re_init_54 : decode b_Re_init 54 = .ok (.iconst 0, 1) := by decide +kernel
theorem d_Re_init_55 : decode b_Re_init 55 = .ok (.putfield 40, 3) := by decide +kernel
theorem d_Re_init_58 : decode b_Re_init 58 = .ok (.aload_n 0, 1) := by decide +kernel
theorem d_Re_init_59 : decode b_Re_init 59 = .ok (.new 43, 3) := by decide +kernel
theorem d_Re_init_62 : decode b_Re_init 62 = .ok (.dup, 1) := by decide +kernel
theorem d_Re_init_63 : decode b_Re_init 63 = .ok (.bipush 64, 2) := by decide +kernel
theorem d_Re_init_65 : decode b_Re_init 65 = .ok (.invokespecial 45, 3) := by decide +kernel
theorem d_Re_init_68 : decode b_Re_init 68 = .ok (.putfield 48, 3) := by decide +kernel
theorem d_Re_init_71 : decode b_Re_init 71 = .ok (.aload_n 0, 1) := by decide +kernel
theorem d_Re_init_72 : decode b_Re_init 72 = .ok (.new 43, 3) := by decide +kernel
theorem d_Re_init_75 : decode b_Re_init 75 = .ok (.dup, 1) := by decide +kernel
theorem d_Re_init_76 : decode b_Re_init 76 = .ok (.sipush 128, 3) := by decide +kernel
theorem d_Re_init_79 : decode b_Re_init 79 = .ok (.invokespecial 45, 3) := by decide +kernel
theorem d_Re_init_82 : decode b_Re_init 82 = .ok (.putfield 52, 3) := by decide +kernel
theorem d_Re_init_85 : decode b_Re_init 85 = .ok (.aload_n 0, 1) := by decide +kernel
theorem d_Re_init_86 : decode b_Re_init 86 = .ok (.iconst (-1), 1) := by decide +kernel
theorem d_Re_init_87 : decode b_Re_init 87 = .ok (.putfield 55, 3) := by decide +kernel
theorem d_Re_init_90 : decode b_Re_init 90 = .ok (.aload_n 0, 1) := by decide +kernel
theorem d_Re_init_91 : decode b_Re_init 91 = .ok (.iconst (-1), 1) := by decide +kernel
theorem d_Re_init_92 : decode b_Re_init 92 = .ok (.putfield 58, 3) := by decide +kernel
theorem d_Re_init_95 : decode b_Re_init 95 = .ok (.aload_n 0, 1) := by decide +kernel
theorem d_Re_init_96 : decode b_Re_init 96 = .ok (.iconst 0, 1) := by decide +kernel
theorem d_Re_init_97 : decode b_Re_init 97 = .ok (.putfield 61, 3) := by decide +kernel
theorem d_Re_init_100 : decode b_Re_init 100 = .ok (.aload_n 0, 1) := by decide +kernel
theorem d_Re_init_101 : decode b_Re_init 101 = .ok (.aload_n 1, 1) := by decide +kernel
theorem d_Re_init_102 : decode b_Re_init 102 = .ok (.putfield 64, 3) := by decide +kernel
theorem d_Re_init_105 : decode b_Re_init 105 = .ok (.aload_n 0, 1) := by decide +kernel
theorem d_Re_init_106 : decode b_Re_init 106 = .ok (.aload_n 2, 1) := by decide +kernel
theorem d_Re_init_107 : decode b_Re_init 107 = .ok (.putfield 68, 3) := by decide +kernel
theorem d_Re_init_110 : decode b_Re_init 110 = .ok (.aload_n 0, 1) := by decide +kernel
theorem d_Re_init_111 : decode b_Re_init 111 = .ok (.aconst_null, 1) := by decide +kernel
theorem d_Re_init_112 : decode b_Re_init 112 = .ok (.putfield 72, 3) := by decide +kernel
theorem d_Re_init_115 : decode b_Re_init 115 = .ok (.return_, 1) := by decide +kernel
abbrev rm_Re_init : Room := { frames := 2, cells := 5, slots := 202, locals := 33 }
set_option maxHeartbeats 4000000 in
set_option maxRecDepth 100000 in
theorem c_Re_init (l : Launch) (D : va_G) (g : Nat → ClassId) (h0 : Nat) (nm : Nat) (wo : Nat) (sz : Nat)  : Met l y_Re_init (mw y_Re_init b_Re_init 3 (none)) (rm_Re_init) (PC g D [] [.ref h0, .ref nm, .ref wo] sz [(h0, .inr (6, [.int (nI 0), .int (nI 0), .null, .null, .null, .int (nI 0), .int (nI 0), .int (nI 0), .int (nI 0), .int (nI 0), .int (nI 0), .null, .int (nI 0), .null, .null, .int (nI 0), .int (nI 0), .int (nI 0)]))]) (va_Qv (fun u : Unit => True) (QW D (va_A [(h0, .inr (6, [.int (nI 0), .int (nI 0), .null, .null, .null, .int (nI 0), .int (nI 0), .int (nI 0), .int (nI 0), .int (nI 0), .int (nI 0), .null, .int (nI 0), .null, .null, .int (nI 0), .int (nI 0), .int (nI 0)]))] sz) (fun u : Unit => [])) (va_A [(h0, .inr (6, [.int (nI 0), .int (nI 0), .null, .null, .null, .int (nI 0), .int (nI 0), .int (nI 0), .int (nI 0), .int (nI 0), .int (nI 0), .null, .int (nI 0), .null, .null, .int (nI 0), .int (nI 0), .int (nI 0)]))] sz)) 5 202 (va_A [(h0, .inr (6, [.int (nI 0), .int (nI 0), .null, .null, .null, .int (nI 0), .int (nI 0), .int (nI 0), .int (nI 0), .int (nI 0), .int (nI 0), .null, .int (nI 0), .null, .null, .int (nI 0), .int (nI 0), .int (nI 0)]))] sz) := by
  refine ofV (by decide +kernel) (Nat.le_of_ble_eq_true rfl) ?_
  intro p e s m args below meth c A Q ls H locs G hsz hP hD hS hl hret
  subst hsz
  have hl : lv_has ls 3 [(0, .ref h0), (1, .ref nm), (2, .ref wo)] := hl
  refine lv_aload_n G.1 G.2.1 d_Re_init_0 rfl (lv_at hl 0 rfl) ?_
  refine kobj G q582 q361 q362 hl.1 d_Re_init_1 (Nat.le_of_ble_eq_true rfl) (Nat.le_of_ble_eq_true rfl) ?_
  refine lv_aload_n G.1 G.2.1 d_Re_init_4 rfl (lv_at hl 0 rfl) ?_
  refine lv_bipush (v := (-2)) G.1 G.2.1 d_Re_init_5 (by decide) ?_
  refine kp (ci := 6) G iRe tRe tRe_ok nRe hP hD hS 0 rfl rfl 0 (by decide) q585 rfl rfl rfl rfl (Nat.le_of_ble_eq_true rfl) d_Re_init_7 (fun H locs hP hD hS => ?_)
  have hP : va_P D CL [(h0, .inr (6, [.int (-2), .int (nI 0), .null, .null, .null, .int (nI 0), .int (nI 0), .int (nI 0), .int (nI 0), .int (nI 0), .int (nI 0), .null, .int (nI 0), .null, .null, .int (nI 0), .int (nI 0), .int (nI 0)]))] H := hP
  have hD : va_D A [(h0, .inr (6, [.int (-2), .int (nI 0), .null, .null, .null, .int (nI 0), .int (nI 0), .int (nI 0), .int (nI 0), .int (nI 0), .int (nI 0), .null, .int (nI 0), .null, .null, .int (nI 0), .int (nI 0), .int (nI 0)]))] := hD
  refine lv_aload_n G.1 G.2.1 d_Re_init_10 rfl (lv_at hl 0 rfl) ?_
  refine lv_iconst (v := nI 0) G.1 G.2.1 d_Re_init_11 (by decide) ?_
  refine kp (ci := 6) G iRe tRe tRe_ok nRe hP hD hS 0 rfl rfl 1 (by decide) q587 rfl rfl rfl rfl (Nat.le_of_ble_eq_true rfl) d_Re_init_12 (fun H locs hP hD hS => ?_)
  have hP : va_P D CL [(h0, .inr (6, [.int (-2), .int (nI 0), .null, .null, .null, .int (nI 0), .int (nI 0), .int (nI 0), .int (nI 0), .int (nI 0), .int (nI 0), .null, .int (nI 0), .null, .null, .int (nI 0), .int (nI 0), .int (nI 0)]))] H := hP
  have hD : va_D A [(h0, .inr (6, [.int (-2), .int (nI 0), .null, .null, .null, .int (nI 0), .int (nI 0), .int (nI 0), .int (nI 0), .int (nI 0), .int (nI 0), .null, .int (nI 0), .null, .null, .int (nI 0), .int (nI 0), .int (nI 0)]))] := hD
  refine lv_aload_n G.1 G.2.1 d_Re_init_15 rfl (lv_at hl 0 rfl) ?_
  refine lv_iconst (v := nI 0) G.1 G.2.1 d_Re_init_16 (by decide) ?_
  refine kp (ci := 6) G iRe tRe tRe_ok nRe hP hD hS 0 rfl rfl 5 (by decide) q592 rfl rfl rfl rfl (Nat.le_of_ble_eq_true rfl) d_Re_init_17 (fun H locs hP hD hS => ?_)
  have hP : va_P D CL [(h0, .inr (6, [.int (-2), .int (nI 0), .null, .null, .null, .int (nI 0), .int (nI 0), .int (nI 0), .int (nI 0), .int (nI 0), .int (nI 0), .null, .int (nI 0), .null, .null, .int (nI 0), .int (nI 0), .int (nI 0)]))] H := hP
  have hD : va_D A [(h0, .inr (6, [.int (-2), .int (nI 0), .null, .null, .null, .int (nI 0), .int (nI 0), .int (nI 0), .int (nI 0), .int (nI 0), .int (nI 0), .null, .int (nI 0), .null, .null, .int (nI 0), .int (nI 0), .int (nI 0)]))] := hD
  refine W.eq (g2 := F0 m 20 ls []) rfl ?_
  refine lv_aload_n G.1 G.2.1 d_Re_init_20 rfl (lv_at hl 0 rfl) ?_
  refine lv_iconst (v := nI 0) G.1 G.2.1 d_Re_init_21 (by decide) ?_
  refine kp (ci := 6) G iRe tRe tRe_ok nRe hP hD hS 0 rfl rfl 6 (by decide) q593 rfl rfl rfl rfl (Nat.le_of_ble_eq_true rfl) d_Re_init_22 (fun H locs hP hD hS => ?_)
  have hP : va_P D CL [(h0, .inr (6, [.int (-2), .int (nI 0), .null, .null, .null, .int (nI 0), .int (nI 0), .int (nI 0), .int (nI 0), .int (nI 0), .int (nI 0), .null, .int (nI 0), .null, .null, .int (nI 0), .int (nI 0), .int (nI 0)]))] H := hP
  have hD : va_D A [(h0, .inr (6, [.int (-2), .int (nI 0), .null, .null, .null, .int (nI 0), .int (nI 0), .int (nI 0), .int (nI 0), .int (nI 0), .int (nI 0), .null, .int (nI 0), .null, .null, .int (nI 0), .int (nI 0), .int (nI 0)]))] := hD
  refine lv_aload_n G.1 G.2.1 d_Re_init_25 rfl (lv_at hl 0 rfl) ?_
  refine lv_iconst (v := nI 0) G.1 G.2.1 d_Re_init_26 (by decide) ?_
  refine kp (ci := 6) G iRe tRe tRe_ok nRe hP hD hS 0 rfl rfl 7 (by decide) q594 rfl rfl rfl rfl (Nat.le_of_ble_eq_true rfl) d_Re_init_27 (fun H locs hP hD hS => ?_)
  have hP : va_P D CL [(h0, .inr (6, [.int (-2), .int (nI 0), .null, .null, .null, .int (nI 0), .int (nI 0), .int (nI 0), .int (nI 0), .int (nI 0), .int (nI 0), .null, .int (nI 0), .null, .null, .int (nI 0), .int (nI 0), .int (nI 0)]))] H := hP
  have hD : va_D A [(h0, .inr (6, [.int (-2), .int (nI 0), .null, .null, .null, .int (nI 0), .int (nI 0), .int (nI 0), .int (nI 0), .int (nI 0), .int (nI 0), .null, .int (nI 0), .null, .null, .int (nI 0), .int (nI 0), .int (nI 0)]))] := hD
  refine lv_aload_n G.1 G.2.1 d_Re_init_30 rfl (lv_at hl 0 rfl) ?_
  refine lv_iconst (v := nI 0) G.1 G.2.1 d_Re_init_31 (by decide) ?_
  refine kp (ci := 6) G iRe tRe tRe_ok nRe hP hD hS 0 rfl rfl 8 (by decide) q595 rfl rfl rfl rfl (Nat.le_of_ble_eq_true rfl) d_Re_init_32 (fun H locs hP hD hS => ?_)
  have hP : va_P D CL [(h0, .inr (6, [.int (-2), .int (nI 0), .null, .null, .null, .int (nI 0), .int (nI 0), .int (nI 0), .int (nI 0), .int (nI 0), .int (nI 0), .null, .int (nI 0), .null, .null, .int (nI 0), .int (nI 0), .int (nI 0)]))] H := hP
  have hD : va_D A [(h0, .inr (6, [.int (-2), .int (nI 0), .null, .null, .null, .int (nI 0), .int (nI 0), .int (nI 0), .int (nI 0), .int (nI 0), .int (nI 0), .null, .int (nI 0), .null, .null, .int (nI 0), .int (nI 0), .int (nI 0)]))] := hD
  refine lv_aload_n G.1 G.2.1 d_Re_init_35 rfl (lv_at hl 0 rfl) ?_
  refine lv_iconst (v := nI 0) G.1 G.2.1 d_Re_init_36 (by decide) ?_
  refine kp (ci := 6) G iRe tRe tRe_ok nRe hP hD hS 0 rfl rfl 9 (by decide) q596 rfl rfl rfl rfl (Nat.le_of_ble_eq_true rfl) d_Re_init_37 (fun H locs hP hD hS => ?_)
  have hP : va_P D CL [(h0, .inr (6, [.int (-2), .int (nI 0), .null, .null, .null, .int (nI 0), .int (nI 0), .int (nI 0), .int (nI 0), .int (nI 0), .int (nI 0), .null, .int (nI 0), .null, .null, .int (nI 0), .int (nI 0), .int (nI 0)]))] H := hP
  have hD : va_D A [(h0, .inr (6, [.int (-2), .int (nI 0), .null, .null, .null, .int (nI 0), .int (nI 0), .int (nI 0), .int (nI 0), .int (nI 0), .int (nI 0), .null, .int (nI 0), .null, .null, .int (nI 0), .int (nI 0), .int (nI 0)]))] := hD
  refine W.eq (g2 := F0 m 40 ls []) rfl ?_
  refine lv_aload_n G.1 G.2.1 d_Re_init_40 rfl (lv_at hl 0 rfl) ?_
  refine lv_iconst (v := nI 0) G.1 G.2.1 d_Re_init_41 (by decide) ?_
  refine kp (ci := 6) G iRe tRe tRe_ok nRe hP hD hS 0 rfl rfl 10 (by decide) q597 rfl rfl rfl rfl (Nat.le_of_ble_eq_true rfl) d_Re_init_42 (fun H locs hP hD hS => ?_)
  have hP : va_P D CL [(h0, .inr (6, [.int (-2), .int (nI 0), .null, .null, .null, .int (nI 0), .int (nI 0), .int (nI 0), .int (nI 0), .int (nI 0), .int (nI 0), .null, .int (nI 0), .null, .null, .int (nI 0), .int (nI 0), .int (nI 0)]))] H := hP
  have hD : va_D A [(h0, .inr (6, [.int (-2), .int (nI 0), .null, .null, .null, .int (nI 0), .int (nI 0), .int (nI 0), .int (nI 0), .int (nI 0), .int (nI 0), .null, .int (nI 0), .null, .null, .int (nI 0), .int (nI 0), .int (nI 0)]))] := hD
  refine lv_aload_n G.1 G.2.1 d_Re_init_45 rfl (lv_at hl 0 rfl) ?_
  refine lv_bipush (v := nI 6) G.1 G.2.1 d_Re_init_46 (by decide) ?_
  refine kNew (ty := .int) (N' := 6) (a0 := (6, .inl (fun _ => nI 0))) G q404 rfl (fun _ h => h) 0 rfl hP hD hS (fun _ => rfl) (nI_pos (by omega)) (nI_clamp (by omega)) (Nat.le_of_ble_eq_true rfl) (Nat.le_of_ble_eq_true rfl) (Nat.le_of_ble_eq_true rfl) d_Re_init_48 (fun q_1 H hP hD hS => ?_)
  have hP : va_P D CL [(h0, .inr (6, [.int (-2), .int (nI 0), .null, .null, .null, .int (nI 0), .int (nI 0), .int (nI 0), .int (nI 0), .int (nI 0), .int (nI 0), .null, .int (nI 0), .null, .null, .int (nI 0), .int (nI 0), .int (nI 0)])), (q_1, .inl (g 0, 6, .inl (fun _ => nI 0)))] H := hP
  have hD : va_D A [(h0, .inr (6, [.int (-2), .int (nI 0), .null, .null, .null, .int (nI 0), .int (nI 0), .int (nI 0), .int (nI 0), .int (nI 0), .int (nI 0), .null, .int (nI 0), .null, .null, .int (nI 0), .int (nI 0), .int (nI 0)])), (q_1, .inl (g 0, 6, .inl (fun _ => nI 0)))] := hD
  refine W.widen (k := 1) (n := 6) (by omega) (by omega) ?_
  refine kpF (ci := 6) G iRe tRe tRe_ok nRe hP hD hS 0 rfl rfl 11 (by decide) q598 rfl rfl rfl rfl rfl rfl (Nat.le_of_ble_eq_true rfl) d_Re_init_50 (fun H locs hP hD hS => ?_)
  have hP : va_P D CL [(h0, .inr (6, [.int (-2), .int (nI 0), .null, .null, .null, .int (nI 0), .int (nI 0), .int (nI 0), .int (nI 0), .int (nI 0), .int (nI 0), .ref q_1, .int (nI 0), .null, .null, .int (nI 0), .int (nI 0), .int (nI 0)])), (q_1, .inl (g 0, 6, .inl (fun _ => nI 0)))] H := hP
  have hD : va_D A [(h0, .inr (6, [.int (-2), .int (nI 0), .null, .null, .null, .int (nI 0), .int (nI 0), .int (nI 0), .int (nI 0), .int (nI 0), .int (nI 0), .ref q_1, .int (nI 0), .null, .null, .int (nI 0), .int (nI 0), .int (nI 0)])), (q_1, .inl (g 0, 6, .inl (fun _ => nI 0)))] := hD
  refine lv_aload_n G.1 G.2.1 d_Re_init_53 rfl (lv_at hl 0 rfl) ?_
  refine lv_iconst (v := nI 0) G.1 G.2.1 d_Re_init_54 (by decide) ?_
  refine kp (ci := 6) G iRe tRe tRe_ok nRe hP hD hS 0 rfl rfl 12 (by decide) q599 rfl rfl rfl rfl (Nat.le_of_ble_eq_true rfl) d_Re_init_55 (fun H locs hP hD hS => ?_)
  have hP : va_P D CL [(h0, .inr (6, [.int (-2), .int (nI 0), .null, .null, .null, .int (nI 0), .int (nI 0), .int (nI 0), .int (nI 0), .int (nI 0), .int (nI 0), .ref q_1, .int (nI 0), .null, .null, .int (nI 0), .int (nI 0), .int (nI 0)])), (q_1, .inl (g 0, 6, .inl (fun _ => nI 0)))] H := hP
  have hD : va_D A [(h0, .inr (6, [.int (-2), .int (nI 0), .null, .null, .null, .int (nI 0), .int (nI 0), .int (nI 0), .int (nI 0), .int (nI 0), .int (nI 0), .ref q_1, .int (nI 0), .null, .null, .int (nI 0), .int (nI 0), .int (nI 0)])), (q_1, .inl (g 0, 6, .inl (fun _ => nI 0)))] := hD
  refine lv_aload_n G.1 G.2.1 d_Re_init_58 rfl (lv_at hl 0 rfl) ?_
  refine knew (ci := 3) (fs := [.null, .int (nI 0)]) G iIn tIn tIn_ok q583 q374 q331 hP hD hS rfl rfl (Nat.le_of_ble_eq_true rfl) (Nat.le_of_ble_eq_true rfl) d_Re_init_59 (fun q_2 H hP hD hS => ?_)
  have hP : va_P D CL [(h0, .inr (6, [.int (-2), .int (nI 0), .null, .null, .null, .int (nI 0), .int (nI 0), .int (nI 0), .int (nI 0), .int (nI 0), .int (nI 0), .ref q_1, .int (nI 0), .null, .null, .int (nI 0), .int (nI 0), .int (nI 0)])), (q_1, .inl (g 0, 6, .inl (fun _ => nI 0))), (q_2, .inr (3, [.null, .int (nI 0)]))] H := hP
  have hD : va_D A [(h0, .inr (6, [.int (-2), .int (nI 0), .null, .null, .null, .int (nI 0), .int (nI 0), .int (nI 0), .int (nI 0), .int (nI 0), .int (nI 0), .ref q_1, .int (nI 0), .null, .null, .int (nI 0), .int (nI 0), .int (nI 0)])), (q_1, .inl (g 0, 6, .inl (fun _ => nI 0))), (q_2, .inr (3, [.null, .int (nI 0)]))] := hD
  refine W.widen (k := 2) (n := 8) (by omega) (by omega) ?_
  refine W.eq (g2 := F0 m 62 ls [.ref q_2, .ref h0]) rfl ?_
  refine lv_dup G.1 G.2.1 d_Re_init_62 rfl ?_
  refine lv_bipush (v := nI 64) G.1 G.2.1 d_Re_init_63 (by decide) ?_
  refine kEv (wr := [(h0, .inr (6, [.int (-2), .int (nI 0), .null, .null, .null, .int (nI 0), .int (nI 0), .int (nI 0), .int (nI 0), .int (nI 0), .int (nI 0), .ref q_1, .int (nI 0), .null, .null, .int (nI 0), .int (nI 0), .int (nI 0)])), (q_1, .inl (g 0, 6, .inl (fun _ => nI 0)))]) G (kI (As := [.int (nI 64)]) (rest := [.ref q_2, .ref h0]) G hP hD hS [2] rfl rfl (c_In_init l D g q_2 64 H.size (by decide)) w_In_init q584 rfl rfl ⟨Nat.le_of_ble_eq_true rfl, Nat.le_of_ble_eq_true rfl⟩ (fun _ h => absurd h List.not_mem_nil) hl.1 rfl (Nat.le_of_ble_eq_true rfl) rfl ⟨Nat.le_of_ble_eq_true rfl, (Nat.le_of_ble_eq_true rfl)⟩ d_Re_init_65) hP hD hS [2] [0, 1] rfl rfl rfl rfl (fun u_4 H locs hw hP hD hS hzH => ?_)
  obtain ⟨x_5, rfl⟩ : ∃ z, z = u_4 := ⟨_, rfl⟩
  have hw : True := hw
  have hP : va_P D CL [(h0, .inr (6, [.int (-2), .int (nI 0), .null, .null, .null, .int (nI 0), .int (nI 0), .int (nI 0), .int (nI 0), .int (nI 0), .int (nI 0), .ref q_1, .int (nI 0), .null, .null, .int (nI 0), .int (nI 0), .int (nI 0)])), (q_1, .inl (g 0, 6, .inl (fun _ => nI 0))), (q_2, .inr (3, [.ref x_5, .int (nI 0)])), (x_5, .inl (g 0, 64, .inl (fun _ => nI 0)))] H := hP
  have hD : va_D A [(h0, .inr (6, [.int (-2), .int (nI 0), .null, .null, .null, .int (nI 0), .int (nI 0), .int (nI 0), .int (nI 0), .int (nI 0), .int (nI 0), .ref q_1, .int (nI 0), .null, .null, .int (nI 0), .int (nI 0), .int (nI 0)])), (q_1, .inl (g 0, 6, .inl (fun _ => nI 0))), (q_2, .inr (3, [.ref x_5, .int (nI 0)])), (x_5, .inl (g 0, 64, .inl (fun _ => nI 0)))] := hD
  refine W.widen (k := 3) (n := 72) (by omega) (by omega) ?_
  refine kpF (ci := 6) G iRe tRe tRe_ok nRe hP hD hS 0 rfl rfl 13 (by decide) q600 rfl rfl rfl rfl rfl rfl (Nat.le_of_ble_eq_true rfl) d_Re_init_68 (fun H locs hP hD hS => ?_)
  have hP : va_P D CL [(h0, .inr (6, [.int (-2), .int (nI 0), .null, .null, .null, .int (nI 0), .int (nI 0), .int (nI 0), .int (nI 0), .int (nI 0), .int (nI 0), .ref q_1, .int (nI 0), .ref q_2, .null, .int (nI 0), .int (nI 0), .int (nI 0)])), (q_1, .inl (g 0, 6, .inl (fun _ => nI 0))), (q_2, .inr (3, [.ref x_5, .int (nI 0)])), (x_5, .inl (g 0, 64, .inl (fun _ => nI 0)))] H := hP
  have hD : va_D A [(h0, .inr (6, [.int (-2), .int (nI 0), .null, .null, .null, .int (nI 0), .int (nI 0), .int (nI 0), .int (nI 0), .int (nI 0), .int (nI 0), .ref q_1, .int (nI 0), .ref q_2, .null, .int (nI 0), .int (nI 0), .int (nI 0)])), (q_1, .inl (g 0, 6, .inl (fun _ => nI 0))), (q_2, .inr (3, [.ref x_5, .int (nI 0)])), (x_5, .inl (g 0, 64, .inl (fun _ => nI 0)))] := hD
  refine lv_aload_n G.1 G.2.1 d_Re_init_71 rfl (lv_at hl 0 rfl) ?_
  refine knew (ci := 3) (fs := [.null, .int (nI 0)]) G iIn tIn tIn_ok q583 q374 q331 hP hD hS rfl rfl (Nat.le_of_ble_eq_true rfl) (Nat.le_of_ble_eq_true rfl) d_Re_init_72 (fun q_6 H hP hD hS => ?_)
  have hP : va_P D CL [(h0, .inr (6, [.int (-2), .int (nI 0), .null, .null, .null, .int (nI 0), .int (nI 0), .int (nI 0), .int (nI 0), .int (nI 0), .int (nI 0), .ref q_1, .int (nI 0), .ref q_2, .null, .int (nI 0), .int (nI 0), .int (nI 0)])), (q_1, .inl (g 0, 6, .inl (fun _ => nI 0))), (q_2, .inr (3, [.ref x_5, .int (nI 0)])), (x_5, .inl (g 0, 64, .inl (fun _ => nI 0))), (q_6, .inr (3, [.null, .int (nI 0)]))] H := hP
  have hD : va_D A [(h0, .inr (6, [.int (-2), .int (nI 0), .null, .null, .null, .int (nI 0), .int (nI 0), .int (nI 0), .int (nI 0), .int (nI 0), .int (nI 0), .ref q_1, .int (nI 0), .ref q_2, .null, .int (nI 0), .int (nI 0), .int (nI 0)])), (q_1, .inl (g 0, 6, .inl (fun _ => nI 0))), (q_2, .inr (3, [.ref x_5, .int (nI 0)])), (x_5, .inl (g 0, 64, .inl (fun _ => nI 0))), (q_6, .inr (3, [.null, .int (nI 0)]))] := hD
  refine W.widen (k := 4) (n := 74) (by omega) (by omega) ?_
  refine lv_dup G.1 G.2.1 d_Re_init_75 rfl ?_
  refine lv_sipush (v := nI 128) G.1 G.2.1 d_Re_init_76 (by decide) ?_
  refine kEv (wr := [(h0, .inr (6, [.int (-2), .int (nI 0), .null, .null, .null, .int (nI 0), .int (nI 0), .int (nI 0), .int (nI 0), .int (nI 0), .int (nI 0), .ref q_1, .int (nI 0), .ref q_2, .null, .int (nI 0), .int (nI 0), .int (nI 0)])), (q_1, .inl (g 0, 6, .inl (fun _ => nI 0))), (q_2, .inr (3, [.ref x_5, .int (nI 0)])), (x_5, .inl (g 0, 64, .inl (fun _ => nI 0)))]) G (kI (As := [.int (nI 128)]) (rest := [.ref q_6, .ref h0]) G hP hD hS [4] rfl rfl (c_In_init l D g q_6 128 H.size (by decide)) w_In_init q584 rfl rfl ⟨Nat.le_of_ble_eq_true rfl, Nat.le_of_ble_eq_true rfl⟩ (fun _ h => absurd h List.not_mem_nil) hl.1 rfl (Nat.le_of_ble_eq_true rfl) rfl ⟨Nat.le_of_ble_eq_true rfl, (Nat.le_of_ble_eq_true rfl)⟩ d_Re_init_79) hP hD hS [4] [0, 1, 2, 3] rfl rfl rfl rfl (fun u_8 H locs hw hP hD hS hzH => ?_)
  obtain ⟨x_9, rfl⟩ : ∃ z, z = u_8 := ⟨_, rfl⟩
  have hw : True := hw
  have hP : va_P D CL [(h0, .inr (6, [.int (-2), .int (nI 0), .null, .null, .null, .int (nI 0), .int (nI 0), .int (nI 0), .int (nI 0), .int (nI 0), .int (nI 0), .ref q_1, .int (nI 0), .ref q_2, .null, .int (nI 0), .int (nI 0), .int (nI 0)])), (q_1, .inl (g 0, 6, .inl (fun _ => nI 0))), (q_2, .inr (3, [.ref x_5, .int (nI 0)])), (x_5, .inl (g 0, 64, .inl (fun _ => nI 0))), (q_6, .inr (3, [.ref x_9, .int (nI 0)])), (x_9, .inl (g 0, 128, .inl (fun _ => nI 0)))] H := hP
  have hD : va_D A [(h0, .inr (6, [.int (-2), .int (nI 0), .null, .null, .null, .int (nI 0), .int (nI 0), .int (nI 0), .int (nI 0), .int (nI 0), .int (nI 0), .ref q_1, .int (nI 0), .ref q_2, .null, .int (nI 0), .int (nI 0), .int (nI 0)])), (q_1, .inl (g 0, 6, .inl (fun _ => nI 0))), (q_2, .inr (3, [.ref x_5, .int (nI 0)])), (x_5, .inl (g 0, 64, .inl (fun _ => nI 0))), (q_6, .inr (3, [.ref x_9, .int (nI 0)])), (x_9, .inl (g 0, 128, .inl (fun _ => nI 0)))] := hD
  refine W.widen (k := 5) (n := 202) (by omega) (by omega) ?_
  refine kpF (ci := 6) G iRe tRe tRe_ok nRe hP hD hS 0 rfl rfl 14 (by decide) q601 rfl rfl rfl rfl rfl rfl (Nat.le_of_ble_eq_true rfl) d_Re_init_82 (fun H locs hP hD hS => ?_)
  have hP : va_P D CL [(h0, .inr (6, [.int (-2), .int (nI 0), .null, .null, .null, .int (nI 0), .int (nI 0), .int (nI 0), .int (nI 0), .int (nI 0), .int (nI 0), .ref q_1, .int (nI 0), .ref q_2, .ref q_6, .int (nI 0), .int (nI 0), .int (nI 0)])), (q_1, .inl (g 0, 6, .inl (fun _ => nI 0))), (q_2, .inr (3, [.ref x_5, .int (nI 0)])), (x_5, .inl (g 0, 64, .inl (fun _ => nI 0))), (q_6, .inr (3, [.ref x_9, .int (nI 0)])), (x_9, .inl (g 0, 128, .inl (fun _ => nI 0)))] H := hP
  have hD : va_D A [(h0, .inr (6, [.int (-2), .int (nI 0), .null, .null, .null, .int (nI 0), .int (nI 0), .int (nI 0), .int (nI 0), .int (nI 0), .int (nI 0), .ref q_1, .int (nI 0), .ref q_2, .ref q_6, .int (nI 0), .int (nI 0), .int (nI 0)])), (q_1, .inl (g 0, 6, .inl (fun _ => nI 0))), (q_2, .inr (3, [.ref x_5, .int (nI 0)])), (x_5, .inl (g 0, 64, .inl (fun _ => nI 0))), (q_6, .inr (3, [.ref x_9, .int (nI 0)])), (x_9, .inl (g 0, 128, .inl (fun _ => nI 0)))] := hD
  refine lv_aload_n G.1 G.2.1 d_Re_init_85 rfl (lv_at hl 0 rfl) ?_
  refine lv_iconst (v := (-1)) G.1 G.2.1 d_Re_init_86 (by decide) ?_
  refine W.eq (g2 := F0 m 87 ls [.int (-1), .ref h0]) rfl ?_
  refine kp (ci := 6) G iRe tRe tRe_ok nRe hP hD hS 0 rfl rfl 15 (by decide) q602 rfl rfl rfl rfl (Nat.le_of_ble_eq_true rfl) d_Re_init_87 (fun H locs hP hD hS => ?_)
  have hP : va_P D CL [(h0, .inr (6, [.int (-2), .int (nI 0), .null, .null, .null, .int (nI 0), .int (nI 0), .int (nI 0), .int (nI 0), .int (nI 0), .int (nI 0), .ref q_1, .int (nI 0), .ref q_2, .ref q_6, .int (-1), .int (nI 0), .int (nI 0)])), (q_1, .inl (g 0, 6, .inl (fun _ => nI 0))), (q_2, .inr (3, [.ref x_5, .int (nI 0)])), (x_5, .inl (g 0, 64, .inl (fun _ => nI 0))), (q_6, .inr (3, [.ref x_9, .int (nI 0)])), (x_9, .inl (g 0, 128, .inl (fun _ => nI 0)))] H := hP
  have hD : va_D A [(h0, .inr (6, [.int (-2), .int (nI 0), .null, .null, .null, .int (nI 0), .int (nI 0), .int (nI 0), .int (nI 0), .int (nI 0), .int (nI 0), .ref q_1, .int (nI 0), .ref q_2, .ref q_6, .int (-1), .int (nI 0), .int (nI 0)])), (q_1, .inl (g 0, 6, .inl (fun _ => nI 0))), (q_2, .inr (3, [.ref x_5, .int (nI 0)])), (x_5, .inl (g 0, 64, .inl (fun _ => nI 0))), (q_6, .inr (3, [.ref x_9, .int (nI 0)])), (x_9, .inl (g 0, 128, .inl (fun _ => nI 0)))] := hD
  refine lv_aload_n G.1 G.2.1 d_Re_init_90 rfl (lv_at hl 0 rfl) ?_
  refine lv_iconst (v := (-1)) G.1 G.2.1 d_Re_init_91 (by decide) ?_
  refine kp (ci := 6) G iRe tRe tRe_ok nRe hP hD hS 0 rfl rfl 16 (by decide) q603 rfl rfl rfl rfl (Nat.le_of_ble_eq_true rfl) d_Re_init_92 (fun H locs hP hD hS => ?_)
  have hP : va_P D CL [(h0, .inr (6, [.int (-2), .int (nI 0), .null, .null, .null, .int (nI 0), .int (nI 0), .int (nI 0), .int (nI 0), .int (nI 0), .int (nI 0), .ref q_1, .int (nI 0), .ref q_2, .ref q_6, .int (-1), .int (-1), .int (nI 0)])), (q_1, .inl (g 0, 6, .inl (fun _ => nI 0))), (q_2, .inr (3, [.ref x_5, .int (nI 0)])), (x_5, .inl (g 0, 64, .inl (fun _ => nI 0))), (q_6, .inr (3, [.ref x_9, .int (nI 0)])), (x_9, .inl (g 0, 128, .inl (fun _ => nI 0)))] H := hP
  have hD : va_D A [(h0, .inr (6, [.int (-2), .int (nI 0), .null, .null, .null, .int (nI 0), .int (nI 0), .int (nI 0), .int (nI 0), .int (nI 0), .int (nI 0), .ref q_1, .int (nI 0), .ref q_2, .ref q_6, .int (-1), .int (-1), .int (nI 0)])), (q_1, .inl (g 0, 6, .inl (fun _ => nI 0))), (q_2, .inr (3, [.ref x_5, .int (nI 0)])), (x_5, .inl (g 0, 64, .inl (fun _ => nI 0))), (q_6, .inr (3, [.ref x_9, .int (nI 0)])), (x_9, .inl (g 0, 128, .inl (fun _ => nI 0)))] := hD
  refine lv_aload_n G.1 G.2.1 d_Re_init_95 rfl (lv_at hl 0 rfl) ?_
  refine lv_iconst (v := nI 0) G.1 G.2.1 d_Re_init_96 (by decide) ?_
  refine kp (ci := 6) G iRe tRe tRe_ok nRe hP hD hS 0 rfl rfl 17 (by decide) q604 rfl rfl rfl rfl (Nat.le_of_ble_eq_true rfl) d_Re_init_97 (fun H locs hP hD hS => ?_)
  have hP : va_P D CL [(h0, .inr (6, [.int (-2), .int (nI 0), .null, .null, .null, .int (nI 0), .int (nI 0), .int (nI 0), .int (nI 0), .int (nI 0), .int (nI 0), .ref q_1, .int (nI 0), .ref q_2, .ref q_6, .int (-1), .int (-1), .int (nI 0)])), (q_1, .inl (g 0, 6, .inl (fun _ => nI 0))), (q_2, .inr (3, [.ref x_5, .int (nI 0)])), (x_5, .inl (g 0, 64, .inl (fun _ => nI 0))), (q_6, .inr (3, [.ref x_9, .int (nI 0)])), (x_9, .inl (g 0, 128, .inl (fun _ => nI 0)))] H := hP
  have hD : va_D A [(h0, .inr (6, [.int (-2), .int (nI 0), .null, .null, .null, .int (nI 0), .int (nI 0), .int (nI 0), .int (nI 0), .int (nI 0), .int (nI 0), .ref q_1, .int (nI 0), .ref q_2, .ref q_6, .int (-1), .int (-1), .int (nI 0)])), (q_1, .inl (g 0, 6, .inl (fun _ => nI 0))), (q_2, .inr (3, [.ref x_5, .int (nI 0)])), (x_5, .inl (g 0, 64, .inl (fun _ => nI 0))), (q_6, .inr (3, [.ref x_9, .int (nI 0)])), (x_9, .inl (g 0, 128, .inl (fun _ => nI 0)))] := hD
  refine lv_aload_n G.1 G.2.1 d_Re_init_100 rfl (lv_at hl 0 rfl) ?_
  refine lv_aload_n G.1 G.2.1 d_Re_init_101 rfl (lv_at hl 1 rfl) ?_
  refine kpF (ci := 6) G iRe tRe tRe_ok nRe hP hD hS 0 rfl rfl 2 (by decide) q589 rfl rfl rfl rfl rfl rfl (Nat.le_of_ble_eq_true rfl) d_Re_init_102 (fun H locs hP hD hS => ?_)
  have hP : va_P D CL [(h0, .inr (6, [.int (-2), .int (nI 0), .ref nm, .null, .null, .int (nI 0), .int (nI 0), .int (nI 0), .int (nI 0), .int (nI 0), .int (nI 0), .ref q_1, .int (nI 0), .ref q_2, .ref q_6, .int (-1), .int (-1), .int (nI 0)])), (q_1, .inl (g 0, 6, .inl (fun _ => nI 0))), (q_2, .inr (3, [.ref x_5, .int (nI 0)])), (x_5, .inl (g 0, 64, .inl (fun _ => nI 0))), (q_6, .inr (3, [.ref x_9, .int (nI 0)])), (x_9, .inl (g 0, 128, .inl (fun _ => nI 0)))] H := hP
  have hD : va_D A [(h0, .inr (6, [.int (-2), .int (nI 0), .ref nm, .null, .null, .int (nI 0), .int (nI 0), .int (nI 0), .int (nI 0), .int (nI 0), .int (nI 0), .ref q_1, .int (nI 0), .ref q_2, .ref q_6, .int (-1), .int (-1), .int (nI 0)])), (q_1, .inl (g 0, 6, .inl (fun _ => nI 0))), (q_2, .inr (3, [.ref x_5, .int (nI 0)])), (x_5, .inl (g 0, 64, .inl (fun _ => nI 0))), (q_6, .inr (3, [.ref x_9, .int (nI 0)])), (x_9, .inl (g 0, 128, .inl (fun _ => nI 0)))] := hD
  refine lv_aload_n G.1 G.2.1 d_Re_init_105 rfl (lv_at hl 0 rfl) ?_
  refine lv_aload_n G.1 G.2.1 d_Re_init_106 rfl (lv_at hl 2 rfl) ?_
  refine W.eq (g2 := F0 m 107 ls [.ref wo, .ref h0]) rfl ?_
  refine kpF (ci := 6) G iRe tRe tRe_ok nRe hP hD hS 0 rfl rfl 3 (by decide) q590 rfl rfl rfl rfl rfl rfl (Nat.le_of_ble_eq_true rfl) d_Re_init_107 (fun H locs hP hD hS => ?_)
  have hP : va_P D CL [(h0, .inr (6, [.int (-2), .int (nI 0), .ref nm, .ref wo, .null, .int (nI 0), .int (nI 0), .int (nI 0), .int (nI 0), .int (nI 0), .int (nI 0), .ref q_1, .int (nI 0), .ref q_2, .ref q_6, .int (-1), .int (-1), .int (nI 0)])), (q_1, .inl (g 0, 6, .inl (fun _ => nI 0))), (q_2, .inr (3, [.ref x_5, .int (nI 0)])), (x_5, .inl (g 0, 64, .inl (fun _ => nI 0))), (q_6, .inr (3, [.ref x_9, .int (nI 0)])), (x_9, .inl (g 0, 128, .inl (fun _ => nI 0)))] H := hP
  have hD : va_D A [(h0, .inr (6, [.int (-2), .int (nI 0), .ref nm, .ref wo, .null, .int (nI 0), .int (nI 0), .int (nI 0), .int (nI 0), .int (nI 0), .int (nI 0), .ref q_1, .int (nI 0), .ref q_2, .ref q_6, .int (-1), .int (-1), .int (nI 0)])), (q_1, .inl (g 0, 6, .inl (fun _ => nI 0))), (q_2, .inr (3, [.ref x_5, .int (nI 0)])), (x_5, .inl (g 0, 64, .inl (fun _ => nI 0))), (q_6, .inr (3, [.ref x_9, .int (nI 0)])), (x_9, .inl (g 0, 128, .inl (fun _ => nI 0)))] := hD
  refine lv_aload_n G.1 G.2.1 d_Re_init_110 rfl (lv_at hl 0 rfl) ?_
  refine lv_null G.1 G.2.1 d_Re_init_111 ?_
  refine kp (ci := 6) G iRe tRe tRe_ok nRe hP hD hS 0 rfl rfl 4 (by decide) q591 rfl rfl rfl rfl (Nat.le_of_ble_eq_true rfl) d_Re_init_112 (fun H locs hP hD hS => ?_)
  have hP : va_P D CL [(h0, .inr (6, [.int (-2), .int (nI 0), .ref nm, .ref wo, .null, .int (nI 0), .int (nI 0), .int (nI 0), .int (nI 0), .int (nI 0), .int (nI 0), .ref q_1, .int (nI 0), .ref q_2, .ref q_6, .int (-1), .int (-1), .int (nI 0)])), (q_1, .inl (g 0, 6, .inl (fun _ => nI 0))), (q_2, .inr (3, [.ref x_5, .int (nI 0)])), (x_5, .inl (g 0, 64, .inl (fun _ => nI 0))), (q_6, .inr (3, [.ref x_9, .int (nI 0)])), (x_9, .inl (g 0, 128, .inl (fun _ => nI 0)))] H := hP
  have hD : va_D A [(h0, .inr (6, [.int (-2), .int (nI 0), .ref nm, .ref wo, .null, .int (nI 0), .int (nI 0), .int (nI 0), .int (nI 0), .int (nI 0), .int (nI 0), .ref q_1, .int (nI 0), .ref q_2, .ref q_6, .int (-1), .int (-1), .int (nI 0)])), (q_1, .inl (g 0, 6, .inl (fun _ => nI 0))), (q_2, .inr (3, [.ref x_5, .int (nI 0)])), (x_5, .inl (g 0, 64, .inl (fun _ => nI 0))), (q_6, .inr (3, [.ref x_9, .int (nI 0)])), (x_9, .inl (g 0, 128, .inl (fun _ => nI 0)))] := hD
  refine hret () _ _ _ _ _ ls trivial (hP.sub [] rfl) (hD.sub [] (by decide) rfl) hS (Nat.le_of_ble_eq_true rfl) (Nat.le_of_ble_eq_true rfl) d_Re_init_115
def y_Ck_init : MethodName := ⟨"ClassWorks$Checker", "<init>", "(LClassWorks$Names;)V"⟩
abbrev b_Ck_init : ByteArray := prog_2_method_1_code
theorem q647 : Cond.methodLink "ClassWorks$Checker" 3 Lib.objectInit ∈ lw_ok := lw_okmem (List.mem_of_getElem? (i := 647) (by decide +kernel)) rfl
theorem q648 : Cond.fieldLink "ClassWorks$Checker" 9 "ClassWorks$Checker" "spot" "I" ∈ lw_ok := lw_okmem (List.mem_of_getElem? (i := 648) (by decide +kernel)) rfl
theorem q651 : Cond.fieldLink "ClassWorks$Checker" 15 "ClassWorks$Checker" "spotMethod" "I" ∈ lw_ok := lw_okmem (List.mem_of_getElem? (i := 651) (by decide +kernel)) rfl
theorem q655 : Cond.fieldLink "ClassWorks$Checker" 18 "ClassWorks$Checker" "cls" "I" ∈ lw_ok := lw_okmem (List.mem_of_getElem? (i := 655) (by decide +kernel)) rfl
theorem q656 : Cond.fieldLink "ClassWorks$Checker" 21 "ClassWorks$Checker" "code0" "I" ∈ lw_ok := lw_okmem (List.mem_of_getElem? (i := 656) (by decide +kernel)) rfl
theorem q657 : Cond.fieldLink "ClassWorks$Checker" 24 "ClassWorks$Checker" "codes" "I" ∈ lw_ok := lw_okmem (List.mem_of_getElem? (i := 657) (by decide +kernel)) rfl
theorem q658 : Cond.fieldLink "ClassWorks$Checker" 27 "ClassWorks$Checker" "locals" "I" ∈ lw_ok := lw_okmem (List.mem_of_getElem? (i := 658) (by decide +kernel)) rfl
theorem q659 : Cond.fieldLink "ClassWorks$Checker" 30 "ClassWorks$Checker" "stack" "I" ∈ lw_ok := lw_okmem (List.mem_of_getElem? (i := 659) (by decide +kernel)) rfl
theorem q660 : Cond.fieldLink "ClassWorks$Checker" 33 "ClassWorks$Checker" "result" "I" ∈ lw_ok := lw_okmem (List.mem_of_getElem? (i := 660) (by decide +kernel)) rfl
theorem q661 : Cond.fieldLink "ClassWorks$Checker" 36 "ClassWorks$Checker" "inMake" "Z" ∈ lw_ok := lw_okmem (List.mem_of_getElem? (i := 661) (by decide +kernel)) rfl
theorem q662 : Cond.fieldLink "ClassWorks$Checker" 40 "ClassWorks$Checker" "row" "I" ∈ lw_ok := lw_okmem (List.mem_of_getElem? (i := 662) (by decide +kernel)) rfl
theorem q663 : Cond.fieldLink "ClassWorks$Checker" 43 "ClassWorks$Checker" "op" "I" ∈ lw_ok := lw_okmem (List.mem_of_getElem? (i := 663) (by decide +kernel)) rfl
theorem q664 : Cond.fieldLink "ClassWorks$Checker" 46 "ClassWorks$Checker" "wants" "I" ∈ lw_ok := lw_okmem (List.mem_of_getElem? (i := 664) (by decide +kernel)) rfl
theorem q665 : Cond.fieldLink "ClassWorks$Checker" 49 "ClassWorks$Checker" "makes" "Z" ∈ lw_ok := lw_okmem (List.mem_of_getElem? (i := 665) (by decide +kernel)) rfl
theorem q666 : Cond.fieldLink "ClassWorks$Checker" 52 "ClassWorks$Checker" "now" "[I" ∈ lw_ok := lw_okmem (List.mem_of_getElem? (i := 666) (by decide +kernel)) rfl
theorem q667 : Cond.fieldLink "ClassWorks$Checker" 56 "ClassWorks$Checker" "depth" "I" ∈ lw_ok := lw_okmem (List.mem_of_getElem? (i := 667) (by decide +kernel)) rfl
theorem q668 : Cond.fieldLink "ClassWorks$Checker" 59 "ClassWorks$Checker" "changed" "Z" ∈ lw_ok := lw_okmem (List.mem_of_getElem? (i := 668) (by decide +kernel)) rfl
theorem q669 : Cond.fieldLink "ClassWorks$Checker" 62 "ClassWorks$Checker" "known" "[I" ∈ lw_ok := lw_okmem (List.mem_of_getElem? (i := 669) (by decide +kernel)) rfl
theorem q670 : Cond.fieldLink "ClassWorks$Checker" 65 "ClassWorks$Checker" "depths" "[I" ∈ lw_ok := lw_okmem (List.mem_of_getElem? (i := 670) (by decide +kernel)) rfl
theorem q671 : Cond.fieldLink "ClassWorks$Checker" 68 "ClassWorks$Checker" "toldCodes" "I" ∈ lw_ok := lw_okmem (List.mem_of_getElem? (i := 671) (by decide +kernel)) rfl
theorem q672 : Cond.fieldLink "ClassWorks$Checker" 71 "ClassWorks$Checker" "toldLocals" "I" ∈ lw_ok := lw_okmem (List.mem_of_getElem? (i := 672) (by decide +kernel)) rfl
theorem q653 : Cond.fieldLink "ClassWorks$Checker" 74 "ClassWorks$Checker" "names" "LClassWorks$Names;" ∈ lw_ok := lw_okmem (List.mem_of_getElem? (i := 653) (by decide +kernel)) rfl
theorem q654 : Cond.fieldLink "ClassWorks$Checker" 78 "ClassWorks$Checker" "world" "LClassWorks$World;" ∈ lw_ok := lw_okmem (List.mem_of_getElem? (i := 654) (by decide +kernel)) rfl
theorem d_Ck_init_0 : decode b_Ck_init 0 = .ok (.aload_n 0, 1) := by decide +kernel
theorem d_Ck_init_1 : decode b_Ck_init 1 = .ok (.invokespecial 3, 3) := by decide +kernel
theorem d_Ck_init_4 : decode b_Ck_init 4 = .ok (.aload_n 0, 1) := by decide +kernel
theorem d_Ck_init_5 : decode b_Ck_init 5 = .ok (.iconst 0, 1) := by decide +kernel
theorem d_Ck_init_6 : decode b_Ck_init 6 = .ok (.putfield 9, 3) := by decide +kernel
theorem d_Ck_init_9 : decode b_Ck_init 9 = .ok (.aload_n 0, 1) := by decide +kernel
theorem d_Ck_init_10 : decode b_Ck_init 10 = .ok (.iconst 0, 1) := by decide +kernel
theorem d_Ck_init_11 : decode b_Ck_init 11 = .ok (.putfield 15, 3) := by decide +kernel
theorem d_Ck_init_14 : decode b_Ck_init 14 = .ok (.aload_n 0, 1) := by decide +kernel
theorem d_Ck_init_15 : decode b_Ck_init 15 = .ok (.iconst 0, 1) := by decide +kernel
theorem d_Ck_init_16 : decode b_Ck_init 16 = .ok (.putfield 18, 3) := by decide +kernel
theorem d_Ck_init_19 : decode b_Ck_init 19 = .ok (.aload_n 0, 1) := by decide +kernel
theorem d_Ck_init_20 : decode b_Ck_init 20 = .ok (.iconst 0, 1) := by decide +kernel
theorem d_Ck_init_21 : decode b_Ck_init 21 = .ok (.putfield 21, 3) := by decide +kernel
theorem d_Ck_init_24 : decode b_Ck_init 24 = .ok (.aload_n 0, 1) := by decide +kernel
theorem d_Ck_init_25 : decode b_Ck_init 25 = .ok (.iconst 0, 1) := by decide +kernel
theorem d_Ck_init_26 : decode b_Ck_init 26 = .ok (.putfield 24, 3) := by decide +kernel
theorem d_Ck_init_29 : decode b_Ck_init 29 = .ok (.aload_n 0, 1) := by decide +kernel
theorem d_Ck_init_30 : decode b_Ck_init 30 = .ok (.iconst 0, 1) := by decide +kernel
theorem d_Ck_init_31 : decode b_Ck_init 31 = .ok (.putfield 27, 3) := by decide +kernel
theorem d_Ck_init_34 : decode b_Ck_init 34 = .ok (.aload_n 0, 1) := by decide +kernel
theorem d_Ck_init_35 : decode b_Ck_init 35 = .ok (.iconst 0, 1) := by decide +kernel
theorem d_Ck_init_36 : decode b_Ck_init 36 = .ok (.putfield 30, 3) := by decide +kernel
theorem d_Ck_init_39 : decode b_Ck_init 39 = .ok (.aload_n 0, 1) := by decide +kernel
theorem d_Ck_init_40 : decode b_Ck_init 40 = .ok (.iconst 5, 1) := by decide +kernel
theorem d_Ck_init_41 : decode b_Ck_init 41 = .ok (.putfield 33, 3) := by decide +kernel
theorem d_Ck_init_44 : decode b_Ck_init 44 = .ok (.aload_n 0, 1) := by decide +kernel
theorem d_Ck_init_45 : decode b_Ck_init 45 = .ok (.iconst 0, 1) := by decide +kernel
theorem d_Ck_init_46 : decode b_Ck_init 46 = .ok (.putfield 36, 3) := by decide +kernel
theorem d_Ck_init_49 : decode b_Ck_init 49 = .ok (.aload_n 0, 1) := by decide +kernel
theorem d_Ck_init_50 : decode b_Ck_init 50 = .ok (.iconst 0, 1) := by decide +kernel
theorem d_Ck_init_51 : decode b_Ck_init 51 = .ok (.putfield 40, 3) := by decide +kernel
theorem d_Ck_init_54 : decode b_Ck_init 54 = .ok (.aload_n 0, 1) := by decide +kernel
theorem d_Ck_init_55 : decode b_Ck_init 55 = .ok (.iconst 0, 1) := by decide +kernel
theorem d_Ck_init_56 : decode b_Ck_init 56 = .ok (.putfield 43, 3) := by decide +kernel
theorem d_Ck_init_59 : decode b_Ck_init 59 = .ok (.aload_n 0, 1) := by decide +kernel
theorem d_Ck_init_60 : decode b_Ck_init 60 = .ok (.iconst 0, 1) := by decide +kernel
theorem d_Ck_init_61 : decode b_Ck_init 61 = .ok (.putfield 46, 3) := by decide +kernel
theorem d_Ck_init_64 : decode b_Ck_init 64 = .ok (.aload_n 0, 1) := by decide +kernel
theorem d_Ck_init_65 : decode b_Ck_init 65 = .ok (.iconst 0, 1) := by decide +kernel
theorem d_Ck_init_66 : decode b_Ck_init 66 = .ok (.putfield 49, 3) := by decide +kernel
theorem d_Ck_init_69 : decode b_Ck_init 69 = .ok (.aload_n 0, 1) := by decide +kernel
theorem d_Ck_init_70 : decode b_Ck_init 70 = .ok (.bipush 40, 2) := by decide +kernel
theorem d_Ck_init_72 : decode b_Ck_init 72 = .ok (.newarray .int, 2) := by decide +kernel
theorem d_Ck_init_74 : decode b_Ck_init 74 = .ok (.putfield 52, 3) := by decide +kernel
theorem d_Ck_init_77 : decode b_Ck_init 77 = .ok (.aload_n 0, 1) := by decide +kernel
theorem d_Ck_init_78 : decode b_Ck_init 78 = .ok (.iconst 0, 1) := by decide +kernel
theorem d_Ck_init_79 : decode b_Ck_init 79 = .ok (.putfield 56, 3) := by decide +kernel
theorem d_Ck_init_82 : decode b_Ck_init 82 = .ok (.aload_n 0, 1) := by decide +kernel
theorem d_Ck_init_83 : decode b_Ck_init 83 = .ok (.iconst 0, 1) := by decide +kernel
theorem d_Ck_init_84 : decode b_Ck_init 84 = .ok (.putfield 59, 3) := by decide +kernel
theorem d_Ck_init_87 : decode b_Ck_init 87 = .ok (.aload_n 0, 1) := by decide +kernel
theorem d_Ck_init_88 : decode b_Ck_init 88 = .ok (.sipush 3200, 3) := by decide +kernel
theorem d_Ck_init_91 : decode b_Ck_init 91 = .ok (.newarray .int, 2) := by decide +kernel
theorem d_Ck_init_93 : decode b_Ck_init 93 = .ok (.putfield 62, 3) := by decide +kernel
theorem d_Ck_init_96 : decode b_Ck_init 96 = .ok (.aload_n 0, 1) := by decide +kernel
theorem d_Ck_init_97 : decode b_Ck_init 97 = .ok (.bipush 80, 2) := by decide +kernel
theorem d_Ck_init_99 : decode b_Ck_init 99 = .ok (.newarray .int, 2) := by decide +kernel
theorem d_Ck_init_101 : decode b_Ck_init 101 = .ok (.putfield 65, 3) := by decide +kernel
theorem d_Ck_init_104 : decode b_Ck_init 104 = .ok (.aload_n 0, 1) := by decide +kernel
theorem d_Ck_init_105 : decode b_Ck_init 105 = .ok (.iconst 0, 1) := by decide +kernel
theorem d_Ck_init_106 : decode b_Ck_init 106 = .ok (.putfield 68, 3) := by decide +kernel
theorem d_Ck_init_109 : decode b_Ck_init 109 = .ok (.aload_n 0, 1) := by decide +kernel
theorem d_Ck_init_110 : decode b_Ck_init 110 = .ok (.iconst 0, 1) := by decide +kernel
theorem d_Ck_init_111 : decode b_Ck_init 111 = .ok (.putfield 71, 3) := by decide +kernel
theorem d_Ck_init_114 : decode b_Ck_init 114 = .ok (.aload_n 0, 1) := by decide +kernel
theorem d_Ck_init_115 : decode b_Ck_init 115 = .ok (.aload_n 1, 1) := by decide +kernel
theorem d_Ck_init_116 : decode b_Ck_init 116 = .ok (.putfield 74, 3) := by decide +kernel
theorem d_Ck_init_119 : decode b_Ck_init 119 = .ok (.aload_n 0, 1) := by decide +kernel
theorem d_Ck_init_120 : decode b_Ck_init 120 = .ok (.aconst_null, 1) := by decide +kernel
theorem d_Ck_init_121 : decode b_Ck_init 121 = .ok (.putfield 78, 3) := by decide +kernel
theorem d_Ck_init_124 : decode b_Ck_init 124 = .ok (.return_, 1) := by decide +kernel
abbrev rm_Ck_init : Room := { frames := 1, cells := 3, slots := 3320, locals := 12 }
set_option maxHeartbeats 4000000 in
set_option maxRecDepth 100000 in
theorem c_Ck_init (l : Launch) (D : va_G) (g : Nat → ClassId) (h0 : Nat) (nm : Nat) (sz : Nat)  : Met l y_Ck_init (mw y_Ck_init b_Ck_init 2 (none)) (rm_Ck_init) (PC g D [] [.ref h0, .ref nm] sz [(h0, .inr (0, [.int (nI 0), .int (nI 0), .null, .null, .int (nI 0), .int (nI 0), .int (nI 0), .int (nI 0), .int (nI 0), .int (nI 0), .int (nI 0), .int (nI 0), .int (nI 0), .int (nI 0), .int (nI 0), .null, .int (nI 0), .int (nI 0), .null, .null, .int (nI 0), .int (nI 0)]))]) (va_Qv (fun u : Int32 × Int32 × Nat × Int32 × Int32 × Int32 × Int32 × Int32 × Int32 × Int32 × Int32 × Int32 × Int32 × Int32 × Nat × Int32 × Int32 × Nat × Nat × Int32 => True) (QW D (va_A [(h0, .inr (0, [.int (nI 0), .int (nI 0), .null, .null, .int (nI 0), .int (nI 0), .int (nI 0), .int (nI 0), .int (nI 0), .int (nI 0), .int (nI 0), .int (nI 0), .int (nI 0), .int (nI 0), .int (nI 0), .null, .int (nI 0), .int (nI 0), .null, .null, .int (nI 0), .int (nI 0)]))] sz) (fun u : Int32 × Int32 × Nat × Int32 × Int32 × Int32 × Int32 × Int32 × Int32 × Int32 × Int32 × Int32 × Int32 × Int32 × Nat × Int32 × Int32 × Nat × Nat × Int32 => [(h0, .inr (0, [.int u.1, .int u.2.1, .ref u.2.2.1, .null, .int u.2.2.2.1, .int u.2.2.2.2.1, .int u.2.2.2.2.2.1, .int u.2.2.2.2.2.2.1, .int u.2.2.2.2.2.2.2.1, .int u.2.2.2.2.2.2.2.2.1, .int u.2.2.2.2.2.2.2.2.2.1, .int u.2.2.2.2.2.2.2.2.2.2.1, .int u.2.2.2.2.2.2.2.2.2.2.2.1, .int u.2.2.2.2.2.2.2.2.2.2.2.2.1, .int u.2.2.2.2.2.2.2.2.2.2.2.2.2.1, .ref u.2.2.2.2.2.2.2.2.2.2.2.2.2.2.1, .int u.2.2.2.2.2.2.2.2.2.2.2.2.2.2.2.1, .int u.2.2.2.2.2.2.2.2.2.2.2.2.2.2.2.2.1, .ref u.2.2.2.2.2.2.2.2.2.2.2.2.2.2.2.2.2.1, .ref u.2.2.2.2.2.2.2.2.2.2.2.2.2.2.2.2.2.2.1, .int (nI 0), .int u.2.2.2.2.2.2.2.2.2.2.2.2.2.2.2.2.2.2.2]))])) (va_A [(h0, .inr (0, [.int (nI 0), .int (nI 0), .null, .null, .int (nI 0), .int (nI 0), .int (nI 0), .int (nI 0), .int (nI 0), .int (nI 0), .int (nI 0), .int (nI 0), .int (nI 0), .int (nI 0), .int (nI 0), .null, .int (nI 0), .int (nI 0), .null, .null, .int (nI 0), .int (nI 0)]))] sz)) 3 3320 (va_A [(h0, .inr (0, [.int (nI 0), .int (nI 0), .null, .null, .int (nI 0), .int (nI 0), .int (nI 0), .int (nI 0), .int (nI 0), .int (nI 0), .int (nI 0), .int (nI 0), .int (nI 0), .int (nI 0), .int (nI 0), .null, .int (nI 0), .int (nI 0), .null, .null, .int (nI 0), .int (nI 0)]))] sz) := by
  refine ofV (by decide +kernel) (Nat.le_of_ble_eq_true rfl) ?_
  intro p e s m args below meth c A Q ls H locs G hsz hP hD hS hl hret
  subst hsz
  have hl : lv_has ls 2 [(0, .ref h0), (1, .ref nm)] := hl
  refine lv_aload_n G.1 G.2.1 d_Ck_init_0 rfl (lv_at hl 0 rfl) ?_
  refine kobj G q647 q361 q362 hl.1 d_Ck_init_1 (Nat.le_of_ble_eq_true rfl) (Nat.le_of_ble_eq_true rfl) ?_
  refine lv_aload_n G.1 G.2.1 d_Ck_init_4 rfl (lv_at hl 0 rfl) ?_
  refine lv_iconst (v := nI 0) G.1 G.2.1 d_Ck_init_5 (by decide) ?_
  refine kp (ci := 0) G iCk tCk tCk_ok nCk hP hD hS 0 rfl rfl 0 (by decide) q648 rfl rfl rfl rfl (Nat.le_of_ble_eq_true rfl) d_Ck_init_6 (fun H locs hP hD hS => ?_)
  have hP : va_P D CL [(h0, .inr (0, [.int (nI 0), .int (nI 0), .null, .null, .int (nI 0), .int (nI 0), .int (nI 0), .int (nI 0), .int (nI 0), .int (nI 0), .int (nI 0), .int (nI 0), .int (nI 0), .int (nI 0), .int (nI 0), .null, .int (nI 0), .int (nI 0), .null, .null, .int (nI 0), .int (nI 0)]))] H := hP
  have hD : va_D A [(h0, .inr (0, [.int (nI 0), .int (nI 0), .null, .null, .int (nI 0), .int (nI 0), .int (nI 0), .int (nI 0), .int (nI 0), .int (nI 0), .int (nI 0), .int (nI 0), .int (nI 0), .int (nI 0), .int (nI 0), .null, .int (nI 0), .int (nI 0), .null, .null, .int (nI 0), .int (nI 0)]))] := hD
  refine lv_aload_n G.1 G.2.1 d_Ck_init_9 rfl (lv_at hl 0 rfl) ?_
  refine lv_iconst (v := nI 0) G.1 G.2.1 d_Ck_init_10 (by decide) ?_
  refine kp (ci := 0) G iCk tCk tCk_ok nCk hP hD hS 0 rfl rfl 1 (by decide) q651 rfl rfl rfl rfl (Nat.le_of_ble_eq_true rfl) d_Ck_init_11 (fun H locs hP hD hS => ?_)
  have hP : va_P D CL [(h0, .inr (0, [.int (nI 0), .int (nI 0), .null, .null, .int (nI 0), .int (nI 0), .int (nI 0), .int (nI 0), .int (nI 0), .int (nI 0), .int (nI 0), .int (nI 0), .int (nI 0), .int (nI 0), .int (nI 0), .null, .int (nI 0), .int (nI 0), .null, .null, .int (nI 0), .int (nI 0)]))] H := hP
  have hD : va_D A [(h0, .inr (0, [.int (nI 0), .int (nI 0), .null, .null, .int (nI 0), .int (nI 0), .int (nI 0), .int (nI 0), .int (nI 0), .int (nI 0), .int (nI 0), .int (nI 0), .int (nI 0), .int (nI 0), .int (nI 0), .null, .int (nI 0), .int (nI 0), .null, .null, .int (nI 0), .int (nI 0)]))] := hD
  refine lv_aload_n G.1 G.2.1 d_Ck_init_14 rfl (lv_at hl 0 rfl) ?_
  refine lv_iconst (v := nI 0) G.1 G.2.1 d_Ck_init_15 (by decide) ?_
  refine kp (ci := 0) G iCk tCk tCk_ok nCk hP hD hS 0 rfl rfl 4 (by decide) q655 rfl rfl rfl rfl (Nat.le_of_ble_eq_true rfl) d_Ck_init_16 (fun H locs hP hD hS => ?_)
  have hP : va_P D CL [(h0, .inr (0, [.int (nI 0), .int (nI 0), .null, .null, .int (nI 0), .int (nI 0), .int (nI 0), .int (nI 0), .int (nI 0), .int (nI 0), .int (nI 0), .int (nI 0), .int (nI 0), .int (nI 0), .int (nI 0), .null, .int (nI 0), .int (nI 0), .null, .null, .int (nI 0), .int (nI 0)]))] H := hP
  have hD : va_D A [(h0, .inr (0, [.int (nI 0), .int (nI 0), .null, .null, .int (nI 0), .int (nI 0), .int (nI 0), .int (nI 0), .int (nI 0), .int (nI 0), .int (nI 0), .int (nI 0), .int (nI 0), .int (nI 0), .int (nI 0), .null, .int (nI 0), .int (nI 0), .null, .null, .int (nI 0), .int (nI 0)]))] := hD
  refine W.eq (g2 := F0 m 19 ls []) rfl ?_
  refine lv_aload_n G.1 G.2.1 d_Ck_init_19 rfl (lv_at hl 0 rfl) ?_
  refine lv_iconst (v := nI 0) G.1 G.2.1 d_Ck_init_20 (by decide) ?_
  refine kp (ci := 0) G iCk tCk tCk_ok nCk hP hD hS 0 rfl rfl 5 (by decide) q656 rfl rfl rfl rfl (Nat.le_of_ble_eq_true rfl) d_Ck_init_21 (fun H locs hP hD hS => ?_)
  have hP : va_P D CL [(h0, .inr (0, [.int (nI 0), .int (nI 0), .null, .null, .int (nI 0), .int (nI 0), .int (nI 0), .int (nI 0), .int (nI 0), .int (nI 0), .int (nI 0), .int (nI 0), .int (nI 0), .int (nI 0), .int (nI 0), .null, .int (nI 0), .int (nI 0), .null, .null, .int (nI 0), .int (nI 0)]))] H := hP
  have hD : va_D A [(h0, .inr (0, [.int (nI 0), .int (nI 0), .null, .null, .int (nI 0), .int (nI 0), .int (nI 0), .int (nI 0), .int (nI 0), .int (nI 0), .int (nI 0), .int (nI 0), .int (nI 0), .int (nI 0), .int (nI 0), .null, .int (nI 0), .int (nI 0), .null, .null, .int (nI 0), .int (nI 0)]))] := hD
  refine lv_aload_n G.1 G.2.1 d_Ck_init_24 rfl (lv_at hl 0 rfl) ?_
  refine lv_iconst (v := nI 0) G.1 G.2.1 d_Ck_init_25 (by decide) ?_
  refine kp (ci := 0) G iCk tCk tCk_ok nCk hP hD hS 0 rfl rfl 6 (by decide) q657 rfl rfl rfl rfl (Nat.le_of_ble_eq_true rfl) d_Ck_init_26 (fun H locs hP hD hS => ?_)
  have hP : va_P D CL [(h0, .inr (0, [.int (nI 0), .int (nI 0), .null, .null, .int (nI 0), .int (nI 0), .int (nI 0), .int (nI 0), .int (nI 0), .int (nI 0), .int (nI 0), .int (nI 0), .int (nI 0), .int (nI 0), .int (nI 0), .null, .int (nI 0), .int (nI 0), .null, .null, .int (nI 0), .int (nI 0)]))] H := hP
  have hD : va_D A [(h0, .inr (0, [.int (nI 0), .int (nI 0), .null, .null, .int (nI 0), .int (nI 0), .int (nI 0), .int (nI 0), .int (nI 0), .int (nI 0), .int (nI 0), .int (nI 0), .int (nI 0), .int (nI 0), .int (nI 0), .null, .int (nI 0), .int (nI 0), .null, .null, .int (nI 0), .int (nI 0)]))] := hD
  refine lv_aload_n G.1 G.2.1 d_Ck_init_29 rfl (lv_at hl 0 rfl) ?_
  refine lv_iconst (v := nI 0) G.1 G.2.1 d_Ck_init_30 (by decide) ?_
  refine kp (ci := 0) G iCk tCk tCk_ok nCk hP hD hS 0 rfl rfl 7 (by decide) q658 rfl rfl rfl rfl (Nat.le_of_ble_eq_true rfl) d_Ck_init_31 (fun H locs hP hD hS => ?_)
  have hP : va_P D CL [(h0, .inr (0, [.int (nI 0), .int (nI 0), .null, .null, .int (nI 0), .int (nI 0), .int (nI 0), .int (nI 0), .int (nI 0), .int (nI 0), .int (nI 0), .int (nI 0), .int (nI 0), .int (nI 0), .int (nI 0), .null, .int (nI 0), .int (nI 0), .null, .null, .int (nI 0), .int (nI 0)]))] H := hP
  have hD : va_D A [(h0, .inr (0, [.int (nI 0), .int (nI 0), .null, .null, .int (nI 0), .int (nI 0), .int (nI 0), .int (nI 0), .int (nI 0), .int (nI 0), .int (nI 0), .int (nI 0), .int (nI 0), .int (nI 0), .int (nI 0), .null, .int (nI 0), .int (nI 0), .null, .null, .int (nI 0), .int (nI 0)]))] := hD
  refine lv_aload_n G.1 G.2.1 d_Ck_init_34 rfl (lv_at hl 0 rfl) ?_
  refine lv_iconst (v := nI 0) G.1 G.2.1 d_Ck_init_35 (by decide) ?_
  refine kp (ci := 0) G iCk tCk tCk_ok nCk hP hD hS 0 rfl rfl 8 (by decide) q659 rfl rfl rfl rfl (Nat.le_of_ble_eq_true rfl) d_Ck_init_36 (fun H locs hP hD hS => ?_)
  have hP : va_P D CL [(h0, .inr (0, [.int (nI 0), .int (nI 0), .null, .null, .int (nI 0), .int (nI 0), .int (nI 0), .int (nI 0), .int (nI 0), .int (nI 0), .int (nI 0), .int (nI 0), .int (nI 0), .int (nI 0), .int (nI 0), .null, .int (nI 0), .int (nI 0), .null, .null, .int (nI 0), .int (nI 0)]))] H := hP
  have hD : va_D A [(h0, .inr (0, [.int (nI 0), .int (nI 0), .null, .null, .int (nI 0), .int (nI 0), .int (nI 0), .int (nI 0), .int (nI 0), .int (nI 0), .int (nI 0), .int (nI 0), .int (nI 0), .int (nI 0), .int (nI 0), .null, .int (nI 0), .int (nI 0), .null, .null, .int (nI 0), .int (nI 0)]))] := hD
  refine W.eq (g2 := F0 m 39 ls []) rfl ?_
  refine lv_aload_n G.1 G.2.1 d_Ck_init_39 rfl (lv_at hl 0 rfl) ?_
  refine lv_iconst (v := nI 5) G.1 G.2.1 d_Ck_init_40 (by decide) ?_
  refine kp (ci := 0) G iCk tCk tCk_ok nCk hP hD hS 0 rfl rfl 9 (by decide) q660 rfl rfl rfl rfl (Nat.le_of_ble_eq_true rfl) d_Ck_init_41 (fun H locs hP hD hS => ?_)
  have hP : va_P D CL [(h0, .inr (0, [.int (nI 0), .int (nI 0), .null, .null, .int (nI 0), .int (nI 0), .int (nI 0), .int (nI 0), .int (nI 0), .int (nI 5), .int (nI 0), .int (nI 0), .int (nI 0), .int (nI 0), .int (nI 0), .null, .int (nI 0), .int (nI 0), .null, .null, .int (nI 0), .int (nI 0)]))] H := hP
  have hD : va_D A [(h0, .inr (0, [.int (nI 0), .int (nI 0), .null, .null, .int (nI 0), .int (nI 0), .int (nI 0), .int (nI 0), .int (nI 0), .int (nI 5), .int (nI 0), .int (nI 0), .int (nI 0), .int (nI 0), .int (nI 0), .null, .int (nI 0), .int (nI 0), .null, .null, .int (nI 0), .int (nI 0)]))] := hD
  refine lv_aload_n G.1 G.2.1 d_Ck_init_44 rfl (lv_at hl 0 rfl) ?_
  refine lv_iconst (v := nI 0) G.1 G.2.1 d_Ck_init_45 (by decide) ?_
  refine kp (ci := 0) G iCk tCk tCk_ok nCk hP hD hS 0 rfl rfl 10 (by decide) q661 rfl rfl (by decide +kernel) (by decide +kernel) (Nat.le_of_ble_eq_true rfl) d_Ck_init_46 (fun H locs hP hD hS => ?_)
  have hP : va_P D CL [(h0, .inr (0, [.int (nI 0), .int (nI 0), .null, .null, .int (nI 0), .int (nI 0), .int (nI 0), .int (nI 0), .int (nI 0), .int (nI 5), .int (nI 0), .int (nI 0), .int (nI 0), .int (nI 0), .int (nI 0), .null, .int (nI 0), .int (nI 0), .null, .null, .int (nI 0), .int (nI 0)]))] H := hP
  have hD : va_D A [(h0, .inr (0, [.int (nI 0), .int (nI 0), .null, .null, .int (nI 0), .int (nI 0), .int (nI 0), .int (nI 0), .int (nI 0), .int (nI 5), .int (nI 0), .int (nI 0), .int (nI 0), .int (nI 0), .int (nI 0), .null, .int (nI 0), .int (nI 0), .null, .null, .int (nI 0), .int (nI 0)]))] := hD
  refine lv_aload_n G.1 G.2.1 d_Ck_init_49 rfl (lv_at hl 0 rfl) ?_
  refine lv_iconst (v := nI 0) G.1 G.2.1 d_Ck_init_50 (by decide) ?_
  refine kp (ci := 0) G iCk tCk tCk_ok nCk hP hD hS 0 rfl rfl 11 (by decide) q662 rfl rfl rfl rfl (Nat.le_of_ble_eq_true rfl) d_Ck_init_51 (fun H locs hP hD hS => ?_)
  have hP : va_P D CL [(h0, .inr (0, [.int (nI 0), .int (nI 0), .null, .null, .int (nI 0), .int (nI 0), .int (nI 0), .int (nI 0), .int (nI 0), .int (nI 5), .int (nI 0), .int (nI 0), .int (nI 0), .int (nI 0), .int (nI 0), .null, .int (nI 0), .int (nI 0), .null, .null, .int (nI 0), .int (nI 0)]))] H := hP
  have hD : va_D A [(h0, .inr (0, [.int (nI 0), .int (nI 0), .null, .null, .int (nI 0), .int (nI 0), .int (nI 0), .int (nI 0), .int (nI 0), .int (nI 5), .int (nI 0), .int (nI 0), .int (nI 0), .int (nI 0), .int (nI 0), .null, .int (nI 0), .int (nI 0), .null, .null, .int (nI 0), .int (nI 0)]))] := hD
  refine lv_aload_n G.1 G.2.1 d_Ck_init_54 rfl (lv_at hl 0 rfl) ?_
  refine lv_iconst (v := nI 0) G.1 G.2.1 d_Ck_init_55 (by decide) ?_
  refine kp (ci := 0) G iCk tCk tCk_ok nCk hP hD hS 0 rfl rfl 12 (by decide) q663 rfl rfl rfl rfl (Nat.le_of_ble_eq_true rfl) d_Ck_init_56 (fun H locs hP hD hS => ?_)
  have hP : va_P D CL [(h0, .inr (0, [.int (nI 0), .int (nI 0), .null, .null, .int (nI 0), .int (nI 0), .int (nI 0), .int (nI 0), .int (nI 0), .int (nI 5), .int (nI 0), .int (nI 0), .int (nI 0), .int (nI 0), .int (nI 0), .null, .int (nI 0), .int (nI 0), .null, .null, .int (nI 0), .int (nI 0)]))] H := hP
  have hD : va_D A [(h0, .inr (0, [.int (nI 0), .int (nI 0), .null, .null, .int (nI 0), .int (nI 0), .int (nI 0), .int (nI 0), .int (nI 0), .int (nI 5), .int (nI 0), .int (nI 0), .int (nI 0), .int (nI 0), .int (nI 0), .null, .int (nI 0), .int (nI 0), .null, .null, .int (nI 0), .int (nI 0)]))] := hD
  refine W.eq (g2 := F0 m 59 ls []) rfl ?_
  refine lv_aload_n G.1 G.2.1 d_Ck_init_59 rfl (lv_at hl 0 rfl) ?_
  refine lv_iconst (v := nI 0) G.1 G.2.1 d_Ck_init_60 (by decide) ?_
  refine kp (ci := 0) G iCk tCk tCk_ok nCk hP hD hS 0 rfl rfl 13 (by decide) q664 rfl rfl rfl rfl (Nat.le_of_ble_eq_true rfl) d_Ck_init_61 (fun H locs hP hD hS => ?_)
  have hP : va_P D CL [(h0, .inr (0, [.int (nI 0), .int (nI 0), .null, .null, .int (nI 0), .int (nI 0), .int (nI 0), .int (nI 0), .int (nI 0), .int (nI 5), .int (nI 0), .int (nI 0), .int (nI 0), .int (nI 0), .int (nI 0), .null, .int (nI 0), .int (nI 0), .null, .null, .int (nI 0), .int (nI 0)]))] H := hP
  have hD : va_D A [(h0, .inr (0, [.int (nI 0), .int (nI 0), .null, .null, .int (nI 0), .int (nI 0), .int (nI 0), .int (nI 0), .int (nI 0), .int (nI 5), .int (nI 0), .int (nI 0), .int (nI 0), .int (nI 0), .int (nI 0), .null, .int (nI 0), .int (nI 0), .null, .null, .int (nI 0), .int (nI 0)]))] := hD
  refine lv_aload_n G.1 G.2.1 d_Ck_init_64 rfl (lv_at hl 0 rfl) ?_
  refine lv_iconst (v := nI 0) G.1 G.2.1 d_Ck_init_65 (by decide) ?_
  refine kp (ci := 0) G iCk tCk tCk_ok nCk hP hD hS 0 rfl rfl 14 (by decide) q665 rfl rfl (by decide +kernel) (by decide +kernel) (Nat.le_of_ble_eq_true rfl) d_Ck_init_66 (fun H locs hP hD hS => ?_)
  have hP : va_P D CL [(h0, .inr (0, [.int (nI 0), .int (nI 0), .null, .null, .int (nI 0), .int (nI 0), .int (nI 0), .int (nI 0), .int (nI 0), .int (nI 5), .int (nI 0), .int (nI 0), .int (nI 0), .int (nI 0), .int (nI 0), .null, .int (nI 0), .int (nI 0), .null, .null, .int (nI 0), .int (nI 0)]))] H := hP
  have hD : va_D A [(h0, .inr (0, [.int (nI 0), .int (nI 0), .null, .null, .int (nI 0), .int (nI 0), .int (nI 0), .int (nI 0), .int (nI 0), .int (nI 5), .int (nI 0), .int (nI 0), .int (nI 0), .int (nI 0), .int (nI 0), .null, .int (nI 0), .int (nI 0), .null, .null, .int (nI 0), .int (nI 0)]))] := hD
  refine lv_aload_n G.1 G.2.1 d_Ck_init_69 rfl (lv_at hl 0 rfl) ?_
  refine lv_bipush (v := nI 40) G.1 G.2.1 d_Ck_init_70 (by decide) ?_
  refine kNew (ty := .int) (N' := 40) (a0 := (40, .inl (fun _ => nI 0))) G q404 rfl (fun _ h => h) 0 rfl hP hD hS (fun _ => rfl) (nI_pos (by omega)) (nI_clamp (by omega)) (Nat.le_of_ble_eq_true rfl) (Nat.le_of_ble_eq_true rfl) (Nat.le_of_ble_eq_true rfl) d_Ck_init_72 (fun q_1 H hP hD hS => ?_)
  have hP : va_P D CL [(h0, .inr (0, [.int (nI 0), .int (nI 0), .null, .null, .int (nI 0), .int (nI 0), .int (nI 0), .int (nI 0), .int (nI 0), .int (nI 5), .int (nI 0), .int (nI 0), .int (nI 0), .int (nI 0), .int (nI 0), .null, .int (nI 0), .int (nI 0), .null, .null, .int (nI 0), .int (nI 0)])), (q_1, .inl (g 0, 40, .inl (fun _ => nI 0)))] H := hP
  have hD : va_D A [(h0, .inr (0, [.int (nI 0), .int (nI 0), .null, .null, .int (nI 0), .int (nI 0), .int (nI 0), .int (nI 0), .int (nI 0), .int (nI 5), .int (nI 0), .int (nI 0), .int (nI 0), .int (nI 0), .int (nI 0), .null, .int (nI 0), .int (nI 0), .null, .null, .int (nI 0), .int (nI 0)])), (q_1, .inl (g 0, 40, .inl (fun _ => nI 0)))] := hD
  refine W.widen (k := 1) (n := 40) (by omega) (by omega) ?_
  refine kpF (ci := 0) G iCk tCk tCk_ok nCk hP hD hS 0 rfl rfl 15 (by decide) q666 rfl rfl rfl rfl rfl rfl (Nat.le_of_ble_eq_true rfl) d_Ck_init_74 (fun H locs hP hD hS => ?_)
  have hP : va_P D CL [(h0, .inr (0, [.int (nI 0), .int (nI 0), .null, .null, .int (nI 0), .int (nI 0), .int (nI 0), .int (nI 0), .int (nI 0), .int (nI 5), .int (nI 0), .int (nI 0), .int (nI 0), .int (nI 0), .int (nI 0), .ref q_1, .int (nI 0), .int (nI 0), .null, .null, .int (nI 0), .int (nI 0)])), (q_1, .inl (g 0, 40, .inl (fun _ => nI 0)))] H := hP
  have hD : va_D A [(h0, .inr (0, [.int (nI 0), .int (nI 0), .null, .null, .int (nI 0), .int (nI 0), .int (nI 0), .int (nI 0), .int (nI 0), .int (nI 5), .int (nI 0), .int (nI 0), .int (nI 0), .int (nI 0), .int (nI 0), .ref q_1, .int (nI 0), .int (nI 0), .null, .null, .int (nI 0), .int (nI 0)])), (q_1, .inl (g 0, 40, .inl (fun _ => nI 0)))] := hD
  refine lv_aload_n G.1 G.2.1 d_Ck_init_77 rfl (lv_at hl 0 rfl) ?_
  refine lv_iconst (v := nI 0) G.1 G.2.1 d_Ck_init_78 (by decide) ?_
  refine W.eq (g2 := F0 m 79 ls [.int (nI 0), .ref h0]) rfl ?_
  refine kp (ci := 0) G iCk tCk tCk_ok nCk hP hD hS 0 rfl rfl 16 (by decide) q667 rfl rfl rfl rfl (Nat.le_of_ble_eq_true rfl) d_Ck_init_79 (fun H locs hP hD hS => ?_)
  have hP : va_P D CL [(h0, .inr (0, [.int (nI 0), .int (nI 0), .null, .null, .int (nI 0), .int (nI 0), .int (nI 0), .int (nI 0), .int (nI 0), .int (nI 5), .int (nI 0), .int (nI 0), .int (nI 0), .int (nI 0), .int (nI 0), .ref q_1, .int (nI 0), .int (nI 0), .null, .null, .int (nI 0), .int (nI 0)])), (q_1, .inl (g 0, 40, .inl (fun _ => nI 0)))] H := hP
  have hD : va_D A [(h0, .inr (0, [.int (nI 0), .int (nI 0), .null, .null, .int (nI 0), .int (nI 0), .int (nI 0), .int (nI 0), .int (nI 0), .int (nI 5), .int (nI 0), .int (nI 0), .int (nI 0), .int (nI 0), .int (nI 0), .ref q_1, .int (nI 0), .int (nI 0), .null, .null, .int (nI 0), .int (nI 0)])), (q_1, .inl (g 0, 40, .inl (fun _ => nI 0)))] := hD
  refine lv_aload_n G.1 G.2.1 d_Ck_init_82 rfl (lv_at hl 0 rfl) ?_
  refine lv_iconst (v := nI 0) G.1 G.2.1 d_Ck_init_83 (by decide) ?_
  refine kp (ci := 0) G iCk tCk tCk_ok nCk hP hD hS 0 rfl rfl 17 (by decide) q668 rfl rfl (by decide +kernel) (by decide +kernel) (Nat.le_of_ble_eq_true rfl) d_Ck_init_84 (fun H locs hP hD hS => ?_)
  have hP : va_P D CL [(h0, .inr (0, [.int (nI 0), .int (nI 0), .null, .null, .int (nI 0), .int (nI 0), .int (nI 0), .int (nI 0), .int (nI 0), .int (nI 5), .int (nI 0), .int (nI 0), .int (nI 0), .int (nI 0), .int (nI 0), .ref q_1, .int (nI 0), .int (nI 0), .null, .null, .int (nI 0), .int (nI 0)])), (q_1, .inl (g 0, 40, .inl (fun _ => nI 0)))] H := hP
  have hD : va_D A [(h0, .inr (0, [.int (nI 0), .int (nI 0), .null, .null, .int (nI 0), .int (nI 0), .int (nI 0), .int (nI 0), .int (nI 0), .int (nI 5), .int (nI 0), .int (nI 0), .int (nI 0), .int (nI 0), .int (nI 0), .ref q_1, .int (nI 0), .int (nI 0), .null, .null, .int (nI 0), .int (nI 0)])), (q_1, .inl (g 0, 40, .inl (fun _ => nI 0)))] := hD
  refine lv_aload_n G.1 G.2.1 d_Ck_init_87 rfl (lv_at hl 0 rfl) ?_
  refine lv_sipush (v := nI 3200) G.1 G.2.1 d_Ck_init_88 (by decide) ?_
  refine kNew (ty := .int) (N' := 3200) (a0 := (3200, .inl (fun _ => nI 0))) G q404 rfl (fun _ h => h) 0 rfl hP hD hS (fun _ => rfl) (nI_pos (by omega)) (nI_clamp (by omega)) (Nat.le_of_ble_eq_true rfl) (Nat.le_of_ble_eq_true rfl) (Nat.le_of_ble_eq_true rfl) d_Ck_init_91 (fun q_2 H hP hD hS => ?_)
  have hP : va_P D CL [(h0, .inr (0, [.int (nI 0), .int (nI 0), .null, .null, .int (nI 0), .int (nI 0), .int (nI 0), .int (nI 0), .int (nI 0), .int (nI 5), .int (nI 0), .int (nI 0), .int (nI 0), .int (nI 0), .int (nI 0), .ref q_1, .int (nI 0), .int (nI 0), .null, .null, .int (nI 0), .int (nI 0)])), (q_1, .inl (g 0, 40, .inl (fun _ => nI 0))), (q_2, .inl (g 0, 3200, .inl (fun _ => nI 0)))] H := hP
  have hD : va_D A [(h0, .inr (0, [.int (nI 0), .int (nI 0), .null, .null, .int (nI 0), .int (nI 0), .int (nI 0), .int (nI 0), .int (nI 0), .int (nI 5), .int (nI 0), .int (nI 0), .int (nI 0), .int (nI 0), .int (nI 0), .ref q_1, .int (nI 0), .int (nI 0), .null, .null, .int (nI 0), .int (nI 0)])), (q_1, .inl (g 0, 40, .inl (fun _ => nI 0))), (q_2, .inl (g 0, 3200, .inl (fun _ => nI 0)))] := hD
  refine W.widen (k := 2) (n := 3240) (by omega) (by omega) ?_
  refine kpF (ci := 0) G iCk tCk tCk_ok nCk hP hD hS 0 rfl rfl 18 (by decide) q669 rfl rfl rfl rfl rfl rfl (Nat.le_of_ble_eq_true rfl) d_Ck_init_93 (fun H locs hP hD hS => ?_)
  have hP : va_P D CL [(h0, .inr (0, [.int (nI 0), .int (nI 0), .null, .null, .int (nI 0), .int (nI 0), .int (nI 0), .int (nI 0), .int (nI 0), .int (nI 5), .int (nI 0), .int (nI 0), .int (nI 0), .int (nI 0), .int (nI 0), .ref q_1, .int (nI 0), .int (nI 0), .ref q_2, .null, .int (nI 0), .int (nI 0)])), (q_1, .inl (g 0, 40, .inl (fun _ => nI 0))), (q_2, .inl (g 0, 3200, .inl (fun _ => nI 0)))] H := hP
  have hD : va_D A [(h0, .inr (0, [.int (nI 0), .int (nI 0), .null, .null, .int (nI 0), .int (nI 0), .int (nI 0), .int (nI 0), .int (nI 0), .int (nI 5), .int (nI 0), .int (nI 0), .int (nI 0), .int (nI 0), .int (nI 0), .ref q_1, .int (nI 0), .int (nI 0), .ref q_2, .null, .int (nI 0), .int (nI 0)])), (q_1, .inl (g 0, 40, .inl (fun _ => nI 0))), (q_2, .inl (g 0, 3200, .inl (fun _ => nI 0)))] := hD
  refine lv_aload_n G.1 G.2.1 d_Ck_init_96 rfl (lv_at hl 0 rfl) ?_
  refine lv_bipush (v := nI 80) G.1 G.2.1 d_Ck_init_97 (by decide) ?_
  refine kNew (ty := .int) (N' := 80) (a0 := (80, .inl (fun _ => nI 0))) G q404 rfl (fun _ h => h) 0 rfl hP hD hS (fun _ => rfl) (nI_pos (by omega)) (nI_clamp (by omega)) (Nat.le_of_ble_eq_true rfl) (Nat.le_of_ble_eq_true rfl) (Nat.le_of_ble_eq_true rfl) d_Ck_init_99 (fun q_3 H hP hD hS => ?_)
  have hP : va_P D CL [(h0, .inr (0, [.int (nI 0), .int (nI 0), .null, .null, .int (nI 0), .int (nI 0), .int (nI 0), .int (nI 0), .int (nI 0), .int (nI 5), .int (nI 0), .int (nI 0), .int (nI 0), .int (nI 0), .int (nI 0), .ref q_1, .int (nI 0), .int (nI 0), .ref q_2, .null, .int (nI 0), .int (nI 0)])), (q_1, .inl (g 0, 40, .inl (fun _ => nI 0))), (q_2, .inl (g 0, 3200, .inl (fun _ => nI 0))), (q_3, .inl (g 0, 80, .inl (fun _ => nI 0)))] H := hP
  have hD : va_D A [(h0, .inr (0, [.int (nI 0), .int (nI 0), .null, .null, .int (nI 0), .int (nI 0), .int (nI 0), .int (nI 0), .int (nI 0), .int (nI 5), .int (nI 0), .int (nI 0), .int (nI 0), .int (nI 0), .int (nI 0), .ref q_1, .int (nI 0), .int (nI 0), .ref q_2, .null, .int (nI 0), .int (nI 0)])), (q_1, .inl (g 0, 40, .inl (fun _ => nI 0))), (q_2, .inl (g 0, 3200, .inl (fun _ => nI 0))), (q_3, .inl (g 0, 80, .inl (fun _ => nI 0)))] := hD
  refine W.widen (k := 3) (n := 3320) (by omega) (by omega) ?_
  refine kpF (ci := 0) G iCk tCk tCk_ok nCk hP hD hS 0 rfl rfl 19 (by decide) q670 rfl rfl rfl rfl rfl rfl (Nat.le_of_ble_eq_true rfl) d_Ck_init_101 (fun H locs hP hD hS => ?_)
  have hP : va_P D CL [(h0, .inr (0, [.int (nI 0), .int (nI 0), .null, .null, .int (nI 0), .int (nI 0), .int (nI 0), .int (nI 0), .int (nI 0), .int (nI 5), .int (nI 0), .int (nI 0), .int (nI 0), .int (nI 0), .int (nI 0), .ref q_1, .int (nI 0), .int (nI 0), .ref q_2, .ref q_3, .int (nI 0), .int (nI 0)])), (q_1, .inl (g 0, 40, .inl (fun _ => nI 0))), (q_2, .inl (g 0, 3200, .inl (fun _ => nI 0))), (q_3, .inl (g 0, 80, .inl (fun _ => nI 0)))] H := hP
  have hD : va_D A [(h0, .inr (0, [.int (nI 0), .int (nI 0), .null, .null, .int (nI 0), .int (nI 0), .int (nI 0), .int (nI 0), .int (nI 0), .int (nI 5), .int (nI 0), .int (nI 0), .int (nI 0), .int (nI 0), .int (nI 0), .ref q_1, .int (nI 0), .int (nI 0), .ref q_2, .ref q_3, .int (nI 0), .int (nI 0)])), (q_1, .inl (g 0, 40, .inl (fun _ => nI 0))), (q_2, .inl (g 0, 3200, .inl (fun _ => nI 0))), (q_3, .inl (g 0, 80, .inl (fun _ => nI 0)))] := hD
  refine W.eq (g2 := F0 m 104 ls []) rfl ?_
  refine lv_aload_n G.1 G.2.1 d_Ck_init_104 rfl (lv_at hl 0 rfl) ?_
  refine lv_iconst (v := nI 0) G.1 G.2.1 d_Ck_init_105 (by decide) ?_
  refine kp (ci := 0) G iCk tCk tCk_ok nCk hP hD hS 0 rfl rfl 20 (by decide) q671 rfl rfl rfl rfl (Nat.le_of_ble_eq_true rfl) d_Ck_init_106 (fun H locs hP hD hS => ?_)
  have hP : va_P D CL [(h0, .inr (0, [.int (nI 0), .int (nI 0), .null, .null, .int (nI 0), .int (nI 0), .int (nI 0), .int (nI 0), .int (nI 0), .int (nI 5), .int (nI 0), .int (nI 0), .int (nI 0), .int (nI 0), .int (nI 0), .ref q_1, .int (nI 0), .int (nI 0), .ref q_2, .ref q_3, .int (nI 0), .int (nI 0)])), (q_1, .inl (g 0, 40, .inl (fun _ => nI 0))), (q_2, .inl (g 0, 3200, .inl (fun _ => nI 0))), (q_3, .inl (g 0, 80, .inl (fun _ => nI 0)))] H := hP
  have hD : va_D A [(h0, .inr (0, [.int (nI 0), .int (nI 0), .null, .null, .int (nI 0), .int (nI 0), .int (nI 0), .int (nI 0), .int (nI 0), .int (nI 5), .int (nI 0), .int (nI 0), .int (nI 0), .int (nI 0), .int (nI 0), .ref q_1, .int (nI 0), .int (nI 0), .ref q_2, .ref q_3, .int (nI 0), .int (nI 0)])), (q_1, .inl (g 0, 40, .inl (fun _ => nI 0))), (q_2, .inl (g 0, 3200, .inl (fun _ => nI 0))), (q_3, .inl (g 0, 80, .inl (fun _ => nI 0)))] := hD
  refine lv_aload_n G.1 G.2.1 d_Ck_init_109 rfl (lv_at hl 0 rfl) ?_
  refine lv_iconst (v := nI 0) G.1 G.2.1 d_Ck_init_110 (by decide) ?_
  refine kp (ci := 0) G iCk tCk tCk_ok nCk hP hD hS 0 rfl rfl 21 (by decide) q672 rfl rfl rfl rfl (Nat.le_of_ble_eq_true rfl) d_Ck_init_111 (fun H locs hP hD hS => ?_)
  have hP : va_P D CL [(h0, .inr (0, [.int (nI 0), .int (nI 0), .null, .null, .int (nI 0), .int (nI 0), .int (nI 0), .int (nI 0), .int (nI 0), .int (nI 5), .int (nI 0), .int (nI 0), .int (nI 0), .int (nI 0), .int (nI 0), .ref q_1, .int (nI 0), .int (nI 0), .ref q_2, .ref q_3, .int (nI 0), .int (nI 0)])), (q_1, .inl (g 0, 40, .inl (fun _ => nI 0))), (q_2, .inl (g 0, 3200, .inl (fun _ => nI 0))), (q_3, .inl (g 0, 80, .inl (fun _ => nI 0)))] H := hP
  have hD : va_D A [(h0, .inr (0, [.int (nI 0), .int (nI 0), .null, .null, .int (nI 0), .int (nI 0), .int (nI 0), .int (nI 0), .int (nI 0), .int (nI 5), .int (nI 0), .int (nI 0), .int (nI 0), .int (nI 0), .int (nI 0), .ref q_1, .int (nI 0), .int (nI 0), .ref q_2, .ref q_3, .int (nI 0), .int (nI 0)])), (q_1, .inl (g 0, 40, .inl (fun _ => nI 0))), (q_2, .inl (g 0, 3200, .inl (fun _ => nI 0))), (q_3, .inl (g 0, 80, .inl (fun _ => nI 0)))] := hD
  refine lv_aload_n G.1 G.2.1 d_Ck_init_114 rfl (lv_at hl 0 rfl) ?_
  refine lv_aload_n G.1 G.2.1 d_Ck_init_115 rfl (lv_at hl 1 rfl) ?_
  refine kpF (ci := 0) G iCk tCk tCk_ok nCk hP hD hS 0 rfl rfl 2 (by decide) q653 rfl rfl rfl rfl rfl rfl (Nat.le_of_ble_eq_true rfl) d_Ck_init_116 (fun H locs hP hD hS => ?_)
  have hP : va_P D CL [(h0, .inr (0, [.int (nI 0), .int (nI 0), .ref nm, .null, .int (nI 0), .int (nI 0), .int (nI 0), .int (nI 0), .int (nI 0), .int (nI 5), .int (nI 0), .int (nI 0), .int (nI 0), .int (nI 0), .int (nI 0), .ref q_1, .int (nI 0), .int (nI 0), .ref q_2, .ref q_3, .int (nI 0), .int (nI 0)])), (q_1, .inl (g 0, 40, .inl (fun _ => nI 0))), (q_2, .inl (g 0, 3200, .inl (fun _ => nI 0))), (q_3, .inl (g 0, 80, .inl (fun _ => nI 0)))] H := hP
  have hD : va_D A [(h0, .inr (0, [.int (nI 0), .int (nI 0), .ref nm, .null, .int (nI 0), .int (nI 0), .int (nI 0), .int (nI 0), .int (nI 0), .int (nI 5), .int (nI 0), .int (nI 0), .int (nI 0), .int (nI 0), .int (nI 0), .ref q_1, .int (nI 0), .int (nI 0), .ref q_2, .ref q_3, .int (nI 0), .int (nI 0)])), (q_1, .inl (g 0, 40, .inl (fun _ => nI 0))), (q_2, .inl (g 0, 3200, .inl (fun _ => nI 0))), (q_3, .inl (g 0, 80, .inl (fun _ => nI 0)))] := hD
  refine lv_aload_n G.1 G.2.1 d_Ck_init_119 rfl (lv_at hl 0 rfl) ?_
  refine lv_null G.1 G.2.1 d_Ck_init_120 ?_
  refine kp (ci := 0) G iCk tCk tCk_ok nCk hP hD hS 0 rfl rfl 3 (by decide) q654 rfl rfl rfl rfl (Nat.le_of_ble_eq_true rfl) d_Ck_init_121 (fun H locs hP hD hS => ?_)
  have hP : va_P D CL [(h0, .inr (0, [.int (nI 0), .int (nI 0), .ref nm, .null, .int (nI 0), .int (nI 0), .int (nI 0), .int (nI 0), .int (nI 0), .int (nI 5), .int (nI 0), .int (nI 0), .int (nI 0), .int (nI 0), .int (nI 0), .ref q_1, .int (nI 0), .int (nI 0), .ref q_2, .ref q_3, .int (nI 0), .int (nI 0)])), (q_1, .inl (g 0, 40, .inl (fun _ => nI 0))), (q_2, .inl (g 0, 3200, .inl (fun _ => nI 0))), (q_3, .inl (g 0, 80, .inl (fun _ => nI 0)))] H := hP
  have hD : va_D A [(h0, .inr (0, [.int (nI 0), .int (nI 0), .ref nm, .null, .int (nI 0), .int (nI 0), .int (nI 0), .int (nI 0), .int (nI 0), .int (nI 5), .int (nI 0), .int (nI 0), .int (nI 0), .int (nI 0), .int (nI 0), .ref q_1, .int (nI 0), .int (nI 0), .ref q_2, .ref q_3, .int (nI 0), .int (nI 0)])), (q_1, .inl (g 0, 40, .inl (fun _ => nI 0))), (q_2, .inl (g 0, 3200, .inl (fun _ => nI 0))), (q_3, .inl (g 0, 80, .inl (fun _ => nI 0)))] := hD
  refine W.eq (g2 := F0 m 124 ls []) rfl ?_
  refine hret (nI 0, nI 0, nm, nI 0, nI 0, nI 0, nI 0, nI 0, nI 5, nI 0, nI 0, nI 0, nI 0, nI 0, q_1, nI 0, nI 0, q_2, q_3, nI 0) _ _ _ _ _ ls (show True from trivial) (hP.sub [0] rfl) (hD.sub [0] (by decide) rfl) hS (Nat.le_of_ble_eq_true rfl) (Nat.le_of_ble_eq_true rfl) d_Ck_init_124
def y_Fi_init : MethodName := ⟨"ClassWorks$Finder", "<init>", "(LClassWorks$Names;LClassWorks$Checker;)V"⟩
abbrev b_Fi_init : ByteArray := prog_3_method_1_code
theorem q723 : Cond.methodLink "ClassWorks$Finder" 3 Lib.objectInit ∈ lw_ok := lw_okmem (List.mem_of_getElem? (i := 723) (by decide +kernel)) rfl
theorem q726 : Cond.fieldLink "ClassWorks$Finder" 9 "ClassWorks$Finder" "cls" "I" ∈ lw_ok := lw_okmem (List.mem_of_getElem? (i := 726) (by decide +kernel)) rfl
theorem q729 : Cond.fieldLink "ClassWorks$Finder" 15 "ClassWorks$Finder" "member" "I" ∈ lw_ok := lw_okmem (List.mem_of_getElem? (i := 729) (by decide +kernel)) rfl
theorem q732 : Cond.fieldLink "ClassWorks$Finder" 18 "ClassWorks$Finder" "named" "I" ∈ lw_ok := lw_okmem (List.mem_of_getElem? (i := 732) (by decide +kernel)) rfl
theorem q724 : Cond.classLink "ClassWorks$Finder" 21 "ClassWorks$Ints" ∈ lw_ok := lw_okmem (List.mem_of_getElem? (i := 724) (by decide +kernel)) rfl
theorem q725 : Cond.methodLink "ClassWorks$Finder" 23 y_In_init ∈ lw_ok := lw_okmem (List.mem_of_getElem? (i := 725) (by decide +kernel)) rfl
theorem q734 : Cond.fieldLink "ClassWorks$Finder" 26 "ClassWorks$Finder" "reachList" "LClassWorks$Ints;" ∈ lw_ok := lw_okmem (List.mem_of_getElem? (i := 734) (by decide +kernel)) rfl
theorem q738 : Cond.fieldLink "ClassWorks$Finder" 30 "ClassWorks$Finder" "waiting" "[I" ∈ lw_ok := lw_okmem (List.mem_of_getElem? (i := 738) (by decide +kernel)) rfl
theorem q739 : Cond.fieldLink "ClassWorks$Finder" 34 "ClassWorks$Finder" "phase" "[I" ∈ lw_ok := lw_okmem (List.mem_of_getElem? (i := 739) (by decide +kernel)) rfl
theorem q740 : Cond.fieldLink "ClassWorks$Finder" 37 "ClassWorks$Finder" "open" "[I" ∈ lw_ok := lw_okmem (List.mem_of_getElem? (i := 740) (by decide +kernel)) rfl
theorem q741 : Cond.fieldLink "ClassWorks$Finder" 40 "ClassWorks$Finder" "opened" "I" ∈ lw_ok := lw_okmem (List.mem_of_getElem? (i := 741) (by decide +kernel)) rfl
theorem q736 : Cond.fieldLink "ClassWorks$Finder" 43 "ClassWorks$Finder" "names" "LClassWorks$Names;" ∈ lw_ok := lw_okmem (List.mem_of_getElem? (i := 736) (by decide +kernel)) rfl
theorem q737 : Cond.fieldLink "ClassWorks$Finder" 47 "ClassWorks$Finder" "checker" "LClassWorks$Checker;" ∈ lw_ok := lw_okmem (List.mem_of_getElem? (i := 737) (by decide +kernel)) rfl
theorem d_Fi_init_0 : decode b_Fi_init 0 = .ok (.aload_n 0, 1) := by decide +kernel
theorem d_Fi_init_1 : decode b_Fi_init 1 = .ok (.invokespecial 3, 3) := by decide +kernel
theorem d_Fi_init_4 : decode b_Fi_init 4 = .ok (.aload_n 0, 1) := by decide +kernel
theorem d_Fi_init_5 : decode b_Fi_init 5 = .ok (.iconst 0, 1) := by decide +kernel
theorem d_Fi_init_6 : decode b_Fi_init 6 = .ok (.putfield 9, 3) := by decide +kernel
theorem d_Fi_init_9 : decode b_Fi_init 9 = .ok (.aload_n 0, 1) := by decide +kernel
theorem d_Fi_init_10 : decode b_Fi_init 10 = .ok (.iconst 0, 1) := by decide +kernel
theorem d_Fi_init_11 : decode b_Fi_init 11 = .ok (.putfield 15, 3) := by decide +kernel
theorem d_Fi_init_14 : decode b_Fi_init 14 = .ok (.aload_n 0, 1) := by decide +kernel
theorem d_Fi_init_15 : decode b_Fi_init 15 = .ok (.iconst 0, 1) := by decide +kernel
theorem d_Fi_init_16 : decode b_Fi_init 16 = .ok (.putfield 18, 3) := by decide +kernel
theorem d_Fi_init_19 : decode b_Fi_init 19 = .ok (.aload_n 0, 1) := by decide +kernel
theorem d_Fi_init_20 : decode b_Fi_init 20 = .ok (.new 21, 3) := by decide +kernel
theorem d_Fi_init_23 : decode b_Fi_init 23 = .ok (.dup, 1) := by decide +kernel
theorem d_Fi_init_24 : decode b_Fi_init 24 = .ok (.bipush 64, 2) := by decide +kernel
theorem d_Fi_init_26 : decode b_Fi_init 26 = .ok (.invokespecial 23, 3) := by decide +kernel
theorem d_Fi_init_29 : decode b_Fi_init 29 = .ok (.putfield 26, 3) := by decide +kernel
theorem d_Fi_init_32 : decode b_Fi_init 32 = .ok (.aload_n 0, 1) := by decide +kernel
theorem d_Fi_init_33 : decode b_Fi_init 33 = .ok (.bipush 52, 2) := by decide +kernel
theorem d_Fi_init_35 : decode b_Fi_init 35 = .ok (.newarray .int, 2) := by decide +kernel
theorem d_Fi_init_37 : decode b_Fi_init 37 = .ok (.putfield 30, 3) := by decide +kernel
theorem d_Fi_init_40 : decode b_Fi_init 40 = .ok (.aload_n 0, 1) := by decide +kernel
theorem d_Fi_init_41 : decode b_Fi_init 41 = .ok (.bipush 52, 2) := by decide +kernel
theorem d_Fi_init_43 : decode b_Fi_init 43 = .ok (.newarray .int, 2) := by decide +kernel
theorem d_Fi_init_45 : decode b_Fi_init 45 = .ok (.putfield 34, 3) := by decide +kernel
theorem d_Fi_init_48 : decode b_Fi_init 48 = .ok (.aload_n 0, 1) := by decide +kernel
theorem d_Fi_init_49 : decode b_Fi_init 49 = .ok (.sipush 256, 3) := by decide +kernel
theorem d_Fi_init_52 : decode b_Fi_init 52 = .ok (.newarray .int, 2) := by decide +kernel
theorem d_Fi_init_54 : decode b_Fi_init 54 = .ok (.putfield 37, 3) := by decide +kernel
theorem d_Fi_init_57 : decode b_Fi_init 57 = .ok (.aload_n 0, 1) := by decide +kernel
theorem d_Fi_init_58 : decode b_Fi_init 58 = .ok (.iconst 0, 1) := by decide +kernel
theorem d_Fi_init_59 : decode b_Fi_init 59 = .ok (.putfield 40, 3) := by decide +kernel
theorem d_Fi_init_62 : decode b_Fi_init 62 = .ok (.aload_n 0, 1) := by decide +kernel
theorem d_Fi_init_63 : decode b_Fi_init 63 = .ok (.aload_n 1, 1) := by decide +kernel
theorem d_Fi_init_64 : decode b_Fi_init 64 = .ok (.putfield 43, 3) := by decide +kernel
theorem d_Fi_init_67 : decode b_Fi_init 67 = .ok (.aload_n 0, 1) := by decide +kernel
theorem d_Fi_init_68 : decode b_Fi_init 68 = .ok (.aload_n 2, 1) := by decide +kernel
theorem d_Fi_init_69 : decode b_Fi_init 69 = .ok (.putfield 47, 3) := by decide +kernel
theorem d_Fi_init_72 : decode b_Fi_init 72 = .ok (.return_, 1) := by decide +kernel
abbrev rm_Fi_init : Room := { frames := 2, cells := 5, slots := 426, locals := 33 }
set_option maxHeartbeats 4000000 in
set_option maxRecDepth 100000 in
theorem c_Fi_init (l : Launch) (D : va_G) (g : Nat → ClassId) (h0 : Nat) (nm : Nat) (ck : Nat) (sz : Nat)  : Met l y_Fi_init (mw y_Fi_init b_Fi_init 3 (none)) (rm_Fi_init) (PC g D [] [.ref h0, .ref nm, .ref ck] sz [(h0, .inr (1, [.int (nI 0), .int (nI 0), .int (nI 0), .null, .null, .null, .null, .null, .null, .int (nI 0)]))]) (va_Qv (fun u : Int32 × Int32 × Int32 × Nat × Nat × Nat × Nat × Int32 × Nat => True) (QW D (va_A [(h0, .inr (1, [.int (nI 0), .int (nI 0), .int (nI 0), .null, .null, .null, .null, .null, .null, .int (nI 0)]))] sz) (fun u : Int32 × Int32 × Int32 × Nat × Nat × Nat × Nat × Int32 × Nat => [(h0, .inr (1, [.int u.1, .int u.2.1, .int u.2.2.1, .ref u.2.2.2.1, .ref nm, .ref ck, .ref u.2.2.2.2.1, .ref u.2.2.2.2.2.1, .ref u.2.2.2.2.2.2.1, .int u.2.2.2.2.2.2.2.1])), (u.2.2.2.1, .inr (3, [.ref u.2.2.2.2.2.2.2.2, .int (nI 0)]))])) (va_A [(h0, .inr (1, [.int (nI 0), .int (nI 0), .int (nI 0), .null, .null, .null, .null, .null, .null, .int (nI 0)]))] sz)) 5 426 (va_A [(h0, .inr (1, [.int (nI 0), .int (nI 0), .int (nI 0), .null, .null, .null, .null, .null, .null, .int (nI 0)]))] sz) := by
  refine ofV (by decide +kernel) (Nat.le_of_ble_eq_true rfl) ?_
  intro p e s m args below meth c A Q ls H locs G hsz hP hD hS hl hret
  subst hsz
  have hl : lv_has ls 3 [(0, .ref h0), (1, .ref nm), (2, .ref ck)] := hl
  refine lv_aload_n G.1 G.2.1 d_Fi_init_0 rfl (lv_at hl 0 rfl) ?_
  refine kobj G q723 q361 q362 hl.1 d_Fi_init_1 (Nat.le_of_ble_eq_true rfl) (Nat.le_of_ble_eq_true rfl) ?_
  refine lv_aload_n G.1 G.2.1 d_Fi_init_4 rfl (lv_at hl 0 rfl) ?_
  refine lv_iconst (v := nI 0) G.1 G.2.1 d_Fi_init_5 (by decide) ?_
  refine kp (ci := 1) G iFi tFi tFi_ok nFi hP hD hS 0 rfl rfl 0 (by decide) q726 rfl rfl rfl rfl (Nat.le_of_ble_eq_true rfl) d_Fi_init_6 (fun H locs hP hD hS => ?_)
  have hP : va_P D CL [(h0, .inr (1, [.int (nI 0), .int (nI 0), .int (nI 0), .null, .null, .null, .null, .null, .null, .int (nI 0)]))] H := hP
  have hD : va_D A [(h0, .inr (1, [.int (nI 0), .int (nI 0), .int (nI 0), .null, .null, .null, .null, .null, .null, .int (nI 0)]))] := hD
  refine lv_aload_n G.1 G.2.1 d_Fi_init_9 rfl (lv_at hl 0 rfl) ?_
  refine lv_iconst (v := nI 0) G.1 G.2.1 d_Fi_init_10 (by decide) ?_
  refine kp (ci := 1) G iFi tFi tFi_ok nFi hP hD hS 0 rfl rfl 1 (by decide) q729 rfl rfl rfl rfl (Nat.le_of_ble_eq_true rfl) d_Fi_init_11 (fun H locs hP hD hS => ?_)
  have hP : va_P D CL [(h0, .inr (1, [.int (nI 0), .int (nI 0), .int (nI 0), .null, .null, .null, .null, .null, .null, .int (nI 0)]))] H := hP
  have hD : va_D A [(h0, .inr (1, [.int (nI 0), .int (nI 0), .int (nI 0), .null, .null, .null, .null, .null, .null, .int (nI 0)]))] := hD
  refine lv_aload_n G.1 G.2.1 d_Fi_init_14 rfl (lv_at hl 0 rfl) ?_
  refine lv_iconst (v := nI 0) G.1 G.2.1 d_Fi_init_15 (by decide) ?_
  refine kp (ci := 1) G iFi tFi tFi_ok nFi hP hD hS 0 rfl rfl 2 (by decide) q732 rfl rfl rfl rfl (Nat.le_of_ble_eq_true rfl) d_Fi_init_16 (fun H locs hP hD hS => ?_)
  have hP : va_P D CL [(h0, .inr (1, [.int (nI 0), .int (nI 0), .int (nI 0), .null, .null, .null, .null, .null, .null, .int (nI 0)]))] H := hP
  have hD : va_D A [(h0, .inr (1, [.int (nI 0), .int (nI 0), .int (nI 0), .null, .null, .null, .null, .null, .null, .int (nI 0)]))] := hD
  refine W.eq (g2 := F0 m 19 ls []) rfl ?_
  refine lv_aload_n G.1 G.2.1 d_Fi_init_19 rfl (lv_at hl 0 rfl) ?_
  refine knew (ci := 3) (fs := [.null, .int (nI 0)]) G iIn tIn tIn_ok q724 q374 q331 hP hD hS rfl rfl (Nat.le_of_ble_eq_true rfl) (Nat.le_of_ble_eq_true rfl) d_Fi_init_20 (fun q_1 H hP hD hS => ?_)
  have hP : va_P D CL [(h0, .inr (1, [.int (nI 0), .int (nI 0), .int (nI 0), .null, .null, .null, .null, .null, .null, .int (nI 0)])), (q_1, .inr (3, [.null, .int (nI 0)]))] H := hP
  have hD : va_D A [(h0, .inr (1, [.int (nI 0), .int (nI 0), .int (nI 0), .null, .null, .null, .null, .null, .null, .int (nI 0)])), (q_1, .inr (3, [.null, .int (nI 0)]))] := hD
  refine W.widen (k := 1) (n := 2) (by omega) (by omega) ?_
  refine lv_dup G.1 G.2.1 d_Fi_init_23 rfl ?_
  refine lv_bipush (v := nI 64) G.1 G.2.1 d_Fi_init_24 (by decide) ?_
  refine kEv (wr := [(h0, .inr (1, [.int (nI 0), .int (nI 0), .int (nI 0), .null, .null, .null, .null, .null, .null, .int (nI 0)]))]) G (kI (As := [.int (nI 64)]) (rest := [.ref q_1, .ref h0]) G hP hD hS [1] rfl rfl (c_In_init l D g q_1 64 H.size (by decide)) w_In_init q725 rfl rfl ⟨Nat.le_of_ble_eq_true rfl, Nat.le_of_ble_eq_true rfl⟩ (fun _ h => absurd h List.not_mem_nil) hl.1 rfl (Nat.le_of_ble_eq_true rfl) rfl ⟨Nat.le_of_ble_eq_true rfl, (Nat.le_of_ble_eq_true rfl)⟩ d_Fi_init_26) hP hD hS [1] [0] rfl rfl rfl rfl (fun u_3 H locs hw hP hD hS hzH => ?_)
  obtain ⟨x_4, rfl⟩ : ∃ z, z = u_3 := ⟨_, rfl⟩
  have hw : True := hw
  have hP : va_P D CL [(h0, .inr (1, [.int (nI 0), .int (nI 0), .int (nI 0), .null, .null, .null, .null, .null, .null, .int (nI 0)])), (q_1, .inr (3, [.ref x_4, .int (nI 0)])), (x_4, .inl (g 0, 64, .inl (fun _ => nI 0)))] H := hP
  have hD : va_D A [(h0, .inr (1, [.int (nI 0), .int (nI 0), .int (nI 0), .null, .null, .null, .null, .null, .null, .int (nI 0)])), (q_1, .inr (3, [.ref x_4, .int (nI 0)])), (x_4, .inl (g 0, 64, .inl (fun _ => nI 0)))] := hD
  refine W.widen (k := 2) (n := 66) (by omega) (by omega) ?_
  refine kpF (ci := 1) G iFi tFi tFi_ok nFi hP hD hS 0 rfl rfl 3 (by decide) q734 rfl rfl rfl rfl rfl rfl (Nat.le_of_ble_eq_true rfl) d_Fi_init_29 (fun H locs hP hD hS => ?_)
  have hP : va_P D CL [(h0, .inr (1, [.int (nI 0), .int (nI 0), .int (nI 0), .ref q_1, .null, .null, .null, .null, .null, .int (nI 0)])), (q_1, .inr (3, [.ref x_4, .int (nI 0)])), (x_4, .inl (g 0, 64, .inl (fun _ => nI 0)))] H := hP
  have hD : va_D A [(h0, .inr (1, [.int (nI 0), .int (nI 0), .int (nI 0), .ref q_1, .null, .null, .null, .null, .null, .int (nI 0)])), (q_1, .inr (3, [.ref x_4, .int (nI 0)])), (x_4, .inl (g 0, 64, .inl (fun _ => nI 0)))] := hD
  refine lv_aload_n G.1 G.2.1 d_Fi_init_32 rfl (lv_at hl 0 rfl) ?_
  refine lv_bipush (v := nI 52) G.1 G.2.1 d_Fi_init_33 (by decide) ?_
  refine kNew (ty := .int) (N' := 52) (a0 := (52, .inl (fun _ => nI 0))) G q404 rfl (fun _ h => h) 0 rfl hP hD hS (fun _ => rfl) (nI_pos (by omega)) (nI_clamp (by omega)) (Nat.le_of_ble_eq_true rfl) (Nat.le_of_ble_eq_true rfl) (Nat.le_of_ble_eq_true rfl) d_Fi_init_35 (fun q_5 H hP hD hS => ?_)
  have hP : va_P D CL [(h0, .inr (1, [.int (nI 0), .int (nI 0), .int (nI 0), .ref q_1, .null, .null, .null, .null, .null, .int (nI 0)])), (q_1, .inr (3, [.ref x_4, .int (nI 0)])), (x_4, .inl (g 0, 64, .inl (fun _ => nI 0))), (q_5, .inl (g 0, 52, .inl (fun _ => nI 0)))] H := hP
  have hD : va_D A [(h0, .inr (1, [.int (nI 0), .int (nI 0), .int (nI 0), .ref q_1, .null, .null, .null, .null, .null, .int (nI 0)])), (q_1, .inr (3, [.ref x_4, .int (nI 0)])), (x_4, .inl (g 0, 64, .inl (fun _ => nI 0))), (q_5, .inl (g 0, 52, .inl (fun _ => nI 0)))] := hD
  refine W.widen (k := 3) (n := 118) (by omega) (by omega) ?_
  refine kpF (ci := 1) G iFi tFi tFi_ok nFi hP hD hS 0 rfl rfl 6 (by decide) q738 rfl rfl rfl rfl rfl rfl (Nat.le_of_ble_eq_true rfl) d_Fi_init_37 (fun H locs hP hD hS => ?_)
  have hP : va_P D CL [(h0, .inr (1, [.int (nI 0), .int (nI 0), .int (nI 0), .ref q_1, .null, .null, .ref q_5, .null, .null, .int (nI 0)])), (q_1, .inr (3, [.ref x_4, .int (nI 0)])), (x_4, .inl (g 0, 64, .inl (fun _ => nI 0))), (q_5, .inl (g 0, 52, .inl (fun _ => nI 0)))] H := hP
  have hD : va_D A [(h0, .inr (1, [.int (nI 0), .int (nI 0), .int (nI 0), .ref q_1, .null, .null, .ref q_5, .null, .null, .int (nI 0)])), (q_1, .inr (3, [.ref x_4, .int (nI 0)])), (x_4, .inl (g 0, 64, .inl (fun _ => nI 0))), (q_5, .inl (g 0, 52, .inl (fun _ => nI 0)))] := hD
  refine lv_aload_n G.1 G.2.1 d_Fi_init_40 rfl (lv_at hl 0 rfl) ?_
  refine lv_bipush (v := nI 52) G.1 G.2.1 d_Fi_init_41 (by decide) ?_
  refine W.eq (g2 := F0 m 43 ls [.int (nI 52), .ref h0]) rfl ?_
  refine kNew (ty := .int) (N' := 52) (a0 := (52, .inl (fun _ => nI 0))) G q404 rfl (fun _ h => h) 0 rfl hP hD hS (fun _ => rfl) (nI_pos (by omega)) (nI_clamp (by omega)) (Nat.le_of_ble_eq_true rfl) (Nat.le_of_ble_eq_true rfl) (Nat.le_of_ble_eq_true rfl) d_Fi_init_43 (fun q_6 H hP hD hS => ?_)
  have hP : va_P D CL [(h0, .inr (1, [.int (nI 0), .int (nI 0), .int (nI 0), .ref q_1, .null, .null, .ref q_5, .null, .null, .int (nI 0)])), (q_1, .inr (3, [.ref x_4, .int (nI 0)])), (x_4, .inl (g 0, 64, .inl (fun _ => nI 0))), (q_5, .inl (g 0, 52, .inl (fun _ => nI 0))), (q_6, .inl (g 0, 52, .inl (fun _ => nI 0)))] H := hP
  have hD : va_D A [(h0, .inr (1, [.int (nI 0), .int (nI 0), .int (nI 0), .ref q_1, .null, .null, .ref q_5, .null, .null, .int (nI 0)])), (q_1, .inr (3, [.ref x_4, .int (nI 0)])), (x_4, .inl (g 0, 64, .inl (fun _ => nI 0))), (q_5, .inl (g 0, 52, .inl (fun _ => nI 0))), (q_6, .inl (g 0, 52, .inl (fun _ => nI 0)))] := hD
  refine W.widen (k := 4) (n := 170) (by omega) (by omega) ?_
  refine kpF (ci := 1) G iFi tFi tFi_ok nFi hP hD hS 0 rfl rfl 7 (by decide) q739 rfl rfl rfl rfl rfl rfl (Nat.le_of_ble_eq_true rfl) d_Fi_init_45 (fun H locs hP hD hS => ?_)
  have hP : va_P D CL [(h0, .inr (1, [.int (nI 0), .int (nI 0), .int (nI 0), .ref q_1, .null, .null, .ref q_5, .ref q_6, .null, .int (nI 0)])), (q_1, .inr (3, [.ref x_4, .int (nI 0)])), (x_4, .inl (g 0, 64, .inl (fun _ => nI 0))), (q_5, .inl (g 0, 52, .inl (fun _ => nI 0))), (q_6, .inl (g 0, 52, .inl (fun _ => nI 0)))] H := hP
  have hD : va_D A [(h0, .inr (1, [.int (nI 0), .int (nI 0), .int (nI 0), .ref q_1, .null, .null, .ref q_5, .ref q_6, .null, .int (nI 0)])), (q_1, .inr (3, [.ref x_4, .int (nI 0)])), (x_4, .inl (g 0, 64, .inl (fun _ => nI 0))), (q_5, .inl (g 0, 52, .inl (fun _ => nI 0))), (q_6, .inl (g 0, 52, .inl (fun _ => nI 0)))] := hD
  refine lv_aload_n G.1 G.2.1 d_Fi_init_48 rfl (lv_at hl 0 rfl) ?_
  refine lv_sipush (v := nI 256) G.1 G.2.1 d_Fi_init_49 (by decide) ?_
  refine kNew (ty := .int) (N' := 256) (a0 := (256, .inl (fun _ => nI 0))) G q404 rfl (fun _ h => h) 0 rfl hP hD hS (fun _ => rfl) (nI_pos (by omega)) (nI_clamp (by omega)) (Nat.le_of_ble_eq_true rfl) (Nat.le_of_ble_eq_true rfl) (Nat.le_of_ble_eq_true rfl) d_Fi_init_52 (fun q_7 H hP hD hS => ?_)
  have hP : va_P D CL [(h0, .inr (1, [.int (nI 0), .int (nI 0), .int (nI 0), .ref q_1, .null, .null, .ref q_5, .ref q_6, .null, .int (nI 0)])), (q_1, .inr (3, [.ref x_4, .int (nI 0)])), (x_4, .inl (g 0, 64, .inl (fun _ => nI 0))), (q_5, .inl (g 0, 52, .inl (fun _ => nI 0))), (q_6, .inl (g 0, 52, .inl (fun _ => nI 0))), (q_7, .inl (g 0, 256, .inl (fun _ => nI 0)))] H := hP
  have hD : va_D A [(h0, .inr (1, [.int (nI 0), .int (nI 0), .int (nI 0), .ref q_1, .null, .null, .ref q_5, .ref q_6, .null, .int (nI 0)])), (q_1, .inr (3, [.ref x_4, .int (nI 0)])), (x_4, .inl (g 0, 64, .inl (fun _ => nI 0))), (q_5, .inl (g 0, 52, .inl (fun _ => nI 0))), (q_6, .inl (g 0, 52, .inl (fun _ => nI 0))), (q_7, .inl (g 0, 256, .inl (fun _ => nI 0)))] := hD
  refine W.widen (k := 5) (n := 426) (by omega) (by omega) ?_
  refine kpF (ci := 1) G iFi tFi tFi_ok nFi hP hD hS 0 rfl rfl 8 (by decide) q740 rfl rfl rfl rfl rfl rfl (Nat.le_of_ble_eq_true rfl) d_Fi_init_54 (fun H locs hP hD hS => ?_)
  have hP : va_P D CL [(h0, .inr (1, [.int (nI 0), .int (nI 0), .int (nI 0), .ref q_1, .null, .null, .ref q_5, .ref q_6, .ref q_7, .int (nI 0)])), (q_1, .inr (3, [.ref x_4, .int (nI 0)])), (x_4, .inl (g 0, 64, .inl (fun _ => nI 0))), (q_5, .inl (g 0, 52, .inl (fun _ => nI 0))), (q_6, .inl (g 0, 52, .inl (fun _ => nI 0))), (q_7, .inl (g 0, 256, .inl (fun _ => nI 0)))] H := hP
  have hD : va_D A [(h0, .inr (1, [.int (nI 0), .int (nI 0), .int (nI 0), .ref q_1, .null, .null, .ref q_5, .ref q_6, .ref q_7, .int (nI 0)])), (q_1, .inr (3, [.ref x_4, .int (nI 0)])), (x_4, .inl (g 0, 64, .inl (fun _ => nI 0))), (q_5, .inl (g 0, 52, .inl (fun _ => nI 0))), (q_6, .inl (g 0, 52, .inl (fun _ => nI 0))), (q_7, .inl (g 0, 256, .inl (fun _ => nI 0)))] := hD
  refine lv_aload_n G.1 G.2.1 d_Fi_init_57 rfl (lv_at hl 0 rfl) ?_
  refine lv_iconst (v := nI 0) G.1 G.2.1 d_Fi_init_58 (by decide) ?_
  refine kp (ci := 1) G iFi tFi tFi_ok nFi hP hD hS 0 rfl rfl 9 (by decide) q741 rfl rfl rfl rfl (Nat.le_of_ble_eq_true rfl) d_Fi_init_59 (fun H locs hP hD hS => ?_)
  have hP : va_P D CL [(h0, .inr (1, [.int (nI 0), .int (nI 0), .int (nI 0), .ref q_1, .null, .null, .ref q_5, .ref q_6, .ref q_7, .int (nI 0)])), (q_1, .inr (3, [.ref x_4, .int (nI 0)])), (x_4, .inl (g 0, 64, .inl (fun _ => nI 0))), (q_5, .inl (g 0, 52, .inl (fun _ => nI 0))), (q_6, .inl (g 0, 52, .inl (fun _ => nI 0))), (q_7, .inl (g 0, 256, .inl (fun _ => nI 0)))] H := hP
  have hD : va_D A [(h0, .inr (1, [.int (nI 0), .int (nI 0), .int (nI 0), .ref q_1, .null, .null, .ref q_5, .ref q_6, .ref q_7, .int (nI 0)])), (q_1, .inr (3, [.ref x_4, .int (nI 0)])), (x_4, .inl (g 0, 64, .inl (fun _ => nI 0))), (q_5, .inl (g 0, 52, .inl (fun _ => nI 0))), (q_6, .inl (g 0, 52, .inl (fun _ => nI 0))), (q_7, .inl (g 0, 256, .inl (fun _ => nI 0)))] := hD
  refine lv_aload_n G.1 G.2.1 d_Fi_init_62 rfl (lv_at hl 0 rfl) ?_
  refine lv_aload_n G.1 G.2.1 d_Fi_init_63 rfl (lv_at hl 1 rfl) ?_
  refine kpF (ci := 1) G iFi tFi tFi_ok nFi hP hD hS 0 rfl rfl 4 (by decide) q736 rfl rfl rfl rfl rfl rfl (Nat.le_of_ble_eq_true rfl) d_Fi_init_64 (fun H locs hP hD hS => ?_)
  have hP : va_P D CL [(h0, .inr (1, [.int (nI 0), .int (nI 0), .int (nI 0), .ref q_1, .ref nm, .null, .ref q_5, .ref q_6, .ref q_7, .int (nI 0)])), (q_1, .inr (3, [.ref x_4, .int (nI 0)])), (x_4, .inl (g 0, 64, .inl (fun _ => nI 0))), (q_5, .inl (g 0, 52, .inl (fun _ => nI 0))), (q_6, .inl (g 0, 52, .inl (fun _ => nI 0))), (q_7, .inl (g 0, 256, .inl (fun _ => nI 0)))] H := hP
  have hD : va_D A [(h0, .inr (1, [.int (nI 0), .int (nI 0), .int (nI 0), .ref q_1, .ref nm, .null, .ref q_5, .ref q_6, .ref q_7, .int (nI 0)])), (q_1, .inr (3, [.ref x_4, .int (nI 0)])), (x_4, .inl (g 0, 64, .inl (fun _ => nI 0))), (q_5, .inl (g 0, 52, .inl (fun _ => nI 0))), (q_6, .inl (g 0, 52, .inl (fun _ => nI 0))), (q_7, .inl (g 0, 256, .inl (fun _ => nI 0)))] := hD
  refine W.eq (g2 := F0 m 67 ls []) rfl ?_
  refine lv_aload_n G.1 G.2.1 d_Fi_init_67 rfl (lv_at hl 0 rfl) ?_
  refine lv_aload_n G.1 G.2.1 d_Fi_init_68 rfl (lv_at hl 2 rfl) ?_
  refine kpF (ci := 1) G iFi tFi tFi_ok nFi hP hD hS 0 rfl rfl 5 (by decide) q737 rfl rfl rfl rfl rfl rfl (Nat.le_of_ble_eq_true rfl) d_Fi_init_69 (fun H locs hP hD hS => ?_)
  have hP : va_P D CL [(h0, .inr (1, [.int (nI 0), .int (nI 0), .int (nI 0), .ref q_1, .ref nm, .ref ck, .ref q_5, .ref q_6, .ref q_7, .int (nI 0)])), (q_1, .inr (3, [.ref x_4, .int (nI 0)])), (x_4, .inl (g 0, 64, .inl (fun _ => nI 0))), (q_5, .inl (g 0, 52, .inl (fun _ => nI 0))), (q_6, .inl (g 0, 52, .inl (fun _ => nI 0))), (q_7, .inl (g 0, 256, .inl (fun _ => nI 0)))] H := hP
  have hD : va_D A [(h0, .inr (1, [.int (nI 0), .int (nI 0), .int (nI 0), .ref q_1, .ref nm, .ref ck, .ref q_5, .ref q_6, .ref q_7, .int (nI 0)])), (q_1, .inr (3, [.ref x_4, .int (nI 0)])), (x_4, .inl (g 0, 64, .inl (fun _ => nI 0))), (q_5, .inl (g 0, 52, .inl (fun _ => nI 0))), (q_6, .inl (g 0, 52, .inl (fun _ => nI 0))), (q_7, .inl (g 0, 256, .inl (fun _ => nI 0)))] := hD
  refine hret (nI 0, nI 0, nI 0, q_1, q_5, q_6, q_7, nI 0, x_4) _ _ _ _ _ ls (show True from trivial) (hP.sub [0, 1] rfl) (hD.sub [0, 1] (by decide) rfl) hS (Nat.le_of_ble_eq_true rfl) (Nat.le_of_ble_eq_true rfl) d_Fi_init_72
def y_Wr_init : MethodName := ⟨"ClassWorks$Writer", "<init>", "(LClassWorks$Names;)V"⟩
abbrev b_Wr_init : ByteArray := prog_12_method_1_code
theorem q768 : Cond.methodLink "ClassWorks$Writer" 3 Lib.objectInit ∈ lw_ok := lw_okmem (List.mem_of_getElem? (i := 768) (by decide +kernel)) rfl
theorem q769 : Cond.classLink "ClassWorks$Writer" 9 "ClassWorks$Ints" ∈ lw_ok := lw_okmem (List.mem_of_getElem? (i := 769) (by decide +kernel)) rfl
theorem q770 : Cond.methodLink "ClassWorks$Writer" 11 y_In_init ∈ lw_ok := lw_okmem (List.mem_of_getElem? (i := 770) (by decide +kernel)) rfl
theorem q771 : Cond.fieldLink "ClassWorks$Writer" 14 "ClassWorks$Writer" "out" "LClassWorks$Ints;" ∈ lw_ok := lw_okmem (List.mem_of_getElem? (i := 771) (by decide +kernel)) rfl
theorem q775 : Cond.fieldLink "ClassWorks$Writer" 20 "ClassWorks$Writer" "cls" "I" ∈ lw_ok := lw_okmem (List.mem_of_getElem? (i := 775) (by decide +kernel)) rfl
theorem q776 : Cond.fieldLink "ClassWorks$Writer" 24 "ClassWorks$Writer" "method" "I" ∈ lw_ok := lw_okmem (List.mem_of_getElem? (i := 776) (by decide +kernel)) rfl
theorem q777 : Cond.fieldLink "ClassWorks$Writer" 27 "ClassWorks$Writer" "open" "Z" ∈ lw_ok := lw_okmem (List.mem_of_getElem? (i := 777) (by decide +kernel)) rfl
theorem q778 : Cond.fieldLink "ClassWorks$Writer" 31 "ClassWorks$Writer" "labels" "[I" ∈ lw_ok := lw_okmem (List.mem_of_getElem? (i := 778) (by decide +kernel)) rfl
theorem q773 : Cond.fieldLink "ClassWorks$Writer" 35 "ClassWorks$Writer" "names" "LClassWorks$Names;" ∈ lw_ok := lw_okmem (List.mem_of_getElem? (i := 773) (by decide +kernel)) rfl
theorem q774 : Cond.fieldLink "ClassWorks$Writer" 39 "ClassWorks$Writer" "world" "LClassWorks$World;" ∈ lw_ok := lw_okmem (List.mem_of_getElem? (i := 774) (by decide +kernel)) rfl
theorem d_Wr_init_0 : decode b_Wr_init 0 = .ok (.aload_n 0, 1) := by decide +kernel
theorem d_Wr_init_1 : decode b_Wr_init 1 = .ok (.invokespecial 3, 3) := by decide +kernel
theorem d_Wr_init_4 : decode b_Wr_init 4 = .ok (.aload_n 0, 1) := by decide +kernel
theorem d_Wr_init_5 : decode b_Wr_init 5 = .ok (.new 9, 3) := by decide +kernel
theorem d_Wr_init_8 : decode b_Wr_init 8 = .ok (.dup, 1) := by decide +kernel
theorem d_Wr_init_9 : decode b_Wr_init 9 = .ok (.sipush 512, 3) := by decide +kernel
theorem d_Wr_init_12 : decode b_Wr_init 12 = .ok (.invokespecial 11, 3) := by decide +kernel
theorem d_Wr_init_15 : decode b_Wr_init 15 = .ok (.putfield 14, 3) := by decide +kernel
theorem d_Wr_init_18 : decode b_Wr_init 18 = .ok (.aload_n 0, 1) := by decide +kernel
theorem d_Wr_init_19 : decode b_Wr_init 19 = .ok (.iconst 0, 1) := by decide +kernel
theorem d_Wr_init_20 : decode b_Wr_init 20 = .ok (.putfield 20, 3) := by decide +kernel
theorem d_Wr_init_23 : decode b_Wr_init 23 = .ok (.aload_n 0, 1) := by decide +kernel
theorem d_Wr_init_24 : decode b_Wr_init 24 = .ok (.iconst 0, 1) := by decide +kernel
theorem d_Wr_init_25 : decode b_Wr_init 25 = .ok (.putfield 24, 3) := by decide +kernel
theorem d_Wr_init_28 : decode b_Wr_init 28 = .ok (.aload_n 0, 1) := by decide +kernel
theorem d_Wr_init_29 : decode b_Wr_init 29 = .ok (.iconst 0, 1) := by decide +kernel
theorem d_Wr_init_30 : decode b_Wr_init 30 = .ok (.putfield 27, 3) := by decide +kernel
theorem d_Wr_init_33 : decode b_Wr_init 33 = .ok (.aload_n 0, 1) := by decide +kernel
theorem d_Wr_init_34 : decode b_Wr_init 34 = .ok (.bipush 81, 2) := by decide +kernel
theorem d_Wr_init_36 : decode b_Wr_init 36 = .ok (.newarray .int, 2) := by decide +kernel
theorem d_Wr_init_38 : decode b_Wr_init 38 = .ok (.putfield 31, 3) := by decide +kernel
theorem d_Wr_init_41 : decode b_Wr_init 41 = .ok (.aload_n 0, 1) := by decide +kernel
theorem d_Wr_init_42 : decode b_Wr_init 42 = .ok (.aload_n 1, 1) := by decide +kernel
theorem d_Wr_init_43 : decode b_Wr_init 43 = .ok (.putfield 35, 3) := by decide +kernel
theorem d_Wr_init_46 : decode b_Wr_init 46 = .ok (.aload_n 0, 1) := by decide +kernel
theorem d_Wr_init_47 : decode b_Wr_init 47 = .ok (.aconst_null, 1) := by decide +kernel
theorem d_Wr_init_48 : decode b_Wr_init 48 = .ok (.putfield 39, 3) := by decide +kernel
theorem d_Wr_init_51 : decode b_Wr_init 51 = .ok (.return_, 1) := by decide +kernel
abbrev rm_Wr_init : Room := { frames := 2, cells := 3, slots := 595, locals := 33 }
set_option maxHeartbeats 4000000 in
set_option maxRecDepth 100000 in
theorem c_Wr_init (l : Launch) (D : va_G) (g : Nat → ClassId) (h0 : Nat) (nm : Nat) (sz : Nat)  : Met l y_Wr_init (mw y_Wr_init b_Wr_init 2 (none)) (rm_Wr_init) (PC g D [] [.ref h0, .ref nm] sz [(h0, .inr (10, [.null, .null, .null, .int (nI 0), .int (nI 0), .int (nI 0), .null]))]) (va_Qv (fun u : Nat × Int32 × Int32 × Int32 × Nat × Nat => True) (QW D (va_A [(h0, .inr (10, [.null, .null, .null, .int (nI 0), .int (nI 0), .int (nI 0), .null]))] sz) (fun u : Nat × Int32 × Int32 × Int32 × Nat × Nat => [(h0, .inr (10, [.ref u.1, .ref nm, .null, .int u.2.1, .int u.2.2.1, .int u.2.2.2.1, .ref u.2.2.2.2.1])), (u.1, .inr (3, [.ref u.2.2.2.2.2, .int (nI 0)]))])) (va_A [(h0, .inr (10, [.null, .null, .null, .int (nI 0), .int (nI 0), .int (nI 0), .null]))] sz)) 3 595 (va_A [(h0, .inr (10, [.null, .null, .null, .int (nI 0), .int (nI 0), .int (nI 0), .null]))] sz) := by
  refine ofV (by decide +kernel) (Nat.le_of_ble_eq_true rfl) ?_
  intro p e s m args below meth c A Q ls H locs G hsz hP hD hS hl hret
  subst hsz
  have hl : lv_has ls 2 [(0, .ref h0), (1, .ref nm)] := hl
  refine lv_aload_n G.1 G.2.1 d_Wr_init_0 rfl (lv_at hl 0 rfl) ?_
  refine kobj G q768 q361 q362 hl.1 d_Wr_init_1 (Nat.le_of_ble_eq_true rfl) (Nat.le_of_ble_eq_true rfl) ?_
  refine lv_aload_n G.1 G.2.1 d_Wr_init_4 rfl (lv_at hl 0 rfl) ?_
  refine knew (ci := 3) (fs := [.null, .int (nI 0)]) G iIn tIn tIn_ok q769 q374 q331 hP hD hS rfl rfl (Nat.le_of_ble_eq_true rfl) (Nat.le_of_ble_eq_true rfl) d_Wr_init_5 (fun q_1 H hP hD hS => ?_)
  have hP : va_P D CL [(h0, .inr (10, [.null, .null, .null, .int (nI 0), .int (nI 0), .int (nI 0), .null])), (q_1, .inr (3, [.null, .int (nI 0)]))] H := hP
  have hD : va_D A [(h0, .inr (10, [.null, .null, .null, .int (nI 0), .int (nI 0), .int (nI 0), .null])), (q_1, .inr (3, [.null, .int (nI 0)]))] := hD
  refine W.widen (k := 1) (n := 2) (by omega) (by omega) ?_
  refine lv_dup G.1 G.2.1 d_Wr_init_8 rfl ?_
  refine lv_sipush (v := nI 512) G.1 G.2.1 d_Wr_init_9 (by decide) ?_
  refine kEv (wr := [(h0, .inr (10, [.null, .null, .null, .int (nI 0), .int (nI 0), .int (nI 0), .null]))]) G (kI (As := [.int (nI 512)]) (rest := [.ref q_1, .ref h0]) G hP hD hS [1] rfl rfl (c_In_init l D g q_1 512 H.size (by decide)) w_In_init q770 rfl rfl ⟨Nat.le_of_ble_eq_true rfl, Nat.le_of_ble_eq_true rfl⟩ (fun _ h => absurd h List.not_mem_nil) hl.1 rfl (Nat.le_of_ble_eq_true rfl) rfl ⟨Nat.le_of_ble_eq_true rfl, (Nat.le_of_ble_eq_true rfl)⟩ d_Wr_init_12) hP hD hS [1] [0] rfl rfl rfl rfl (fun u_3 H locs hw hP hD hS hzH => ?_)
  obtain ⟨x_4, rfl⟩ : ∃ z, z = u_3 := ⟨_, rfl⟩
  have hw : True := hw
  have hP : va_P D CL [(h0, .inr (10, [.null, .null, .null, .int (nI 0), .int (nI 0), .int (nI 0), .null])), (q_1, .inr (3, [.ref x_4, .int (nI 0)])), (x_4, .inl (g 0, 512, .inl (fun _ => nI 0)))] H := hP
  have hD : va_D A [(h0, .inr (10, [.null, .null, .null, .int (nI 0), .int (nI 0), .int (nI 0), .null])), (q_1, .inr (3, [.ref x_4, .int (nI 0)])), (x_4, .inl (g 0, 512, .inl (fun _ => nI 0)))] := hD
  refine W.widen (k := 2) (n := 514) (by omega) (by omega) ?_
  refine kpF (ci := 10) G iWr tWr tWr_ok nWr hP hD hS 0 rfl rfl 0 (by decide) q771 rfl rfl rfl rfl rfl rfl (Nat.le_of_ble_eq_true rfl) d_Wr_init_15 (fun H locs hP hD hS => ?_)
  have hP : va_P D CL [(h0, .inr (10, [.ref q_1, .null, .null, .int (nI 0), .int (nI 0), .int (nI 0), .null])), (q_1, .inr (3, [.ref x_4, .int (nI 0)])), (x_4, .inl (g 0, 512, .inl (fun _ => nI 0)))] H := hP
  have hD : va_D A [(h0, .inr (10, [.ref q_1, .null, .null, .int (nI 0), .int (nI 0), .int (nI 0), .null])), (q_1, .inr (3, [.ref x_4, .int (nI 0)])), (x_4, .inl (g 0, 512, .inl (fun _ => nI 0)))] := hD
  refine lv_aload_n G.1 G.2.1 d_Wr_init_18 rfl (lv_at hl 0 rfl) ?_
  refine lv_iconst (v := nI 0) G.1 G.2.1 d_Wr_init_19 (by decide) ?_
  refine kp (ci := 10) G iWr tWr tWr_ok nWr hP hD hS 0 rfl rfl 3 (by decide) q775 rfl rfl rfl rfl (Nat.le_of_ble_eq_true rfl) d_Wr_init_20 (fun H locs hP hD hS => ?_)
  have hP : va_P D CL [(h0, .inr (10, [.ref q_1, .null, .null, .int (nI 0), .int (nI 0), .int (nI 0), .null])), (q_1, .inr (3, [.ref x_4, .int (nI 0)])), (x_4, .inl (g 0, 512, .inl (fun _ => nI 0)))] H := hP
  have hD : va_D A [(h0, .inr (10, [.ref q_1, .null, .null, .int (nI 0), .int (nI 0), .int (nI 0), .null])), (q_1, .inr (3, [.ref x_4, .int (nI 0)])), (x_4, .inl (g 0, 512, .inl (fun _ => nI 0)))] := hD
  refine W.eq (g2 := F0 m 23 ls []) rfl ?_
  refine lv_aload_n G.1 G.2.1 d_Wr_init_23 rfl (lv_at hl 0 rfl) ?_
  refine lv_iconst (v := nI 0) G.1 G.2.1 d_Wr_init_24 (by decide) ?_
  refine kp (ci := 10) G iWr tWr tWr_ok nWr hP hD hS 0 rfl rfl 4 (by decide) q776 rfl rfl rfl rfl (Nat.le_of_ble_eq_true rfl) d_Wr_init_25 (fun H locs hP hD hS => ?_)
  have hP : va_P D CL [(h0, .inr (10, [.ref q_1, .null, .null, .int (nI 0), .int (nI 0), .int (nI 0), .null])), (q_1, .inr (3, [.ref x_4, .int (nI 0)])), (x_4, .inl (g 0, 512, .inl (fun _ => nI 0)))] H := hP
  have hD : va_D A [(h0, .inr (10, [.ref q_1, .null, .null, .int (nI 0), .int (nI 0), .int (nI 0), .null])), (q_1, .inr (3, [.ref x_4, .int (nI 0)])), (x_4, .inl (g 0, 512, .inl (fun _ => nI 0)))] := hD
  refine lv_aload_n G.1 G.2.1 d_Wr_init_28 rfl (lv_at hl 0 rfl) ?_
  refine lv_iconst (v := nI 0) G.1 G.2.1 d_Wr_init_29 (by decide) ?_
  refine kp (ci := 10) G iWr tWr tWr_ok nWr hP hD hS 0 rfl rfl 5 (by decide) q777 rfl rfl (by decide +kernel) (by decide +kernel) (Nat.le_of_ble_eq_true rfl) d_Wr_init_30 (fun H locs hP hD hS => ?_)
  have hP : va_P D CL [(h0, .inr (10, [.ref q_1, .null, .null, .int (nI 0), .int (nI 0), .int (nI 0), .null])), (q_1, .inr (3, [.ref x_4, .int (nI 0)])), (x_4, .inl (g 0, 512, .inl (fun _ => nI 0)))] H := hP
  have hD : va_D A [(h0, .inr (10, [.ref q_1, .null, .null, .int (nI 0), .int (nI 0), .int (nI 0), .null])), (q_1, .inr (3, [.ref x_4, .int (nI 0)])), (x_4, .inl (g 0, 512, .inl (fun _ => nI 0)))] := hD
  refine lv_aload_n G.1 G.2.1 d_Wr_init_33 rfl (lv_at hl 0 rfl) ?_
  refine lv_bipush (v := nI 81) G.1 G.2.1 d_Wr_init_34 (by decide) ?_
  refine kNew (ty := .int) (N' := 81) (a0 := (81, .inl (fun _ => nI 0))) G q404 rfl (fun _ h => h) 0 rfl hP hD hS (fun _ => rfl) (nI_pos (by omega)) (nI_clamp (by omega)) (Nat.le_of_ble_eq_true rfl) (Nat.le_of_ble_eq_true rfl) (Nat.le_of_ble_eq_true rfl) d_Wr_init_36 (fun q_5 H hP hD hS => ?_)
  have hP : va_P D CL [(h0, .inr (10, [.ref q_1, .null, .null, .int (nI 0), .int (nI 0), .int (nI 0), .null])), (q_1, .inr (3, [.ref x_4, .int (nI 0)])), (x_4, .inl (g 0, 512, .inl (fun _ => nI 0))), (q_5, .inl (g 0, 81, .inl (fun _ => nI 0)))] H := hP
  have hD : va_D A [(h0, .inr (10, [.ref q_1, .null, .null, .int (nI 0), .int (nI 0), .int (nI 0), .null])), (q_1, .inr (3, [.ref x_4, .int (nI 0)])), (x_4, .inl (g 0, 512, .inl (fun _ => nI 0))), (q_5, .inl (g 0, 81, .inl (fun _ => nI 0)))] := hD
  refine W.widen (k := 3) (n := 595) (by omega) (by omega) ?_
  refine kpF (ci := 10) G iWr tWr tWr_ok nWr hP hD hS 0 rfl rfl 6 (by decide) q778 rfl rfl rfl rfl rfl rfl (Nat.le_of_ble_eq_true rfl) d_Wr_init_38 (fun H locs hP hD hS => ?_)
  have hP : va_P D CL [(h0, .inr (10, [.ref q_1, .null, .null, .int (nI 0), .int (nI 0), .int (nI 0), .ref q_5])), (q_1, .inr (3, [.ref x_4, .int (nI 0)])), (x_4, .inl (g 0, 512, .inl (fun _ => nI 0))), (q_5, .inl (g 0, 81, .inl (fun _ => nI 0)))] H := hP
  have hD : va_D A [(h0, .inr (10, [.ref q_1, .null, .null, .int (nI 0), .int (nI 0), .int (nI 0), .ref q_5])), (q_1, .inr (3, [.ref x_4, .int (nI 0)])), (x_4, .inl (g 0, 512, .inl (fun _ => nI 0))), (q_5, .inl (g 0, 81, .inl (fun _ => nI 0)))] := hD
  refine lv_aload_n G.1 G.2.1 d_Wr_init_41 rfl (lv_at hl 0 rfl) ?_
  refine lv_aload_n G.1 G.2.1 d_Wr_init_42 rfl (lv_at hl 1 rfl) ?_
  refine W.eq (g2 := F0 m 43 ls [.ref nm, .ref h0]) rfl ?_
  refine kpF (ci := 10) G iWr tWr tWr_ok nWr hP hD hS 0 rfl rfl 1 (by decide) q773 rfl rfl rfl rfl rfl rfl (Nat.le_of_ble_eq_true rfl) d_Wr_init_43 (fun H locs hP hD hS => ?_)
  have hP : va_P D CL [(h0, .inr (10, [.ref q_1, .ref nm, .null, .int (nI 0), .int (nI 0), .int (nI 0), .ref q_5])), (q_1, .inr (3, [.ref x_4, .int (nI 0)])), (x_4, .inl (g 0, 512, .inl (fun _ => nI 0))), (q_5, .inl (g 0, 81, .inl (fun _ => nI 0)))] H := hP
  have hD : va_D A [(h0, .inr (10, [.ref q_1, .ref nm, .null, .int (nI 0), .int (nI 0), .int (nI 0), .ref q_5])), (q_1, .inr (3, [.ref x_4, .int (nI 0)])), (x_4, .inl (g 0, 512, .inl (fun _ => nI 0))), (q_5, .inl (g 0, 81, .inl (fun _ => nI 0)))] := hD
  refine lv_aload_n G.1 G.2.1 d_Wr_init_46 rfl (lv_at hl 0 rfl) ?_
  refine lv_null G.1 G.2.1 d_Wr_init_47 ?_
  refine kp (ci := 10) G iWr tWr tWr_ok nWr hP hD hS 0 rfl rfl 2 (by decide) q774 rfl rfl rfl rfl (Nat.le_of_ble_eq_true rfl) d_Wr_init_48 (fun H locs hP hD hS => ?_)
  have hP : va_P D CL [(h0, .inr (10, [.ref q_1, .ref nm, .null, .int (nI 0), .int (nI 0), .int (nI 0), .ref q_5])), (q_1, .inr (3, [.ref x_4, .int (nI 0)])), (x_4, .inl (g 0, 512, .inl (fun _ => nI 0))), (q_5, .inl (g 0, 81, .inl (fun _ => nI 0)))] H := hP
  have hD : va_D A [(h0, .inr (10, [.ref q_1, .ref nm, .null, .int (nI 0), .int (nI 0), .int (nI 0), .ref q_5])), (q_1, .inr (3, [.ref x_4, .int (nI 0)])), (x_4, .inl (g 0, 512, .inl (fun _ => nI 0))), (q_5, .inl (g 0, 81, .inl (fun _ => nI 0)))] := hD
  refine hret (q_1, nI 0, nI 0, nI 0, q_5, x_4) _ _ _ _ _ ls (show True from trivial) (hP.sub [0, 1] rfl) (hD.sub [0, 1] (by decide) rfl) hS (Nat.le_of_ble_eq_true rfl) (Nat.le_of_ble_eq_true rfl) d_Wr_init_51
def y_Hp_init : MethodName := ⟨"ClassWorks$Heap", "<init>", "()V"⟩
abbrev b_Hp_init : ByteArray := prog_4_method_1_code
theorem q909 : Cond.methodLink "ClassWorks$Heap" 3 Lib.objectInit ∈ lw_ok := lw_okmem (List.mem_of_getElem? (i := 909) (by decide +kernel)) rfl
theorem q913 : Cond.fieldLink "ClassWorks$Heap" 9 "ClassWorks$Heap" "kind" "[I" ∈ lw_ok := lw_okmem (List.mem_of_getElem? (i := 913) (by decide +kernel)) rfl
theorem q916 : Cond.fieldLink "ClassWorks$Heap" 15 "ClassWorks$Heap" "base" "[I" ∈ lw_ok := lw_okmem (List.mem_of_getElem? (i := 916) (by decide +kernel)) rfl
theorem q918 : Cond.fieldLink "ClassWorks$Heap" 18 "ClassWorks$Heap" "length" "[I" ∈ lw_ok := lw_okmem (List.mem_of_getElem? (i := 918) (by decide +kernel)) rfl
theorem q921 : Cond.fieldLink "ClassWorks$Heap" 21 "ClassWorks$Heap" "data" "[I" ∈ lw_ok := lw_okmem (List.mem_of_getElem? (i := 921) (by decide +kernel)) rfl
theorem q923 : Cond.fieldLink "ClassWorks$Heap" 24 "ClassWorks$Heap" "objects" "I" ∈ lw_ok := lw_okmem (List.mem_of_getElem? (i := 923) (by decide +kernel)) rfl
theorem q925 : Cond.fieldLink "ClassWorks$Heap" 28 "ClassWorks$Heap" "top" "I" ∈ lw_ok := lw_okmem (List.mem_of_getElem? (i := 925) (by decide +kernel)) rfl
theorem q927 : Cond.fieldLink "ClassWorks$Heap" 31 "ClassWorks$Heap" "lock" "[I" ∈ lw_ok := lw_okmem (List.mem_of_getElem? (i := 927) (by decide +kernel)) rfl
theorem q928 : Cond.fieldLink "ClassWorks$Heap" 34 "ClassWorks$Heap" "spare" "[I" ∈ lw_ok := lw_okmem (List.mem_of_getElem? (i := 928) (by decide +kernel)) rfl
theorem q929 : Cond.fieldLink "ClassWorks$Heap" 37 "ClassWorks$Heap" "leastFree" "I" ∈ lw_ok := lw_okmem (List.mem_of_getElem? (i := 929) (by decide +kernel)) rfl
theorem q930 : Cond.fieldLink "ClassWorks$Heap" 40 "ClassWorks$Heap" "highest" "I" ∈ lw_ok := lw_okmem (List.mem_of_getElem? (i := 930) (by decide +kernel)) rfl
theorem q910 : Cond.classLink "ClassWorks$Heap" 43 "ClassWorks$Ints" ∈ lw_ok := lw_okmem (List.mem_of_getElem? (i := 910) (by decide +kernel)) rfl
theorem q911 : Cond.methodLink "ClassWorks$Heap" 45 y_In_init ∈ lw_ok := lw_okmem (List.mem_of_getElem? (i := 911) (by decide +kernel)) rfl
theorem q931 : Cond.fieldLink "ClassWorks$Heap" 48 "ClassWorks$Heap" "faults" "LClassWorks$Ints;" ∈ lw_ok := lw_okmem (List.mem_of_getElem? (i := 931) (by decide +kernel)) rfl
theorem q932 : Cond.fieldLink "ClassWorks$Heap" 52 "ClassWorks$Heap" "faultLocks" "LClassWorks$Ints;" ∈ lw_ok := lw_okmem (List.mem_of_getElem? (i := 932) (by decide +kernel)) rfl
theorem q933 : Cond.fieldLink "ClassWorks$Heap" 55 "ClassWorks$Heap" "touched" "[B" ∈ lw_ok := lw_okmem (List.mem_of_getElem? (i := 933) (by decide +kernel)) rfl
theorem q934 : Cond.fieldLink "ClassWorks$Heap" 59 "ClassWorks$Heap" "open" "[I" ∈ lw_ok := lw_okmem (List.mem_of_getElem? (i := 934) (by decide +kernel)) rfl
theorem q935 : Cond.fieldLink "ClassWorks$Heap" 62 "ClassWorks$Heap" "opened" "I" ∈ lw_ok := lw_okmem (List.mem_of_getElem? (i := 935) (by decide +kernel)) rfl
theorem q912 : Cond.methodLink "ClassWorks$Heap" 65 y_Ja_fill_aIIV ∈ lw_ok := lw_okmem (List.mem_of_getElem? (i := 912) (by decide +kernel)) rfl
theorem d_Hp_init_0 : decode b_Hp_init 0 = .ok (.aload_n 0, 1) := by decide +kernel
theorem d_Hp_init_1 : decode b_Hp_init 1 = .ok (.invokespecial 3, 3) := by decide +kernel
theorem d_Hp_init_4 : decode b_Hp_init 4 = .ok (.aload_n 0, 1) := by decide +kernel
theorem d_Hp_init_5 : decode b_Hp_init 5 = .ok (.sipush 801, 3) := by decide +kernel
theorem d_Hp_init_8 : decode b_Hp_init 8 = .ok (.newarray .int, 2) := by decide +kernel
theorem d_Hp_init_10 : decode b_Hp_init 10 = .ok (.putfield 9, 3) := by decide +kernel
theorem d_Hp_init_13 : decode b_Hp_init 13 = .ok (.aload_n 0, 1) := by decide +kernel
theorem d_Hp_init_14 : decode b_Hp_init 14 = .ok (.sipush 801, 3) := by decide +kernel
theorem d_Hp_init_17 : decode b_Hp_init 17 = .ok (.newarray .int, 2) := by decide +kernel
theorem d_Hp_init_19 : decode b_Hp_init 19 = .ok (.putfield 15, 3) := by decide +kernel
theorem d_Hp_init_22 : decode b_Hp_init 22 = .ok (.aload_n 0, 1) := by decide +kernel
theorem d_Hp_init_23 : decode b_Hp_init 23 = .ok (.sipush 801, 3) := by decide +kernel
theorem d_Hp_init_26 : decode b_Hp_init 26 = .ok (.newarray .int, 2) := by decide +kernel
theorem d_Hp_init_28 : decode b_Hp_init 28 = .ok (.putfield 18, 3) := by decide +kernel
theorem d_Hp_init_31 : decode b_Hp_init 31 = .ok (.aload_n 0, 1) := by decide +kernel
theorem d_Hp_init_32 : decode b_Hp_init 32 = .ok (.sipush 4000, 3) := by decide +kernel
theorem d_Hp_init_35 : decode b_Hp_init 35 = .ok (.newarray .int, 2) := by decide +kernel
theorem d_Hp_init_37 : decode b_Hp_init 37 = .ok (.putfield 21, 3) := by decide +kernel
theorem d_Hp_init_40 : decode b_Hp_init 40 = .ok (.aload_n 0, 1) := by decide +kernel
theorem d_Hp_init_41 : decode b_Hp_init 41 = .ok (.iconst 0, 1) := by decide +kernel
theorem d_Hp_init_42 : decode b_Hp_init 42 = .ok (.putfield 24, 3) := by decide +kernel
theorem d_Hp_init_45 : decode b_Hp_init 45 = .ok (.aload_n 0, 1) := by decide +kernel
theorem d_Hp_init_46 : decode b_Hp_init 46 = .ok (.iconst 0, 1) := by decide +kernel
theorem d_Hp_init_47 : decode b_Hp_init 47 = .ok (.putfield 28, 3) := by decide +kernel
theorem d_Hp_init_50 : decode b_Hp_init 50 = .ok (.aload_n 0, 1) := by decide +kernel
theorem d_Hp_init_51 : decode b_Hp_init 51 = .ok (.sipush 801, 3) := by decide +kernel
theorem d_Hp_init_54 : decode b_Hp_init 54 = .ok (.newarray .int, 2) := by decide +kernel
theorem d_Hp_init_56 : decode b_Hp_init 56 = .ok (.putfield 31, 3) := by decide +kernel
theorem d_Hp_init_59 : decode b_Hp_init 59 = .ok (.aload_n 0, 1) := by decide +kernel
theorem d_Hp_init_60 : decode b_Hp_init 60 = .ok (.sipush 4000, 3) := by decide +kernel
theorem d_Hp_init_63 : decode b_Hp_init 63 = .ok (.newarray .int, 2) := by decide +kernel
theorem d_Hp_init_65 : decode b_Hp_init 65 = .ok (.putfield 34, 3) := by decide +kernel
theorem d_Hp_init_68 : decode b_Hp_init 68 = .ok (.aload_n 0, 1) := by decide +kernel
theorem d_Hp_init_69 : decode b_Hp_init 69 = .ok (.iconst 1, 1) := by decide +kernel
theorem d_Hp_init_70 : decode b_Hp_init 70 = .ok (.putfield 37, 3) := by decide +kernel
theorem d_Hp_init_73 : decode b_Hp_init 73 = .ok (.aload_n 0, 1) := by decide +kernel
theorem d_Hp_init_74 : decode b_Hp_init 74 = .ok (.iconst 0, 1) := by decide +kernel
theorem d_Hp_init_75 : decode b_Hp_init 75 = .ok (.putfield 40, 3) := by decide +kernel
theorem d_Hp_init_78 : decode b_Hp_init 78 = .ok (.aload_n 0, 1) := by decide +kernel
theorem d_Hp_init_79 : decode b_Hp_init 79 = .ok (.new 43, 3) := by decide +kernel
theorem d_Hp_init_82 : decode b_Hp_init 82 = .ok (.dup, 1) := by decide +kernel
theorem d_Hp_init_83 : decode b_Hp_init 83 = .ok (.bipush 16, 2) := by decide +kernel
theorem d_Hp_init_85 : decode b_Hp_init 85 = .ok (.invokespecial 45, 3) := by decide +kernel
theorem d_Hp_init_88 : decode b_Hp_init 88 = .ok (.putfield 48, 3) := by decide +kernel
theorem d_Hp_init_91 : decode b_Hp_init 91 = .ok (.aload_n 0, 1) := by decide +kernel
theorem d_Hp_init_92 : decode b_Hp_init 92 = .ok (.new 43, 3) := by decide +kernel
theorem d_Hp_init_95 : decode b_Hp_init 95 = .ok (.dup, 1) := by decide +kernel
theorem d_Hp_init_96 : decode b_Hp_init 96 = .ok (.bipush 16, 2) := by decide +kernel
theorem d_Hp_init_98 : decode b_Hp_init 98 = .ok (.invokespecial 45, 3) := by decide +kernel
theorem d_Hp_init_101 : decode b_Hp_init 101 = .ok (.putfield 52, 3) := by decide +kernel
theorem d_Hp_init_104 : decode b_Hp_init 104 = .ok (.aload_n 0, 1) := by decide +kernel
theorem d_Hp_init_105 : decode b_Hp_init 105 = .ok (.sipush 801, 3) := by decide +kernel
theorem d_Hp_init_108 : decode b_Hp_init 108 = .ok (.newarray .byte, 2) := by decide +kernel
theorem d_Hp_init_110 : decode b_Hp_init 110 = .ok (.putfield 55, 3) := by decide +kernel
theorem d_Hp_init_113 : decode b_Hp_init 113 = .ok (.aload_n 0, 1) := by decide +kernel
theorem d_Hp_init_114 : decode b_Hp_init 114 = .ok (.sipush 801, 3) := by decide +kernel
theorem d_Hp_init_117 : decode b_Hp_init 117 = .ok (.newarray .int, 2) := by decide +kernel
theorem d_Hp_init_119 : decode b_Hp_init 119 = .ok (.putfield 59, 3) := by decide +kernel
theorem d_Hp_init_122 : decode b_Hp_init 122 = .ok (.aload_n 0, 1) := by decide +kernel
theorem d_Hp_init_123 : decode b_Hp_init 123 = .ok (.iconst 0, 1) := by decide +kernel
theorem d_Hp_init_124 : decode b_Hp_init 124 = .ok (.putfield 62, 3) := by decide +kernel
theorem d_Hp_init_127 : decode b_Hp_init 127 = .ok (.aload_n 0, 1) := by decide +kernel
theorem d_Hp_init_128 : decode b_Hp_init 128 = .ok (.getfield 9, 3) := by decide +kernel
theorem d_Hp_init_131 : decode b_Hp_init 131 = .ok (.bipush (-2), 2) := by decide +kernel
theorem d_Hp_init_133 : decode b_Hp_init 133 = .ok (.invokestatic 65, 3) := by decide +kernel
theorem d_Hp_init_136 : decode b_Hp_init 136 = .ok (.return_, 1) := by decide +kernel
abbrev rm_Hp_init : Room := { frames := 2, cells := 12, slots := 12842, locals := 33 }
set_option maxHeartbeats 4000000 in
set_option maxRecDepth 100000 in
theorem c_Hp_init (l : Launch) (D : va_G) (g : Nat → ClassId) (h0 : Nat) (sz : Nat)  : Met l y_Hp_init (mw y_Hp_init b_Hp_init 1 (none)) (rm_Hp_init) (PC g D [] [.ref h0] sz [(h0, .inr (2, [.null, .null, .null, .null, .int (nI 0), .int (nI 0), .null, .null, .int (nI 0), .int (nI 0), .null, .null, .null, .null, .int (nI 0)]))]) (va_Qv (fun u : Nat × Nat × Nat × Nat × Nat × Nat × Int32 × Nat × Nat × Nat × Nat × Int32 × (Nat → Int32) × Nat × Nat => True) (QW D (va_A [(h0, .inr (2, [.null, .null, .null, .null, .int (nI 0), .int (nI 0), .null, .null, .int (nI 0), .int (nI 0), .null, .null, .null, .null, .int (nI 0)]))] sz) (fun u : Nat × Nat × Nat × Nat × Nat × Nat × Int32 × Nat × Nat × Nat × Nat × Int32 × (Nat → Int32) × Nat × Nat => [(h0, .inr (2, [.ref u.1, .ref u.2.1, .ref u.2.2.1, .ref u.2.2.2.1, .int (nI 0), .int (nI 0), .ref u.2.2.2.2.1, .ref u.2.2.2.2.2.1, .int u.2.2.2.2.2.2.1, .int (nI 0), .ref u.2.2.2.2.2.2.2.1, .ref u.2.2.2.2.2.2.2.2.1, .ref u.2.2.2.2.2.2.2.2.2.1, .ref u.2.2.2.2.2.2.2.2.2.2.1, .int u.2.2.2.2.2.2.2.2.2.2.2.1])), (u.1, .inl (g 0, 801, .inl u.2.2.2.2.2.2.2.2.2.2.2.2.1)), (u.2.2.2.2.2.2.2.1, .inr (3, [.ref u.2.2.2.2.2.2.2.2.2.2.2.2.2.1, .int (nI 0)])), (u.2.2.2.2.2.2.2.2.1, .inr (3, [.ref u.2.2.2.2.2.2.2.2.2.2.2.2.2.2, .int (nI 0)]))])) (va_A [(h0, .inr (2, [.null, .null, .null, .null, .int (nI 0), .int (nI 0), .null, .null, .int (nI 0), .int (nI 0), .null, .null, .null, .null, .int (nI 0)]))] sz)) 12 12842 (va_A [(h0, .inr (2, [.null, .null, .null, .null, .int (nI 0), .int (nI 0), .null, .null, .int (nI 0), .int (nI 0), .null, .null, .null, .null, .int (nI 0)]))] sz) := by
  refine ofV (by decide +kernel) (Nat.le_of_ble_eq_true rfl) ?_
  intro p e s m args below meth c A Q ls H locs G hsz hP hD hS hl hret
  subst hsz
  have hl : lv_has ls 1 [(0, .ref h0)] := hl
  refine lv_aload_n G.1 G.2.1 d_Hp_init_0 rfl (lv_at hl 0 rfl) ?_
  refine kobj G q909 q361 q362 hl.1 d_Hp_init_1 (Nat.le_of_ble_eq_true rfl) (Nat.le_of_ble_eq_true rfl) ?_
  refine lv_aload_n G.1 G.2.1 d_Hp_init_4 rfl (lv_at hl 0 rfl) ?_
  refine lv_sipush (v := nI 801) G.1 G.2.1 d_Hp_init_5 (by decide) ?_
  refine kNew (ty := .int) (N' := 801) (a0 := (801, .inl (fun _ => nI 0))) G q404 rfl (fun _ h => h) 0 rfl hP hD hS (fun _ => rfl) (nI_pos (by omega)) (nI_clamp (by omega)) (Nat.le_of_ble_eq_true rfl) (Nat.le_of_ble_eq_true rfl) (Nat.le_of_ble_eq_true rfl) d_Hp_init_8 (fun q_1 H hP hD hS => ?_)
  have hP : va_P D CL [(h0, .inr (2, [.null, .null, .null, .null, .int (nI 0), .int (nI 0), .null, .null, .int (nI 0), .int (nI 0), .null, .null, .null, .null, .int (nI 0)])), (q_1, .inl (g 0, 801, .inl (fun _ => nI 0)))] H := hP
  have hD : va_D A [(h0, .inr (2, [.null, .null, .null, .null, .int (nI 0), .int (nI 0), .null, .null, .int (nI 0), .int (nI 0), .null, .null, .null, .null, .int (nI 0)])), (q_1, .inl (g 0, 801, .inl (fun _ => nI 0)))] := hD
  refine W.widen (k := 1) (n := 801) (by omega) (by omega) ?_
  refine kpF (ci := 2) G iHp tHp tHp_ok nHp hP hD hS 0 rfl rfl 0 (by decide) q913 rfl rfl rfl rfl rfl rfl (Nat.le_of_ble_eq_true rfl) d_Hp_init_10 (fun H locs hP hD hS => ?_)
  have hP : va_P D CL [(h0, .inr (2, [.ref q_1, .null, .null, .null, .int (nI 0), .int (nI 0), .null, .null, .int (nI 0), .int (nI 0), .null, .null, .null, .null, .int (nI 0)])), (q_1, .inl (g 0, 801, .inl (fun _ => nI 0)))] H := hP
  have hD : va_D A [(h0, .inr (2, [.ref q_1, .null, .null, .null, .int (nI 0), .int (nI 0), .null, .null, .int (nI 0), .int (nI 0), .null, .null, .null, .null, .int (nI 0)])), (q_1, .inl (g 0, 801, .inl (fun _ => nI 0)))] := hD
  refine lv_aload_n G.1 G.2.1 d_Hp_init_13 rfl (lv_at hl 0 rfl) ?_
  refine lv_sipush (v := nI 801) G.1 G.2.1 d_Hp_init_14 (by decide) ?_
  refine kNew (ty := .int) (N' := 801) (a0 := (801, .inl (fun _ => nI 0))) G q404 rfl (fun _ h => h) 0 rfl hP hD hS (fun _ => rfl) (nI_pos (by omega)) (nI_clamp (by omega)) (Nat.le_of_ble_eq_true rfl) (Nat.le_of_ble_eq_true rfl) (Nat.le_of_ble_eq_true rfl) d_Hp_init_17 (fun q_2 H hP hD hS => ?_)
  have hP : va_P D CL [(h0, .inr (2, [.ref q_1, .null, .null, .null, .int (nI 0), .int (nI 0), .null, .null, .int (nI 0), .int (nI 0), .null, .null, .null, .null, .int (nI 0)])), (q_1, .inl (g 0, 801, .inl (fun _ => nI 0))), (q_2, .inl (g 0, 801, .inl (fun _ => nI 0)))] H := hP
  have hD : va_D A [(h0, .inr (2, [.ref q_1, .null, .null, .null, .int (nI 0), .int (nI 0), .null, .null, .int (nI 0), .int (nI 0), .null, .null, .null, .null, .int (nI 0)])), (q_1, .inl (g 0, 801, .inl (fun _ => nI 0))), (q_2, .inl (g 0, 801, .inl (fun _ => nI 0)))] := hD
  refine W.widen (k := 2) (n := 1602) (by omega) (by omega) ?_
  refine kpF (ci := 2) G iHp tHp tHp_ok nHp hP hD hS 0 rfl rfl 1 (by decide) q916 rfl rfl rfl rfl rfl rfl (Nat.le_of_ble_eq_true rfl) d_Hp_init_19 (fun H locs hP hD hS => ?_)
  have hP : va_P D CL [(h0, .inr (2, [.ref q_1, .ref q_2, .null, .null, .int (nI 0), .int (nI 0), .null, .null, .int (nI 0), .int (nI 0), .null, .null, .null, .null, .int (nI 0)])), (q_1, .inl (g 0, 801, .inl (fun _ => nI 0))), (q_2, .inl (g 0, 801, .inl (fun _ => nI 0)))] H := hP
  have hD : va_D A [(h0, .inr (2, [.ref q_1, .ref q_2, .null, .null, .int (nI 0), .int (nI 0), .null, .null, .int (nI 0), .int (nI 0), .null, .null, .null, .null, .int (nI 0)])), (q_1, .inl (g 0, 801, .inl (fun _ => nI 0))), (q_2, .inl (g 0, 801, .inl (fun _ => nI 0)))] := hD
  refine lv_aload_n G.1 G.2.1 d_Hp_init_22 rfl (lv_at hl 0 rfl) ?_
  refine W.eq (g2 := F0 m 23 ls [.ref h0]) rfl ?_
  refine lv_sipush (v := nI 801) G.1 G.2.1 d_Hp_init_23 (by decide) ?_
  refine kNew (ty := .int) (N' := 801) (a0 := (801, .inl (fun _ => nI 0))) G q404 rfl (fun _ h => h) 0 rfl hP hD hS (fun _ => rfl) (nI_pos (by omega)) (nI_clamp (by omega)) (Nat.le_of_ble_eq_true rfl) (Nat.le_of_ble_eq_true rfl) (Nat.le_of_ble_eq_true rfl) d_Hp_init_26 (fun q_3 H hP hD hS => ?_)
  have hP : va_P D CL [(h0, .inr (2, [.ref q_1, .ref q_2, .null, .null, .int (nI 0), .int (nI 0), .null, .null, .int (nI 0), .int (nI 0), .null, .null, .null, .null, .int (nI 0)])), (q_1, .inl (g 0, 801, .inl (fun _ => nI 0))), (q_2, .inl (g 0, 801, .inl (fun _ => nI 0))), (q_3, .inl (g 0, 801, .inl (fun _ => nI 0)))] H := hP
  have hD : va_D A [(h0, .inr (2, [.ref q_1, .ref q_2, .null, .null, .int (nI 0), .int (nI 0), .null, .null, .int (nI 0), .int (nI 0), .null, .null, .null, .null, .int (nI 0)])), (q_1, .inl (g 0, 801, .inl (fun _ => nI 0))), (q_2, .inl (g 0, 801, .inl (fun _ => nI 0))), (q_3, .inl (g 0, 801, .inl (fun _ => nI 0)))] := hD
  refine W.widen (k := 3) (n := 2403) (by omega) (by omega) ?_
  refine kpF (ci := 2) G iHp tHp tHp_ok nHp hP hD hS 0 rfl rfl 2 (by decide) q918 rfl rfl rfl rfl rfl rfl (Nat.le_of_ble_eq_true rfl) d_Hp_init_28 (fun H locs hP hD hS => ?_)
  have hP : va_P D CL [(h0, .inr (2, [.ref q_1, .ref q_2, .ref q_3, .null, .int (nI 0), .int (nI 0), .null, .null, .int (nI 0), .int (nI 0), .null, .null, .null, .null, .int (nI 0)])), (q_1, .inl (g 0, 801, .inl (fun _ => nI 0))), (q_2, .inl (g 0, 801, .inl (fun _ => nI 0))), (q_3, .inl (g 0, 801, .inl (fun _ => nI 0)))] H := hP
  have hD : va_D A [(h0, .inr (2, [.ref q_1, .ref q_2, .ref q_3, .null, .int (nI 0), .int (nI 0), .null, .null, .int (nI 0), .int (nI 0), .null, .null, .null, .null, .int (nI 0)])), (q_1, .inl (g 0, 801, .inl (fun _ => nI 0))), (q_2, .inl (g 0, 801, .inl (fun _ => nI 0))), (q_3, .inl (g 0, 801, .inl (fun _ => nI 0)))] := hD
  refine lv_aload_n G.1 G.2.1 d_Hp_init_31 rfl (lv_at hl 0 rfl) ?_
  refine lv_sipush (v := nI 4000) G.1 G.2.1 d_Hp_init_32 (by decide) ?_
  refine kNew (ty := .int) (N' := 4000) (a0 := (4000, .inl (fun _ => nI 0))) G q404 rfl (fun _ h => h) 0 rfl hP hD hS (fun _ => rfl) (nI_pos (by omega)) (nI_clamp (by omega)) (Nat.le_of_ble_eq_true rfl) (Nat.le_of_ble_eq_true rfl) (Nat.le_of_ble_eq_true rfl) d_Hp_init_35 (fun q_4 H hP hD hS => ?_)
  have hP : va_P D CL [(h0, .inr (2, [.ref q_1, .ref q_2, .ref q_3, .null, .int (nI 0), .int (nI 0), .null, .null, .int (nI 0), .int (nI 0), .null, .null, .null, .null, .int (nI 0)])), (q_1, .inl (g 0, 801, .inl (fun _ => nI 0))), (q_2, .inl (g 0, 801, .inl (fun _ => nI 0))), (q_3, .inl (g 0, 801, .inl (fun _ => nI 0))), (q_4, .inl (g 0, 4000, .inl (fun _ => nI 0)))] H := hP
  have hD : va_D A [(h0, .inr (2, [.ref q_1, .ref q_2, .ref q_3, .null, .int (nI 0), .int (nI 0), .null, .null, .int (nI 0), .int (nI 0), .null, .null, .null, .null, .int (nI 0)])), (q_1, .inl (g 0, 801, .inl (fun _ => nI 0))), (q_2, .inl (g 0, 801, .inl (fun _ => nI 0))), (q_3, .inl (g 0, 801, .inl (fun _ => nI 0))), (q_4, .inl (g 0, 4000, .inl (fun _ => nI 0)))] := hD
  refine W.widen (k := 4) (n := 6403) (by omega) (by omega) ?_
  refine kp (ci := 2) G iHp tHp tHp_ok nHp hP hD hS 0 rfl rfl 3 (by decide) q921 rfl rfl rfl rfl (Nat.le_of_ble_eq_true rfl) d_Hp_init_37 (fun H locs hP hD hS => ?_)
  have hP : va_P D CL [(h0, .inr (2, [.ref q_1, .ref q_2, .ref q_3, .ref q_4, .int (nI 0), .int (nI 0), .null, .null, .int (nI 0), .int (nI 0), .null, .null, .null, .null, .int (nI 0)])), (q_1, .inl (g 0, 801, .inl (fun _ => nI 0))), (q_2, .inl (g 0, 801, .inl (fun _ => nI 0))), (q_3, .inl (g 0, 801, .inl (fun _ => nI 0))), (q_4, .inl (g 0, 4000, .inl (fun _ => nI 0)))] H := hP
  have hD : va_D A [(h0, .inr (2, [.ref q_1, .ref q_2, .ref q_3, .ref q_4, .int (nI 0), .int (nI 0), .null, .null, .int (nI 0), .int (nI 0), .null, .null, .null, .null, .int (nI 0)])), (q_1, .inl (g 0, 801, .inl (fun _ => nI 0))), (q_2, .inl (g 0, 801, .inl (fun _ => nI 0))), (q_3, .inl (g 0, 801, .inl (fun _ => nI 0))), (q_4, .inl (g 0, 4000, .inl (fun _ => nI 0)))] := hD
  refine lv_aload_n G.1 G.2.1 d_Hp_init_40 rfl (lv_at hl 0 rfl) ?_
  refine lv_iconst (v := nI 0) G.1 G.2.1 d_Hp_init_41 (by decide) ?_
  refine kp (ci := 2) G iHp tHp tHp_ok nHp hP hD hS 0 rfl rfl 4 (by decide) q923 rfl rfl rfl rfl (Nat.le_of_ble_eq_true rfl) d_Hp_init_42 (fun H locs hP hD hS => ?_)
  have hP : va_P D CL [(h0, .inr (2, [.ref q_1, .ref q_2, .ref q_3, .ref q_4, .int (nI 0), .int (nI 0), .null, .null, .int (nI 0), .int (nI 0), .null, .null, .null, .null, .int (nI 0)])), (q_1, .inl (g 0, 801, .inl (fun _ => nI 0))), (q_2, .inl (g 0, 801, .inl (fun _ => nI 0))), (q_3, .inl (g 0, 801, .inl (fun _ => nI 0))), (q_4, .inl (g 0, 4000, .inl (fun _ => nI 0)))] H := hP
  have hD : va_D A [(h0, .inr (2, [.ref q_1, .ref q_2, .ref q_3, .ref q_4, .int (nI 0), .int (nI 0), .null, .null, .int (nI 0), .int (nI 0), .null, .null, .null, .null, .int (nI 0)])), (q_1, .inl (g 0, 801, .inl (fun _ => nI 0))), (q_2, .inl (g 0, 801, .inl (fun _ => nI 0))), (q_3, .inl (g 0, 801, .inl (fun _ => nI 0))), (q_4, .inl (g 0, 4000, .inl (fun _ => nI 0)))] := hD
  refine lv_aload_n G.1 G.2.1 d_Hp_init_45 rfl (lv_at hl 0 rfl) ?_
  refine lv_iconst (v := nI 0) G.1 G.2.1 d_Hp_init_46 (by decide) ?_
  refine W.eq (g2 := F0 m 47 ls [.int (nI 0), .ref h0]) rfl ?_
  refine kp (ci := 2) G iHp tHp tHp_ok nHp hP hD hS 0 rfl rfl 5 (by decide) q925 rfl rfl rfl rfl (Nat.le_of_ble_eq_true rfl) d_Hp_init_47 (fun H locs hP hD hS => ?_)
  have hP : va_P D CL [(h0, .inr (2, [.ref q_1, .ref q_2, .ref q_3, .ref q_4, .int (nI 0), .int (nI 0), .null, .null, .int (nI 0), .int (nI 0), .null, .null, .null, .null, .int (nI 0)])), (q_1, .inl (g 0, 801, .inl (fun _ => nI 0))), (q_2, .inl (g 0, 801, .inl (fun _ => nI 0))), (q_3, .inl (g 0, 801, .inl (fun _ => nI 0))), (q_4, .inl (g 0, 4000, .inl (fun _ => nI 0)))] H := hP
  have hD : va_D A [(h0, .inr (2, [.ref q_1, .ref q_2, .ref q_3, .ref q_4, .int (nI 0), .int (nI 0), .null, .null, .int (nI 0), .int (nI 0), .null, .null, .null, .null, .int (nI 0)])), (q_1, .inl (g 0, 801, .inl (fun _ => nI 0))), (q_2, .inl (g 0, 801, .inl (fun _ => nI 0))), (q_3, .inl (g 0, 801, .inl (fun _ => nI 0))), (q_4, .inl (g 0, 4000, .inl (fun _ => nI 0)))] := hD
  refine lv_aload_n G.1 G.2.1 d_Hp_init_50 rfl (lv_at hl 0 rfl) ?_
  refine lv_sipush (v := nI 801) G.1 G.2.1 d_Hp_init_51 (by decide) ?_
  refine kNew (ty := .int) (N' := 801) (a0 := (801, .inl (fun _ => nI 0))) G q404 rfl (fun _ h => h) 0 rfl hP hD hS (fun _ => rfl) (nI_pos (by omega)) (nI_clamp (by omega)) (Nat.le_of_ble_eq_true rfl) (Nat.le_of_ble_eq_true rfl) (Nat.le_of_ble_eq_true rfl) d_Hp_init_54 (fun q_5 H hP hD hS => ?_)
  have hP : va_P D CL [(h0, .inr (2, [.ref q_1, .ref q_2, .ref q_3, .ref q_4, .int (nI 0), .int (nI 0), .null, .null, .int (nI 0), .int (nI 0), .null, .null, .null, .null, .int (nI 0)])), (q_1, .inl (g 0, 801, .inl (fun _ => nI 0))), (q_2, .inl (g 0, 801, .inl (fun _ => nI 0))), (q_3, .inl (g 0, 801, .inl (fun _ => nI 0))), (q_4, .inl (g 0, 4000, .inl (fun _ => nI 0))), (q_5, .inl (g 0, 801, .inl (fun _ => nI 0)))] H := hP
  have hD : va_D A [(h0, .inr (2, [.ref q_1, .ref q_2, .ref q_3, .ref q_4, .int (nI 0), .int (nI 0), .null, .null, .int (nI 0), .int (nI 0), .null, .null, .null, .null, .int (nI 0)])), (q_1, .inl (g 0, 801, .inl (fun _ => nI 0))), (q_2, .inl (g 0, 801, .inl (fun _ => nI 0))), (q_3, .inl (g 0, 801, .inl (fun _ => nI 0))), (q_4, .inl (g 0, 4000, .inl (fun _ => nI 0))), (q_5, .inl (g 0, 801, .inl (fun _ => nI 0)))] := hD
  refine W.widen (k := 5) (n := 7204) (by omega) (by omega) ?_
  refine kpF (ci := 2) G iHp tHp tHp_ok nHp hP hD hS 0 rfl rfl 6 (by decide) q927 rfl rfl rfl rfl rfl rfl (Nat.le_of_ble_eq_true rfl) d_Hp_init_56 (fun H locs hP hD hS => ?_)
  have hP : va_P D CL [(h0, .inr (2, [.ref q_1, .ref q_2, .ref q_3, .ref q_4, .int (nI 0), .int (nI 0), .ref q_5, .null, .int (nI 0), .int (nI 0), .null, .null, .null, .null, .int (nI 0)])), (q_1, .inl (g 0, 801, .inl (fun _ => nI 0))), (q_2, .inl (g 0, 801, .inl (fun _ => nI 0))), (q_3, .inl (g 0, 801, .inl (fun _ => nI 0))), (q_4, .inl (g 0, 4000, .inl (fun _ => nI 0))), (q_5, .inl (g 0, 801, .inl (fun _ => nI 0)))] H := hP
  have hD : va_D A [(h0, .inr (2, [.ref q_1, .ref q_2, .ref q_3, .ref q_4, .int (nI 0), .int (nI 0), .ref q_5, .null, .int (nI 0), .int (nI 0), .null, .null, .null, .null, .int (nI 0)])), (q_1, .inl (g 0, 801, .inl (fun _ => nI 0))), (q_2, .inl (g 0, 801, .inl (fun _ => nI 0))), (q_3, .inl (g 0, 801, .inl (fun _ => nI 0))), (q_4, .inl (g 0, 4000, .inl (fun _ => nI 0))), (q_5, .inl (g 0, 801, .inl (fun _ => nI 0)))] := hD
  refine lv_aload_n G.1 G.2.1 d_Hp_init_59 rfl (lv_at hl 0 rfl) ?_
  refine lv_sipush (v := nI 4000) G.1 G.2.1 d_Hp_init_60 (by decide) ?_
  refine kNew (ty := .int) (N' := 4000) (a0 := (4000, .inl (fun _ => nI 0))) G q404 rfl (fun _ h => h) 0 rfl hP hD hS (fun _ => rfl) (nI_pos (by omega)) (nI_clamp (by omega)) (Nat.le_of_ble_eq_true rfl) (Nat.le_of_ble_eq_true rfl) (Nat.le_of_ble_eq_true rfl) d_Hp_init_63 (fun q_6 H hP hD hS => ?_)
  have hP : va_P D CL [(h0, .inr (2, [.ref q_1, .ref q_2, .ref q_3, .ref q_4, .int (nI 0), .int (nI 0), .ref q_5, .null, .int (nI 0), .int (nI 0), .null, .null, .null, .null, .int (nI 0)])), (q_1, .inl (g 0, 801, .inl (fun _ => nI 0))), (q_2, .inl (g 0, 801, .inl (fun _ => nI 0))), (q_3, .inl (g 0, 801, .inl (fun _ => nI 0))), (q_4, .inl (g 0, 4000, .inl (fun _ => nI 0))), (q_5, .inl (g 0, 801, .inl (fun _ => nI 0))), (q_6, .inl (g 0, 4000, .inl (fun _ => nI 0)))] H := hP
  have hD : va_D A [(h0, .inr (2, [.ref q_1, .ref q_2, .ref q_3, .ref q_4, .int (nI 0), .int (nI 0), .ref q_5, .null, .int (nI 0), .int (nI 0), .null, .null, .null, .null, .int (nI 0)])), (q_1, .inl (g 0, 801, .inl (fun _ => nI 0))), (q_2, .inl (g 0, 801, .inl (fun _ => nI 0))), (q_3, .inl (g 0, 801, .inl (fun _ => nI 0))), (q_4, .inl (g 0, 4000, .inl (fun _ => nI 0))), (q_5, .inl (g 0, 801, .inl (fun _ => nI 0))), (q_6, .inl (g 0, 4000, .inl (fun _ => nI 0)))] := hD
  refine W.widen (k := 6) (n := 11204) (by omega) (by omega) ?_
  refine kp (ci := 2) G iHp tHp tHp_ok nHp hP hD hS 0 rfl rfl 7 (by decide) q928 rfl rfl rfl rfl (Nat.le_of_ble_eq_true rfl) d_Hp_init_65 (fun H locs hP hD hS => ?_)
  have hP : va_P D CL [(h0, .inr (2, [.ref q_1, .ref q_2, .ref q_3, .ref q_4, .int (nI 0), .int (nI 0), .ref q_5, .ref q_6, .int (nI 0), .int (nI 0), .null, .null, .null, .null, .int (nI 0)])), (q_1, .inl (g 0, 801, .inl (fun _ => nI 0))), (q_2, .inl (g 0, 801, .inl (fun _ => nI 0))), (q_3, .inl (g 0, 801, .inl (fun _ => nI 0))), (q_4, .inl (g 0, 4000, .inl (fun _ => nI 0))), (q_5, .inl (g 0, 801, .inl (fun _ => nI 0))), (q_6, .inl (g 0, 4000, .inl (fun _ => nI 0)))] H := hP
  have hD : va_D A [(h0, .inr (2, [.ref q_1, .ref q_2, .ref q_3, .ref q_4, .int (nI 0), .int (nI 0), .ref q_5, .ref q_6, .int (nI 0), .int (nI 0), .null, .null, .null, .null, .int (nI 0)])), (q_1, .inl (g 0, 801, .inl (fun _ => nI 0))), (q_2, .inl (g 0, 801, .inl (fun _ => nI 0))), (q_3, .inl (g 0, 801, .inl (fun _ => nI 0))), (q_4, .inl (g 0, 4000, .inl (fun _ => nI 0))), (q_5, .inl (g 0, 801, .inl (fun _ => nI 0))), (q_6, .inl (g 0, 4000, .inl (fun _ => nI 0)))] := hD
  refine lv_aload_n G.1 G.2.1 d_Hp_init_68 rfl (lv_at hl 0 rfl) ?_
  refine lv_iconst (v := nI 1) G.1 G.2.1 d_Hp_init_69 (by decide) ?_
  refine kp (ci := 2) G iHp tHp tHp_ok nHp hP hD hS 0 rfl rfl 8 (by decide) q929 rfl rfl rfl rfl (Nat.le_of_ble_eq_true rfl) d_Hp_init_70 (fun H locs hP hD hS => ?_)
  have hP : va_P D CL [(h0, .inr (2, [.ref q_1, .ref q_2, .ref q_3, .ref q_4, .int (nI 0), .int (nI 0), .ref q_5, .ref q_6, .int (nI 1), .int (nI 0), .null, .null, .null, .null, .int (nI 0)])), (q_1, .inl (g 0, 801, .inl (fun _ => nI 0))), (q_2, .inl (g 0, 801, .inl (fun _ => nI 0))), (q_3, .inl (g 0, 801, .inl (fun _ => nI 0))), (q_4, .inl (g 0, 4000, .inl (fun _ => nI 0))), (q_5, .inl (g 0, 801, .inl (fun _ => nI 0))), (q_6, .inl (g 0, 4000, .inl (fun _ => nI 0)))] H := hP
  have hD : va_D A [(h0, .inr (2, [.ref q_1, .ref q_2, .ref q_3, .ref q_4, .int (nI 0), .int (nI 0), .ref q_5, .ref q_6, .int (nI 1), .int (nI 0), .null, .null, .null, .null, .int (nI 0)])), (q_1, .inl (g 0, 801, .inl (fun _ => nI 0))), (q_2, .inl (g 0, 801, .inl (fun _ => nI 0))), (q_3, .inl (g 0, 801, .inl (fun _ => nI 0))), (q_4, .inl (g 0, 4000, .inl (fun _ => nI 0))), (q_5, .inl (g 0, 801, .inl (fun _ => nI 0))), (q_6, .inl (g 0, 4000, .inl (fun _ => nI 0)))] := hD
  refine W.eq (g2 := F0 m 73 ls []) rfl ?_
  refine lv_aload_n G.1 G.2.1 d_Hp_init_73 rfl (lv_at hl 0 rfl) ?_
  refine lv_iconst (v := nI 0) G.1 G.2.1 d_Hp_init_74 (by decide) ?_
  refine kp (ci := 2) G iHp tHp tHp_ok nHp hP hD hS 0 rfl rfl 9 (by decide) q930 rfl rfl rfl rfl (Nat.le_of_ble_eq_true rfl) d_Hp_init_75 (fun H locs hP hD hS => ?_)
  have hP : va_P D CL [(h0, .inr (2, [.ref q_1, .ref q_2, .ref q_3, .ref q_4, .int (nI 0), .int (nI 0), .ref q_5, .ref q_6, .int (nI 1), .int (nI 0), .null, .null, .null, .null, .int (nI 0)])), (q_1, .inl (g 0, 801, .inl (fun _ => nI 0))), (q_2, .inl (g 0, 801, .inl (fun _ => nI 0))), (q_3, .inl (g 0, 801, .inl (fun _ => nI 0))), (q_4, .inl (g 0, 4000, .inl (fun _ => nI 0))), (q_5, .inl (g 0, 801, .inl (fun _ => nI 0))), (q_6, .inl (g 0, 4000, .inl (fun _ => nI 0)))] H := hP
  have hD : va_D A [(h0, .inr (2, [.ref q_1, .ref q_2, .ref q_3, .ref q_4, .int (nI 0), .int (nI 0), .ref q_5, .ref q_6, .int (nI 1), .int (nI 0), .null, .null, .null, .null, .int (nI 0)])), (q_1, .inl (g 0, 801, .inl (fun _ => nI 0))), (q_2, .inl (g 0, 801, .inl (fun _ => nI 0))), (q_3, .inl (g 0, 801, .inl (fun _ => nI 0))), (q_4, .inl (g 0, 4000, .inl (fun _ => nI 0))), (q_5, .inl (g 0, 801, .inl (fun _ => nI 0))), (q_6, .inl (g 0, 4000, .inl (fun _ => nI 0)))] := hD
  refine lv_aload_n G.1 G.2.1 d_Hp_init_78 rfl (lv_at hl 0 rfl) ?_
  refine knew (ci := 3) (fs := [.null, .int (nI 0)]) G iIn tIn tIn_ok q910 q374 q331 hP hD hS rfl rfl (Nat.le_of_ble_eq_true rfl) (Nat.le_of_ble_eq_true rfl) d_Hp_init_79 (fun q_7 H hP hD hS => ?_)
  have hP : va_P D CL [(h0, .inr (2, [.ref q_1, .ref q_2, .ref q_3, .ref q_4, .int (nI 0), .int (nI 0), .ref q_5, .ref q_6, .int (nI 1), .int (nI 0), .null, .null, .null, .null, .int (nI 0)])), (q_1, .inl (g 0, 801, .inl (fun _ => nI 0))), (q_2, .inl (g 0, 801, .inl (fun _ => nI 0))), (q_3, .inl (g 0, 801, .inl (fun _ => nI 0))), (q_4, .inl (g 0, 4000, .inl (fun _ => nI 0))), (q_5, .inl (g 0, 801, .inl (fun _ => nI 0))), (q_6, .inl (g 0, 4000, .inl (fun _ => nI 0))), (q_7, .inr (3, [.null, .int (nI 0)]))] H := hP
  have hD : va_D A [(h0, .inr (2, [.ref q_1, .ref q_2, .ref q_3, .ref q_4, .int (nI 0), .int (nI 0), .ref q_5, .ref q_6, .int (nI 1), .int (nI 0), .null, .null, .null, .null, .int (nI 0)])), (q_1, .inl (g 0, 801, .inl (fun _ => nI 0))), (q_2, .inl (g 0, 801, .inl (fun _ => nI 0))), (q_3, .inl (g 0, 801, .inl (fun _ => nI 0))), (q_4, .inl (g 0, 4000, .inl (fun _ => nI 0))), (q_5, .inl (g 0, 801, .inl (fun _ => nI 0))), (q_6, .inl (g 0, 4000, .inl (fun _ => nI 0))), (q_7, .inr (3, [.null, .int (nI 0)]))] := hD
  refine W.widen (k := 7) (n := 11206) (by omega) (by omega) ?_
  refine lv_dup G.1 G.2.1 d_Hp_init_82 rfl ?_
  refine lv_bipush (v := nI 16) G.1 G.2.1 d_Hp_init_83 (by decide) ?_
  refine kEv (wr := [(h0, .inr (2, [.ref q_1, .ref q_2, .ref q_3, .ref q_4, .int (nI 0), .int (nI 0), .ref q_5, .ref q_6, .int (nI 1), .int (nI 0), .null, .null, .null, .null, .int (nI 0)])), (q_1, .inl (g 0, 801, .inl (fun _ => nI 0))), (q_2, .inl (g 0, 801, .inl (fun _ => nI 0))), (q_3, .inl (g 0, 801, .inl (fun _ => nI 0))), (q_4, .inl (g 0, 4000, .inl (fun _ => nI 0))), (q_5, .inl (g 0, 801, .inl (fun _ => nI 0))), (q_6, .inl (g 0, 4000, .inl (fun _ => nI 0)))]) G (kI (As := [.int (nI 16)]) (rest := [.ref q_7, .ref h0]) G hP hD hS [7] rfl rfl (c_In_init l D g q_7 16 H.size (by decide)) w_In_init q911 rfl rfl ⟨Nat.le_of_ble_eq_true rfl, Nat.le_of_ble_eq_true rfl⟩ (fun _ h => absurd h List.not_mem_nil) hl.1 rfl (Nat.le_of_ble_eq_true rfl) rfl ⟨Nat.le_of_ble_eq_true rfl, (Nat.le_of_ble_eq_true rfl)⟩ d_Hp_init_85) hP hD hS [7] [0, 1, 2, 3, 4, 5, 6] rfl rfl rfl rfl (fun u_9 H locs hw hP hD hS hzH => ?_)
  obtain ⟨x_10, rfl⟩ : ∃ z, z = u_9 := ⟨_, rfl⟩
  have hw : True := hw
  have hP : va_P D CL [(h0, .inr (2, [.ref q_1, .ref q_2, .ref q_3, .ref q_4, .int (nI 0), .int (nI 0), .ref q_5, .ref q_6, .int (nI 1), .int (nI 0), .null, .null, .null, .null, .int (nI 0)])), (q_1, .inl (g 0, 801, .inl (fun _ => nI 0))), (q_2, .inl (g 0, 801, .inl (fun _ => nI 0))), (q_3, .inl (g 0, 801, .inl (fun _ => nI 0))), (q_4, .inl (g 0, 4000, .inl (fun _ => nI 0))), (q_5, .inl (g 0, 801, .inl (fun _ => nI 0))), (q_6, .inl (g 0, 4000, .inl (fun _ => nI 0))), (q_7, .inr (3, [.ref x_10, .int (nI 0)])), (x_10, .inl (g 0, 16, .inl (fun _ => nI 0)))] H := hP
  have hD : va_D A [(h0, .inr (2, [.ref q_1, .ref q_2, .ref q_3, .ref q_4, .int (nI 0), .int (nI 0), .ref q_5, .ref q_6, .int (nI 1), .int (nI 0), .null, .null, .null, .null, .int (nI 0)])), (q_1, .inl (g 0, 801, .inl (fun _ => nI 0))), (q_2, .inl (g 0, 801, .inl (fun _ => nI 0))), (q_3, .inl (g 0, 801, .inl (fun _ => nI 0))), (q_4, .inl (g 0, 4000, .inl (fun _ => nI 0))), (q_5, .inl (g 0, 801, .inl (fun _ => nI 0))), (q_6, .inl (g 0, 4000, .inl (fun _ => nI 0))), (q_7, .inr (3, [.ref x_10, .int (nI 0)])), (x_10, .inl (g 0, 16, .inl (fun _ => nI 0)))] := hD
  refine W.widen (k := 8) (n := 11222) (by omega) (by omega) ?_
  refine kpF (ci := 2) G iHp tHp tHp_ok nHp hP hD hS 0 rfl rfl 10 (by decide) q931 rfl rfl rfl rfl rfl rfl (Nat.le_of_ble_eq_true rfl) d_Hp_init_88 (fun H locs hP hD hS => ?_)
  have hP : va_P D CL [(h0, .inr (2, [.ref q_1, .ref q_2, .ref q_3, .ref q_4, .int (nI 0), .int (nI 0), .ref q_5, .ref q_6, .int (nI 1), .int (nI 0), .ref q_7, .null, .null, .null, .int (nI 0)])), (q_1, .inl (g 0, 801, .inl (fun _ => nI 0))), (q_2, .inl (g 0, 801, .inl (fun _ => nI 0))), (q_3, .inl (g 0, 801, .inl (fun _ => nI 0))), (q_4, .inl (g 0, 4000, .inl (fun _ => nI 0))), (q_5, .inl (g 0, 801, .inl (fun _ => nI 0))), (q_6, .inl (g 0, 4000, .inl (fun _ => nI 0))), (q_7, .inr (3, [.ref x_10, .int (nI 0)])), (x_10, .inl (g 0, 16, .inl (fun _ => nI 0)))] H := hP
  have hD : va_D A [(h0, .inr (2, [.ref q_1, .ref q_2, .ref q_3, .ref q_4, .int (nI 0), .int (nI 0), .ref q_5, .ref q_6, .int (nI 1), .int (nI 0), .ref q_7, .null, .null, .null, .int (nI 0)])), (q_1, .inl (g 0, 801, .inl (fun _ => nI 0))), (q_2, .inl (g 0, 801, .inl (fun _ => nI 0))), (q_3, .inl (g 0, 801, .inl (fun _ => nI 0))), (q_4, .inl (g 0, 4000, .inl (fun _ => nI 0))), (q_5, .inl (g 0, 801, .inl (fun _ => nI 0))), (q_6, .inl (g 0, 4000, .inl (fun _ => nI 0))), (q_7, .inr (3, [.ref x_10, .int (nI 0)])), (x_10, .inl (g 0, 16, .inl (fun _ => nI 0)))] := hD
  refine lv_aload_n G.1 G.2.1 d_Hp_init_91 rfl (lv_at hl 0 rfl) ?_
  refine knew (ci := 3) (fs := [.null, .int (nI 0)]) G iIn tIn tIn_ok q910 q374 q331 hP hD hS rfl rfl (Nat.le_of_ble_eq_true rfl) (Nat.le_of_ble_eq_true rfl) d_Hp_init_92 (fun q_11 H hP hD hS => ?_)
  have hP : va_P D CL [(h0, .inr (2, [.ref q_1, .ref q_2, .ref q_3, .ref q_4, .int (nI 0), .int (nI 0), .ref q_5, .ref q_6, .int (nI 1), .int (nI 0), .ref q_7, .null, .null, .null, .int (nI 0)])), (q_1, .inl (g 0, 801, .inl (fun _ => nI 0))), (q_2, .inl (g 0, 801, .inl (fun _ => nI 0))), (q_3, .inl (g 0, 801, .inl (fun _ => nI 0))), (q_4, .inl (g 0, 4000, .inl (fun _ => nI 0))), (q_5, .inl (g 0, 801, .inl (fun _ => nI 0))), (q_6, .inl (g 0, 4000, .inl (fun _ => nI 0))), (q_7, .inr (3, [.ref x_10, .int (nI 0)])), (x_10, .inl (g 0, 16, .inl (fun _ => nI 0))), (q_11, .inr (3, [.null, .int (nI 0)]))] H := hP
  have hD : va_D A [(h0, .inr (2, [.ref q_1, .ref q_2, .ref q_3, .ref q_4, .int (nI 0), .int (nI 0), .ref q_5, .ref q_6, .int (nI 1), .int (nI 0), .ref q_7, .null, .null, .null, .int (nI 0)])), (q_1, .inl (g 0, 801, .inl (fun _ => nI 0))), (q_2, .inl (g 0, 801, .inl (fun _ => nI 0))), (q_3, .inl (g 0, 801, .inl (fun _ => nI 0))), (q_4, .inl (g 0, 4000, .inl (fun _ => nI 0))), (q_5, .inl (g 0, 801, .inl (fun _ => nI 0))), (q_6, .inl (g 0, 4000, .inl (fun _ => nI 0))), (q_7, .inr (3, [.ref x_10, .int (nI 0)])), (x_10, .inl (g 0, 16, .inl (fun _ => nI 0))), (q_11, .inr (3, [.null, .int (nI 0)]))] := hD
  refine W.widen (k := 9) (n := 11224) (by omega) (by omega) ?_
  refine lv_dup G.1 G.2.1 d_Hp_init_95 rfl ?_
  refine W.eq (g2 := F0 m 96 ls [.ref q_11, .ref q_11, .ref h0]) rfl ?_
  refine lv_bipush (v := nI 16) G.1 G.2.1 d_Hp_init_96 (by decide) ?_
  refine kEv (wr := [(h0, .inr (2, [.ref q_1, .ref q_2, .ref q_3, .ref q_4, .int (nI 0), .int (nI 0), .ref q_5, .ref q_6, .int (nI 1), .int (nI 0), .ref q_7, .null, .null, .null, .int (nI 0)])), (q_1, .inl (g 0, 801, .inl (fun _ => nI 0))), (q_2, .inl (g 0, 801, .inl (fun _ => nI 0))), (q_3, .inl (g 0, 801, .inl (fun _ => nI 0))), (q_4, .inl (g 0, 4000, .inl (fun _ => nI 0))), (q_5, .inl (g 0, 801, .inl (fun _ => nI 0))), (q_6, .inl (g 0, 4000, .inl (fun _ => nI 0))), (q_7, .inr (3, [.ref x_10, .int (nI 0)])), (x_10, .inl (g 0, 16, .inl (fun _ => nI 0)))]) G (kI (As := [.int (nI 16)]) (rest := [.ref q_11, .ref h0]) G hP hD hS [9] rfl rfl (c_In_init l D g q_11 16 H.size (by decide)) w_In_init q911 rfl rfl ⟨Nat.le_of_ble_eq_true rfl, Nat.le_of_ble_eq_true rfl⟩ (fun _ h => absurd h List.not_mem_nil) hl.1 rfl (Nat.le_of_ble_eq_true rfl) rfl ⟨Nat.le_of_ble_eq_true rfl, (Nat.le_of_ble_eq_true rfl)⟩ d_Hp_init_98) hP hD hS [9] [0, 1, 2, 3, 4, 5, 6, 7, 8] rfl rfl rfl rfl (fun u_13 H locs hw hP hD hS hzH => ?_)
  obtain ⟨x_14, rfl⟩ : ∃ z, z = u_13 := ⟨_, rfl⟩
  have hw : True := hw
  have hP : va_P D CL [(h0, .inr (2, [.ref q_1, .ref q_2, .ref q_3, .ref q_4, .int (nI 0), .int (nI 0), .ref q_5, .ref q_6, .int (nI 1), .int (nI 0), .ref q_7, .null, .null, .null, .int (nI 0)])), (q_1, .inl (g 0, 801, .inl (fun _ => nI 0))), (q_2, .inl (g 0, 801, .inl (fun _ => nI 0))), (q_3, .inl (g 0, 801, .inl (fun _ => nI 0))), (q_4, .inl (g 0, 4000, .inl (fun _ => nI 0))), (q_5, .inl (g 0, 801, .inl (fun _ => nI 0))), (q_6, .inl (g 0, 4000, .inl (fun _ => nI 0))), (q_7, .inr (3, [.ref x_10, .int (nI 0)])), (x_10, .inl (g 0, 16, .inl (fun _ => nI 0))), (q_11, .inr (3, [.ref x_14, .int (nI 0)])), (x_14, .inl (g 0, 16, .inl (fun _ => nI 0)))] H := hP
  have hD : va_D A [(h0, .inr (2, [.ref q_1, .ref q_2, .ref q_3, .ref q_4, .int (nI 0), .int (nI 0), .ref q_5, .ref q_6, .int (nI 1), .int (nI 0), .ref q_7, .null, .null, .null, .int (nI 0)])), (q_1, .inl (g 0, 801, .inl (fun _ => nI 0))), (q_2, .inl (g 0, 801, .inl (fun _ => nI 0))), (q_3, .inl (g 0, 801, .inl (fun _ => nI 0))), (q_4, .inl (g 0, 4000, .inl (fun _ => nI 0))), (q_5, .inl (g 0, 801, .inl (fun _ => nI 0))), (q_6, .inl (g 0, 4000, .inl (fun _ => nI 0))), (q_7, .inr (3, [.ref x_10, .int (nI 0)])), (x_10, .inl (g 0, 16, .inl (fun _ => nI 0))), (q_11, .inr (3, [.ref x_14, .int (nI 0)])), (x_14, .inl (g 0, 16, .inl (fun _ => nI 0)))] := hD
  refine W.widen (k := 10) (n := 11240) (by omega) (by omega) ?_
  refine kpF (ci := 2) G iHp tHp tHp_ok nHp hP hD hS 0 rfl rfl 11 (by decide) q932 rfl rfl rfl rfl rfl rfl (Nat.le_of_ble_eq_true rfl) d_Hp_init_101 (fun H locs hP hD hS => ?_)
  have hP : va_P D CL [(h0, .inr (2, [.ref q_1, .ref q_2, .ref q_3, .ref q_4, .int (nI 0), .int (nI 0), .ref q_5, .ref q_6, .int (nI 1), .int (nI 0), .ref q_7, .ref q_11, .null, .null, .int (nI 0)])), (q_1, .inl (g 0, 801, .inl (fun _ => nI 0))), (q_2, .inl (g 0, 801, .inl (fun _ => nI 0))), (q_3, .inl (g 0, 801, .inl (fun _ => nI 0))), (q_4, .inl (g 0, 4000, .inl (fun _ => nI 0))), (q_5, .inl (g 0, 801, .inl (fun _ => nI 0))), (q_6, .inl (g 0, 4000, .inl (fun _ => nI 0))), (q_7, .inr (3, [.ref x_10, .int (nI 0)])), (x_10, .inl (g 0, 16, .inl (fun _ => nI 0))), (q_11, .inr (3, [.ref x_14, .int (nI 0)])), (x_14, .inl (g 0, 16, .inl (fun _ => nI 0)))] H := hP
  have hD : va_D A [(h0, .inr (2, [.ref q_1, .ref q_2, .ref q_3, .ref q_4, .int (nI 0), .int (nI 0), .ref q_5, .ref q_6, .int (nI 1), .int (nI 0), .ref q_7, .ref q_11, .null, .null, .int (nI 0)])), (q_1, .inl (g 0, 801, .inl (fun _ => nI 0))), (q_2, .inl (g 0, 801, .inl (fun _ => nI 0))), (q_3, .inl (g 0, 801, .inl (fun _ => nI 0))), (q_4, .inl (g 0, 4000, .inl (fun _ => nI 0))), (q_5, .inl (g 0, 801, .inl (fun _ => nI 0))), (q_6, .inl (g 0, 4000, .inl (fun _ => nI 0))), (q_7, .inr (3, [.ref x_10, .int (nI 0)])), (x_10, .inl (g 0, 16, .inl (fun _ => nI 0))), (q_11, .inr (3, [.ref x_14, .int (nI 0)])), (x_14, .inl (g 0, 16, .inl (fun _ => nI 0)))] := hD
  refine lv_aload_n G.1 G.2.1 d_Hp_init_104 rfl (lv_at hl 0 rfl) ?_
  refine lv_sipush (v := nI 801) G.1 G.2.1 d_Hp_init_105 (by decide) ?_
  refine kNew (ty := .byte) (N' := 801) (a0 := (801, .inl (fun _ => nI 0))) G q403 rfl (fun _ h => h) 1 rfl hP hD hS (fun _ => rfl) (nI_pos (by omega)) (nI_clamp (by omega)) (Nat.le_of_ble_eq_true rfl) (Nat.le_of_ble_eq_true rfl) (Nat.le_of_ble_eq_true rfl) d_Hp_init_108 (fun q_15 H hP hD hS => ?_)
  have hP : va_P D CL [(h0, .inr (2, [.ref q_1, .ref q_2, .ref q_3, .ref q_4, .int (nI 0), .int (nI 0), .ref q_5, .ref q_6, .int (nI 1), .int (nI 0), .ref q_7, .ref q_11, .null, .null, .int (nI 0)])), (q_1, .inl (g 0, 801, .inl (fun _ => nI 0))), (q_2, .inl (g 0, 801, .inl (fun _ => nI 0))), (q_3, .inl (g 0, 801, .inl (fun _ => nI 0))), (q_4, .inl (g 0, 4000, .inl (fun _ => nI 0))), (q_5, .inl (g 0, 801, .inl (fun _ => nI 0))), (q_6, .inl (g 0, 4000, .inl (fun _ => nI 0))), (q_7, .inr (3, [.ref x_10, .int (nI 0)])), (x_10, .inl (g 0, 16, .inl (fun _ => nI 0))), (q_11, .inr (3, [.ref x_14, .int (nI 0)])), (x_14, .inl (g 0, 16, .inl (fun _ => nI 0))), (q_15, .inl (g 1, 801, .inl (fun _ => nI 0)))] H := hP
  have hD : va_D A [(h0, .inr (2, [.ref q_1, .ref q_2, .ref q_3, .ref q_4, .int (nI 0), .int (nI 0), .ref q_5, .ref q_6, .int (nI 1), .int (nI 0), .ref q_7, .ref q_11, .null, .null, .int (nI 0)])), (q_1, .inl (g 0, 801, .inl (fun _ => nI 0))), (q_2, .inl (g 0, 801, .inl (fun _ => nI 0))), (q_3, .inl (g 0, 801, .inl (fun _ => nI 0))), (q_4, .inl (g 0, 4000, .inl (fun _ => nI 0))), (q_5, .inl (g 0, 801, .inl (fun _ => nI 0))), (q_6, .inl (g 0, 4000, .inl (fun _ => nI 0))), (q_7, .inr (3, [.ref x_10, .int (nI 0)])), (x_10, .inl (g 0, 16, .inl (fun _ => nI 0))), (q_11, .inr (3, [.ref x_14, .int (nI 0)])), (x_14, .inl (g 0, 16, .inl (fun _ => nI 0))), (q_15, .inl (g 1, 801, .inl (fun _ => nI 0)))] := hD
  refine W.widen (k := 11) (n := 12041) (by omega) (by omega) ?_
  refine kpF (ci := 2) G iHp tHp tHp_ok nHp hP hD hS 0 rfl rfl 12 (by decide) q933 rfl rfl rfl rfl rfl rfl (Nat.le_of_ble_eq_true rfl) d_Hp_init_110 (fun H locs hP hD hS => ?_)
  have hP : va_P D CL [(h0, .inr (2, [.ref q_1, .ref q_2, .ref q_3, .ref q_4, .int (nI 0), .int (nI 0), .ref q_5, .ref q_6, .int (nI 1), .int (nI 0), .ref q_7, .ref q_11, .ref q_15, .null, .int (nI 0)])), (q_1, .inl (g 0, 801, .inl (fun _ => nI 0))), (q_2, .inl (g 0, 801, .inl (fun _ => nI 0))), (q_3, .inl (g 0, 801, .inl (fun _ => nI 0))), (q_4, .inl (g 0, 4000, .inl (fun _ => nI 0))), (q_5, .inl (g 0, 801, .inl (fun _ => nI 0))), (q_6, .inl (g 0, 4000, .inl (fun _ => nI 0))), (q_7, .inr (3, [.ref x_10, .int (nI 0)])), (x_10, .inl (g 0, 16, .inl (fun _ => nI 0))), (q_11, .inr (3, [.ref x_14, .int (nI 0)])), (x_14, .inl (g 0, 16, .inl (fun _ => nI 0))), (q_15, .inl (g 1, 801, .inl (fun _ => nI 0)))] H := hP
  have hD : va_D A [(h0, .inr (2, [.ref q_1, .ref q_2, .ref q_3, .ref q_4, .int (nI 0), .int (nI 0), .ref q_5, .ref q_6, .int (nI 1), .int (nI 0), .ref q_7, .ref q_11, .ref q_15, .null, .int (nI 0)])), (q_1, .inl (g 0, 801, .inl (fun _ => nI 0))), (q_2, .inl (g 0, 801, .inl (fun _ => nI 0))), (q_3, .inl (g 0, 801, .inl (fun _ => nI 0))), (q_4, .inl (g 0, 4000, .inl (fun _ => nI 0))), (q_5, .inl (g 0, 801, .inl (fun _ => nI 0))), (q_6, .inl (g 0, 4000, .inl (fun _ => nI 0))), (q_7, .inr (3, [.ref x_10, .int (nI 0)])), (x_10, .inl (g 0, 16, .inl (fun _ => nI 0))), (q_11, .inr (3, [.ref x_14, .int (nI 0)])), (x_14, .inl (g 0, 16, .inl (fun _ => nI 0))), (q_15, .inl (g 1, 801, .inl (fun _ => nI 0)))] := hD
  refine lv_aload_n G.1 G.2.1 d_Hp_init_113 rfl (lv_at hl 0 rfl) ?_
  refine lv_sipush (v := nI 801) G.1 G.2.1 d_Hp_init_114 (by decide) ?_
  refine kNew (ty := .int) (N' := 801) (a0 := (801, .inl (fun _ => nI 0))) G q404 rfl (fun _ h => h) 0 rfl hP hD hS (fun _ => rfl) (nI_pos (by omega)) (nI_clamp (by omega)) (Nat.le_of_ble_eq_true rfl) (Nat.le_of_ble_eq_true rfl) (Nat.le_of_ble_eq_true rfl) d_Hp_init_117 (fun q_16 H hP hD hS => ?_)
  have hP : va_P D CL [(h0, .inr (2, [.ref q_1, .ref q_2, .ref q_3, .ref q_4, .int (nI 0), .int (nI 0), .ref q_5, .ref q_6, .int (nI 1), .int (nI 0), .ref q_7, .ref q_11, .ref q_15, .null, .int (nI 0)])), (q_1, .inl (g 0, 801, .inl (fun _ => nI 0))), (q_2, .inl (g 0, 801, .inl (fun _ => nI 0))), (q_3, .inl (g 0, 801, .inl (fun _ => nI 0))), (q_4, .inl (g 0, 4000, .inl (fun _ => nI 0))), (q_5, .inl (g 0, 801, .inl (fun _ => nI 0))), (q_6, .inl (g 0, 4000, .inl (fun _ => nI 0))), (q_7, .inr (3, [.ref x_10, .int (nI 0)])), (x_10, .inl (g 0, 16, .inl (fun _ => nI 0))), (q_11, .inr (3, [.ref x_14, .int (nI 0)])), (x_14, .inl (g 0, 16, .inl (fun _ => nI 0))), (q_15, .inl (g 1, 801, .inl (fun _ => nI 0))), (q_16, .inl (g 0, 801, .inl (fun _ => nI 0)))] H := hP
  have hD : va_D A [(h0, .inr (2, [.ref q_1, .ref q_2, .ref q_3, .ref q_4, .int (nI 0), .int (nI 0), .ref q_5, .ref q_6, .int (nI 1), .int (nI 0), .ref q_7, .ref q_11, .ref q_15, .null, .int (nI 0)])), (q_1, .inl (g 0, 801, .inl (fun _ => nI 0))), (q_2, .inl (g 0, 801, .inl (fun _ => nI 0))), (q_3, .inl (g 0, 801, .inl (fun _ => nI 0))), (q_4, .inl (g 0, 4000, .inl (fun _ => nI 0))), (q_5, .inl (g 0, 801, .inl (fun _ => nI 0))), (q_6, .inl (g 0, 4000, .inl (fun _ => nI 0))), (q_7, .inr (3, [.ref x_10, .int (nI 0)])), (x_10, .inl (g 0, 16, .inl (fun _ => nI 0))), (q_11, .inr (3, [.ref x_14, .int (nI 0)])), (x_14, .inl (g 0, 16, .inl (fun _ => nI 0))), (q_15, .inl (g 1, 801, .inl (fun _ => nI 0))), (q_16, .inl (g 0, 801, .inl (fun _ => nI 0)))] := hD
  refine W.widen (k := 12) (n := 12842) (by omega) (by omega) ?_
  refine kpF (ci := 2) G iHp tHp tHp_ok nHp hP hD hS 0 rfl rfl 13 (by decide) q934 rfl rfl rfl rfl rfl rfl (Nat.le_of_ble_eq_true rfl) d_Hp_init_119 (fun H locs hP hD hS => ?_)
  have hP : va_P D CL [(h0, .inr (2, [.ref q_1, .ref q_2, .ref q_3, .ref q_4, .int (nI 0), .int (nI 0), .ref q_5, .ref q_6, .int (nI 1), .int (nI 0), .ref q_7, .ref q_11, .ref q_15, .ref q_16, .int (nI 0)])), (q_1, .inl (g 0, 801, .inl (fun _ => nI 0))), (q_2, .inl (g 0, 801, .inl (fun _ => nI 0))), (q_3, .inl (g 0, 801, .inl (fun _ => nI 0))), (q_4, .inl (g 0, 4000, .inl (fun _ => nI 0))), (q_5, .inl (g 0, 801, .inl (fun _ => nI 0))), (q_6, .inl (g 0, 4000, .inl (fun _ => nI 0))), (q_7, .inr (3, [.ref x_10, .int (nI 0)])), (x_10, .inl (g 0, 16, .inl (fun _ => nI 0))), (q_11, .inr (3, [.ref x_14, .int (nI 0)])), (x_14, .inl (g 0, 16, .inl (fun _ => nI 0))), (q_15, .inl (g 1, 801, .inl (fun _ => nI 0))), (q_16, .inl (g 0, 801, .inl (fun _ => nI 0)))] H := hP
  have hD : va_D A [(h0, .inr (2, [.ref q_1, .ref q_2, .ref q_3, .ref q_4, .int (nI 0), .int (nI 0), .ref q_5, .ref q_6, .int (nI 1), .int (nI 0), .ref q_7, .ref q_11, .ref q_15, .ref q_16, .int (nI 0)])), (q_1, .inl (g 0, 801, .inl (fun _ => nI 0))), (q_2, .inl (g 0, 801, .inl (fun _ => nI 0))), (q_3, .inl (g 0, 801, .inl (fun _ => nI 0))), (q_4, .inl (g 0, 4000, .inl (fun _ => nI 0))), (q_5, .inl (g 0, 801, .inl (fun _ => nI 0))), (q_6, .inl (g 0, 4000, .inl (fun _ => nI 0))), (q_7, .inr (3, [.ref x_10, .int (nI 0)])), (x_10, .inl (g 0, 16, .inl (fun _ => nI 0))), (q_11, .inr (3, [.ref x_14, .int (nI 0)])), (x_14, .inl (g 0, 16, .inl (fun _ => nI 0))), (q_15, .inl (g 1, 801, .inl (fun _ => nI 0))), (q_16, .inl (g 0, 801, .inl (fun _ => nI 0)))] := hD
  refine lv_aload_n G.1 G.2.1 d_Hp_init_122 rfl (lv_at hl 0 rfl) ?_
  refine W.eq (g2 := F0 m 123 ls [.ref h0]) rfl ?_
  refine lv_iconst (v := nI 0) G.1 G.2.1 d_Hp_init_123 (by decide) ?_
  refine kp (ci := 2) G iHp tHp tHp_ok nHp hP hD hS 0 rfl rfl 14 (by decide) q935 rfl rfl rfl rfl (Nat.le_of_ble_eq_true rfl) d_Hp_init_124 (fun H locs hP hD hS => ?_)
  have hP : va_P D CL [(h0, .inr (2, [.ref q_1, .ref q_2, .ref q_3, .ref q_4, .int (nI 0), .int (nI 0), .ref q_5, .ref q_6, .int (nI 1), .int (nI 0), .ref q_7, .ref q_11, .ref q_15, .ref q_16, .int (nI 0)])), (q_1, .inl (g 0, 801, .inl (fun _ => nI 0))), (q_2, .inl (g 0, 801, .inl (fun _ => nI 0))), (q_3, .inl (g 0, 801, .inl (fun _ => nI 0))), (q_4, .inl (g 0, 4000, .inl (fun _ => nI 0))), (q_5, .inl (g 0, 801, .inl (fun _ => nI 0))), (q_6, .inl (g 0, 4000, .inl (fun _ => nI 0))), (q_7, .inr (3, [.ref x_10, .int (nI 0)])), (x_10, .inl (g 0, 16, .inl (fun _ => nI 0))), (q_11, .inr (3, [.ref x_14, .int (nI 0)])), (x_14, .inl (g 0, 16, .inl (fun _ => nI 0))), (q_15, .inl (g 1, 801, .inl (fun _ => nI 0))), (q_16, .inl (g 0, 801, .inl (fun _ => nI 0)))] H := hP
  have hD : va_D A [(h0, .inr (2, [.ref q_1, .ref q_2, .ref q_3, .ref q_4, .int (nI 0), .int (nI 0), .ref q_5, .ref q_6, .int (nI 1), .int (nI 0), .ref q_7, .ref q_11, .ref q_15, .ref q_16, .int (nI 0)])), (q_1, .inl (g 0, 801, .inl (fun _ => nI 0))), (q_2, .inl (g 0, 801, .inl (fun _ => nI 0))), (q_3, .inl (g 0, 801, .inl (fun _ => nI 0))), (q_4, .inl (g 0, 4000, .inl (fun _ => nI 0))), (q_5, .inl (g 0, 801, .inl (fun _ => nI 0))), (q_6, .inl (g 0, 4000, .inl (fun _ => nI 0))), (q_7, .inr (3, [.ref x_10, .int (nI 0)])), (x_10, .inl (g 0, 16, .inl (fun _ => nI 0))), (q_11, .inr (3, [.ref x_14, .int (nI 0)])), (x_14, .inl (g 0, 16, .inl (fun _ => nI 0))), (q_15, .inl (g 1, 801, .inl (fun _ => nI 0))), (q_16, .inl (g 0, 801, .inl (fun _ => nI 0)))] := hD
  refine lv_aload_n G.1 G.2.1 d_Hp_init_127 rfl (lv_at hl 0 rfl) ?_
  refine kg (ci := 2) G iHp hP 0 rfl rfl 0 (by decide) q913 rfl rfl d_Hp_init_128 ?_
  refine lv_bipush (v := (-2)) G.1 G.2.1 d_Hp_init_131 (by decide) ?_
  refine kEv (wr := [(h0, .inr (2, [.ref q_1, .ref q_2, .ref q_3, .ref q_4, .int (nI 0), .int (nI 0), .ref q_5, .ref q_6, .int (nI 1), .int (nI 0), .ref q_7, .ref q_11, .ref q_15, .ref q_16, .int (nI 0)])), (q_2, .inl (g 0, 801, .inl (fun _ => nI 0))), (q_3, .inl (g 0, 801, .inl (fun _ => nI 0))), (q_4, .inl (g 0, 4000, .inl (fun _ => nI 0))), (q_5, .inl (g 0, 801, .inl (fun _ => nI 0))), (q_6, .inl (g 0, 4000, .inl (fun _ => nI 0))), (q_7, .inr (3, [.ref x_10, .int (nI 0)])), (x_10, .inl (g 0, 16, .inl (fun _ => nI 0))), (q_11, .inr (3, [.ref x_14, .int (nI 0)])), (x_14, .inl (g 0, 16, .inl (fun _ => nI 0))), (q_15, .inl (g 1, 801, .inl (fun _ => nI 0))), (q_16, .inl (g 0, 801, .inl (fun _ => nI 0)))]) G (kS (As := [.ref q_1, .int (-2)]) (rest := []) G hP hD hS [1] rfl rfl (c_Ja_fill_aIIV l D g q_1 801 (fun _ => nI 0) (-2) H.size (by decide)) w_Ja_fill_aIIV q912 rfl rfl ⟨Nat.le_of_ble_eq_true rfl, Nat.le_of_ble_eq_true rfl⟩ (fun _ h => absurd h List.not_mem_nil) hl.1 rfl (Nat.le_of_ble_eq_true rfl) rfl ⟨Nat.le_of_ble_eq_true rfl, (Nat.le_of_ble_eq_true rfl)⟩ d_Hp_init_133) hP hD hS [1] [0, 2, 3, 4, 5, 6, 7, 8, 9, 10, 11, 12] rfl rfl rfl rfl (fun u_18 H locs hw hP hD hS hzH => ?_)
  have hw : True := hw
  have hP : va_P D CL [(h0, .inr (2, [.ref q_1, .ref q_2, .ref q_3, .ref q_4, .int (nI 0), .int (nI 0), .ref q_5, .ref q_6, .int (nI 1), .int (nI 0), .ref q_7, .ref q_11, .ref q_15, .ref q_16, .int (nI 0)])), (q_2, .inl (g 0, 801, .inl (fun _ => nI 0))), (q_3, .inl (g 0, 801, .inl (fun _ => nI 0))), (q_4, .inl (g 0, 4000, .inl (fun _ => nI 0))), (q_5, .inl (g 0, 801, .inl (fun _ => nI 0))), (q_6, .inl (g 0, 4000, .inl (fun _ => nI 0))), (q_7, .inr (3, [.ref x_10, .int (nI 0)])), (x_10, .inl (g 0, 16, .inl (fun _ => nI 0))), (q_11, .inr (3, [.ref x_14, .int (nI 0)])), (x_14, .inl (g 0, 16, .inl (fun _ => nI 0))), (q_15, .inl (g 1, 801, .inl (fun _ => nI 0))), (q_16, .inl (g 0, 801, .inl (fun _ => nI 0))), (q_1, .inl (g 0, 801, .inl (fa_fl ((fun _ => nI 0)) ((-2)) 801)))] H := hP
  have hD : va_D A [(h0, .inr (2, [.ref q_1, .ref q_2, .ref q_3, .ref q_4, .int (nI 0), .int (nI 0), .ref q_5, .ref q_6, .int (nI 1), .int (nI 0), .ref q_7, .ref q_11, .ref q_15, .ref q_16, .int (nI 0)])), (q_2, .inl (g 0, 801, .inl (fun _ => nI 0))), (q_3, .inl (g 0, 801, .inl (fun _ => nI 0))), (q_4, .inl (g 0, 4000, .inl (fun _ => nI 0))), (q_5, .inl (g 0, 801, .inl (fun _ => nI 0))), (q_6, .inl (g 0, 4000, .inl (fun _ => nI 0))), (q_7, .inr (3, [.ref x_10, .int (nI 0)])), (x_10, .inl (g 0, 16, .inl (fun _ => nI 0))), (q_11, .inr (3, [.ref x_14, .int (nI 0)])), (x_14, .inl (g 0, 16, .inl (fun _ => nI 0))), (q_15, .inl (g 1, 801, .inl (fun _ => nI 0))), (q_16, .inl (g 0, 801, .inl (fun _ => nI 0))), (q_1, .inl (g 0, 801, .inl (fa_fl ((fun _ => nI 0)) ((-2)) 801)))] := hD
  refine hret (q_1, q_2, q_3, q_4, q_5, q_6, nI 1, q_7, q_11, q_15, q_16, nI 0, (fa_fl ((fun _ => nI 0)) ((-2)) 801), x_10, x_14) _ _ _ _ _ ls (show True from trivial) (hP.sub [0, 12, 6, 8] rfl) (hD.sub [0, 12, 6, 8] (by decide) rfl) hS (Nat.le_of_ble_eq_true rfl) (Nat.le_of_ble_eq_true rfl) d_Hp_init_136
def y_Ru_init : MethodName := ⟨"ClassWorks$Runner", "<init>", "()V"⟩
abbrev b_Ru_init : ByteArray := prog_9_method_1_code
theorem q973 : Cond.methodLink "ClassWorks$Runner" 3 Lib.objectInit ∈ lw_ok := lw_okmem (List.mem_of_getElem? (i := 973) (by decide +kernel)) rfl
theorem q974 : Cond.fieldLink "ClassWorks$Runner" 9 "ClassWorks$Runner" "callClass" "I" ∈ lw_ok := lw_okmem (List.mem_of_getElem? (i := 974) (by decide +kernel)) rfl
theorem q978 : Cond.fieldLink "ClassWorks$Runner" 15 "ClassWorks$Runner" "callSign" "I" ∈ lw_ok := lw_okmem (List.mem_of_getElem? (i := 978) (by decide +kernel)) rfl
theorem q982 : Cond.fieldLink "ClassWorks$Runner" 18 "ClassWorks$Runner" "callNumbers" "[I" ∈ lw_ok := lw_okmem (List.mem_of_getElem? (i := 982) (by decide +kernel)) rfl
theorem q985 : Cond.fieldLink "ClassWorks$Runner" 22 "ClassWorks$Runner" "mode" "I" ∈ lw_ok := lw_okmem (List.mem_of_getElem? (i := 985) (by decide +kernel)) rfl
theorem q988 : Cond.fieldLink "ClassWorks$Runner" 25 "ClassWorks$Runner" "steps" "I" ∈ lw_ok := lw_okmem (List.mem_of_getElem? (i := 988) (by decide +kernel)) rfl
theorem q991 : Cond.fieldLink "ClassWorks$Runner" 28 "ClassWorks$Runner" "waits" "Z" ∈ lw_ok := lw_okmem (List.mem_of_getElem? (i := 991) (by decide +kernel)) rfl
theorem q993 : Cond.fieldLink "ClassWorks$Runner" 32 "ClassWorks$Runner" "endKind" "I" ∈ lw_ok := lw_okmem (List.mem_of_getElem? (i := 993) (by decide +kernel)) rfl
theorem q996 : Cond.fieldLink "ClassWorks$Runner" 35 "ClassWorks$Runner" "endNumber" "I" ∈ lw_ok := lw_okmem (List.mem_of_getElem? (i := 996) (by decide +kernel)) rfl
theorem q999 : Cond.fieldLink "ClassWorks$Runner" 38 "ClassWorks$Runner" "endClass" "I" ∈ lw_ok := lw_okmem (List.mem_of_getElem? (i := 999) (by decide +kernel)) rfl
theorem q1002 : Cond.fieldLink "ClassWorks$Runner" 41 "ClassWorks$Runner" "endRule" "I" ∈ lw_ok := lw_okmem (List.mem_of_getElem? (i := 1002) (by decide +kernel)) rfl
theorem q1005 : Cond.fieldLink "ClassWorks$Runner" 44 "ClassWorks$Runner" "frames" "I" ∈ lw_ok := lw_okmem (List.mem_of_getElem? (i := 1005) (by decide +kernel)) rfl
theorem q1008 : Cond.fieldLink "ClassWorks$Runner" 47 "ClassWorks$Runner" "classOf" "[I" ∈ lw_ok := lw_okmem (List.mem_of_getElem? (i := 1008) (by decide +kernel)) rfl
theorem q1011 : Cond.fieldLink "ClassWorks$Runner" 50 "ClassWorks$Runner" "methodOf" "[I" ∈ lw_ok := lw_okmem (List.mem_of_getElem? (i := 1011) (by decide +kernel)) rfl
theorem q1014 : Cond.fieldLink "ClassWorks$Runner" 53 "ClassWorks$Runner" "at" "[I" ∈ lw_ok := lw_okmem (List.mem_of_getElem? (i := 1014) (by decide +kernel)) rfl
theorem q1017 : Cond.fieldLink "ClassWorks$Runner" 56 "ClassWorks$Runner" "depth" "[I" ∈ lw_ok := lw_okmem (List.mem_of_getElem? (i := 1017) (by decide +kernel)) rfl
theorem q899 : Cond.arrayClass .long ∈ lw_ok := lw_okmem (List.mem_of_getElem? (i := 899) (by decide +kernel)) rfl
theorem q1020 : Cond.fieldLink "ClassWorks$Runner" 59 "ClassWorks$Runner" "places" "[J" ∈ lw_ok := lw_okmem (List.mem_of_getElem? (i := 1020) (by decide +kernel)) rfl
theorem q1021 : Cond.fieldLink "ClassWorks$Runner" 63 "ClassWorks$Runner" "starts" "I" ∈ lw_ok := lw_okmem (List.mem_of_getElem? (i := 1021) (by decide +kernel)) rfl
theorem q1023 : Cond.fieldLink "ClassWorks$Runner" 66 "ClassWorks$Runner" "startClass" "[I" ∈ lw_ok := lw_okmem (List.mem_of_getElem? (i := 1023) (by decide +kernel)) rfl
theorem q1025 : Cond.fieldLink "ClassWorks$Runner" 69 "ClassWorks$Runner" "startFrames" "[I" ∈ lw_ok := lw_okmem (List.mem_of_getElem? (i := 1025) (by decide +kernel)) rfl
theorem d_Ru_init_0 : decode b_Ru_init 0 = .ok (.aload_n 0, 1) := by decide +kernel
theorem d_Ru_init_1 : decode b_Ru_init 1 = .ok (.invokespecial 3, 3) := by decide +kernel
theorem d_Ru_init_4 : decode b_Ru_init 4 = .ok (.aload_n 0, 1) := by decide +kernel
theorem d_Ru_init_5 : decode b_Ru_init 5 = .ok (.iconst 0, 1) := by decide +kernel
theorem d_Ru_init_6 : decode b_Ru_init 6 = .ok (.putfield 9, 3) := by decide +kernel
theorem d_Ru_init_9 : decode b_Ru_init 9 = .ok (.aload_n 0, 1) := by decide +kernel
theorem d_Ru_init_10 : decode b_Ru_init 10 = .ok (.iconst 0, 1) := by decide +kernel
theorem d_Ru_init_11 : decode b_Ru_init 11 = .ok (.putfield 15, 3) := by decide +kernel
theorem d_Ru_init_14 : decode b_Ru_init 14 = .ok (.aload_n 0, 1) := by decide +kernel
theorem d_Ru_init_15 : decode b_Ru_init 15 = .ok (.bipush 6, 2) := by decide +kernel
theorem d_Ru_init_17 : decode b_Ru_init 17 = .ok (.newarray .int, 2) := by decide +kernel
theorem d_Ru_init_19 : decode b_Ru_init 19 = .ok (.putfield 18, 3) := by decide +kernel
theorem d_Ru_init_22 : decode b_Ru_init 22 = .ok (.aload_n 0, 1) := by decide +kernel
theorem d_Ru_init_23 : decode b_Ru_init 23 = .ok (.iconst 0, 1) := by decide +kernel
theorem d_Ru_init_24 : decode b_Ru_init 24 = .ok (.putfield 22, 3) := by decide +kernel
theorem d_Ru_init_27 : decode b_Ru_init 27 = .ok (.aload_n 0, 1) := by decide +kernel
theorem d_Ru_init_28 : decode b_Ru_init 28 = .ok (.iconst 0, 1) := by decide +kernel
theorem d_Ru_init_29 : decode b_Ru_init 29 = .ok (.putfield 25, 3) := by decide +kernel
theorem d_Ru_init_32 : decode b_Ru_init 32 = .ok (.aload_n 0, 1) := by decide +kernel
theorem d_Ru_init_33 : decode b_Ru_init 33 = .ok (.iconst 0, 1) := by decide +kernel
theorem d_Ru_init_34 : decode b_Ru_init 34 = .ok (.putfield 28, 3) := by decide +kernel
theorem d_Ru_init_37 : decode b_Ru_init 37 = .ok (.aload_n 0, 1) := by decide +kernel
theorem d_Ru_init_38 : decode b_Ru_init 38 = .ok (.iconst 0, 1) := by decide +kernel
theorem d_Ru_init_39 : decode b_Ru_init 39 = .ok (.putfield 32, 3) := by decide +kernel
theorem d_Ru_init_42 : decode b_Ru_init 42 = .ok (.aload_n 0, 1) := by decide +kernel
theorem d_Ru_init_43 : decode b_Ru_init 43 = .ok (.iconst 0, 1) := by decide +kernel
theorem d_Ru_init_44 : decode b_Ru_init 44 = .ok (.putfield 35, 3) := by decide +kernel
theorem d_Ru_init_47 : decode b_Ru_init 47 = .ok (.aload_n 0, 1) := by decide +kernel
theorem d_Ru_init_48 : decode b_Ru_init 48 = .ok (.bipush (-2), 2) := by decide +kernel
theorem d_Ru_init_50 : decode b_Ru_init 50 = .ok (.putfield 38, 3) := by decide +kernel
theorem d_Ru_init_53 : decode b_Ru_init 53 = .ok (.aload_n 0, 1) := by decide +kernel
theorem d_Ru_init_54 : decode b_Ru_init 54 = .ok (.iconst 0, 1) := by decide +kernel
theorem d_Ru_init_55 : decode b_Ru_init 55 = .ok (.putfield 41, 3) := by decide +kernel
theorem d_Ru_init_58 : decode b_Ru_init 58 = .ok (.aload_n 0, 1) := by decide +kernel
theorem d_Ru_init_59 : decode b_Ru_init 59 = .ok (.iconst 0, 1) := by decide +kernel
theorem d_Ru_init_60 : decode b_Ru_init 60 = .ok (.putfield 44, 3) := by decide +kernel
theorem d_Ru_init_63 : decode b_Ru_init 63 = .ok (.aload_n 0, 1) := by decide +kernel
theorem d_Ru_init_64 : decode b_Ru_init 64 = .ok (.bipush 40, 2) := by decide +kernel
theorem d_Ru_init_66 : decode b_Ru_init 66 = .ok (.newarray .int, 2) := by decide +kernel
theorem d_Ru_init_68 : decode b_Ru_init 68 = .ok (.putfield 47, 3) := by decide +kernel
theorem d_Ru_init_71 : decode b_Ru_init 71 = .ok (.aload_n 0, 1) := by decide +kernel
theorem d_Ru_init_72 : decode b_Ru_init 72 = .ok (.bipush 40, 2) := by decide +kernel
theorem d_Ru_init_74 : decode b_Ru_init 74 = .ok (.newarray .int, 2) := by decide +kernel
theorem d_Ru_init_76 : decode b_Ru_init 76 = .ok (.putfield 50, 3) := by decide +kernel
theorem d_Ru_init_79 : decode b_Ru_init 79 = .ok (.aload_n 0, 1) := by decide +kernel
theorem d_Ru_init_80 : decode b_Ru_init 80 = .ok (.bipush 40, 2) := by decide +kernel
theorem d_Ru_init_82 : decode b_Ru_init 82 = .ok (.newarray .int, 2) := by decide +kernel
theorem d_Ru_init_84 : decode b_Ru_init 84 = .ok (.putfield 53, 3) := by decide +kernel
theorem d_Ru_init_87 : decode b_Ru_init 87 = .ok (.aload_n 0, 1) := by decide +kernel
theorem d_Ru_init_88 : decode b_Ru_init 88 = .ok (.bipush 40, 2) := by decide +kernel
theorem d_Ru_init_90 : decode b_Ru_init 90 = .ok (.newarray .int, 2) := by decide +kernel
theorem d_Ru_init_92 : decode b_Ru_init 92 = .ok (.putfield 56, 3) := by decide +kernel
theorem d_Ru_init_95 : decode b_Ru_init 95 = .ok (.aload_n 0, 1) := by decide +kernel
theorem d_Ru_init_96 : decode b_Ru_init 96 = .ok (.sipush 1600, 3) := by decide +kernel
theorem d_Ru_init_99 : decode b_Ru_init 99 = .ok (.newarray .long, 2) := by decide +kernel
theorem d_Ru_init_101 : decode b_Ru_init 101 = .ok (.putfield 59, 3) := by decide +kernel
theorem d_Ru_init_104 : decode b_Ru_init 104 = .ok (.aload_n 0, 1) := by decide +kernel
theorem d_Ru_init_105 : decode b_Ru_init 105 = .ok (.iconst 0, 1) := by decide +kernel
theorem d_Ru_init_106 : decode b_Ru_init 106 = .ok (.putfield 63, 3) := by decide +kernel
theorem d_Ru_init_109 : decode b_Ru_init 109 = .ok (.aload_n 0, 1) := by decide +kernel
theorem d_Ru_init_110 : decode b_Ru_init 110 = .ok (.bipush 51, 2) := by decide +kernel
theorem d_Ru_init_112 : decode b_Ru_init 112 = .ok (.newarray .int, 2) := by decide +kernel
theorem d_Ru_init_114 : decode b_Ru_init 114 = .ok (.putfield 66, 3) := by decide +kernel
theorem d_Ru_init_117 : decode b_Ru_init 117 = .ok (.aload_n 0, 1) := by decide +kernel
theorem d_Ru_init_118 : decode b_Ru_init 118 = .ok (.bipush 51, 2) := by decide +kernel
theorem d_Ru_init_120 : decode b_Ru_init 120 = .ok (.newarray .int, 2) := by decide +kernel
theorem d_Ru_init_122 : decode b_Ru_init 122 = .ok (.putfield 69, 3) := by decide +kernel
theorem d_Ru_init_125 : decode b_Ru_init 125 = .ok (.return_, 1) := by decide +kernel
abbrev rm_Ru_init : Room := { frames := 1, cells := 8, slots := 1868, locals := 12 }
set_option maxHeartbeats 4000000 in
set_option maxRecDepth 100000 in
theorem c_Ru_init (l : Launch) (D : va_G) (g : Nat → ClassId) (h0 : Nat) (sz : Nat)  : Met l y_Ru_init (mw y_Ru_init b_Ru_init 1 (none)) (rm_Ru_init) (PC g D [] [.ref h0] sz [(h0, .inr (7, [.int (nI 0), .int (nI 0), .null, .int (nI 0), .int (nI 0), .int (nI 0), .int (nI 0), .int (nI 0), .int (nI 0), .int (nI 0), .int (nI 0), .null, .null, .null, .null, .null, .int (nI 0), .null, .null]))]) (va_Qv (fun u : Int32 × Int32 × Nat × Int32 × Int32 × Int32 × Int32 × Int32 × Int32 × Int32 × Nat × Nat × Nat × Nat × Nat × Int32 × Nat × Nat => True) (QW D (va_A [(h0, .inr (7, [.int (nI 0), .int (nI 0), .null, .int (nI 0), .int (nI 0), .int (nI 0), .int (nI 0), .int (nI 0), .int (nI 0), .int (nI 0), .int (nI 0), .null, .null, .null, .null, .null, .int (nI 0), .null, .null]))] sz) (fun u : Int32 × Int32 × Nat × Int32 × Int32 × Int32 × Int32 × Int32 × Int32 × Int32 × Nat × Nat × Nat × Nat × Nat × Int32 × Nat × Nat => [(h0, .inr (7, [.int u.1, .int u.2.1, .ref u.2.2.1, .int u.2.2.2.1, .int u.2.2.2.2.1, .int u.2.2.2.2.2.1, .int u.2.2.2.2.2.2.1, .int u.2.2.2.2.2.2.2.1, .int u.2.2.2.2.2.2.2.2.1, .int u.2.2.2.2.2.2.2.2.2.1, .int (nI 0), .ref u.2.2.2.2.2.2.2.2.2.2.1, .ref u.2.2.2.2.2.2.2.2.2.2.2.1, .ref u.2.2.2.2.2.2.2.2.2.2.2.2.1, .ref u.2.2.2.2.2.2.2.2.2.2.2.2.2.1, .ref u.2.2.2.2.2.2.2.2.2.2.2.2.2.2.1, .int u.2.2.2.2.2.2.2.2.2.2.2.2.2.2.2.1, .ref u.2.2.2.2.2.2.2.2.2.2.2.2.2.2.2.2.1, .ref u.2.2.2.2.2.2.2.2.2.2.2.2.2.2.2.2.2]))])) (va_A [(h0, .inr (7, [.int (nI 0), .int (nI 0), .null, .int (nI 0), .int (nI 0), .int (nI 0), .int (nI 0), .int (nI 0), .int (nI 0), .int (nI 0), .int (nI 0), .null, .null, .null, .null, .null, .int (nI 0), .null, .null]))] sz)) 8 1868 (va_A [(h0, .inr (7, [.int (nI 0), .int (nI 0), .null, .int (nI 0), .int (nI 0), .int (nI 0), .int (nI 0), .int (nI 0), .int (nI 0), .int (nI 0), .int (nI 0), .null, .null, .null, .null, .null, .int (nI 0), .null, .null]))] sz) := by
  refine ofV (by decide +kernel) (Nat.le_of_ble_eq_true rfl) ?_
  intro p e s m args below meth c A Q ls H locs G hsz hP hD hS hl hret
  subst hsz
  have hl : lv_has ls 1 [(0, .ref h0)] := hl
  refine lv_aload_n G.1 G.2.1 d_Ru_init_0 rfl (lv_at hl 0 rfl) ?_
  refine kobj G q973 q361 q362 hl.1 d_Ru_init_1 (Nat.le_of_ble_eq_true rfl) (Nat.le_of_ble_eq_true rfl) ?_
  refine lv_aload_n G.1 G.2.1 d_Ru_init_4 rfl (lv_at hl 0 rfl) ?_
  refine lv_iconst (v := nI 0) G.1 G.2.1 d_Ru_init_5 (by decide) ?_
  refine kp (ci := 7) G iRu tRu tRu_ok nRu hP hD hS 0 rfl rfl 0 (by decide) q974 rfl rfl rfl rfl (Nat.le_of_ble_eq_true rfl) d_Ru_init_6 (fun H locs hP hD hS => ?_)
  have hP : va_P D CL [(h0, .inr (7, [.int (nI 0), .int (nI 0), .null, .int (nI 0), .int (nI 0), .int (nI 0), .int (nI 0), .int (nI 0), .int (nI 0), .int (nI 0), .int (nI 0), .null, .null, .null, .null, .null, .int (nI 0), .null, .null]))] H := hP
  have hD : va_D A [(h0, .inr (7, [.int (nI 0), .int (nI 0), .null, .int (nI 0), .int (nI 0), .int (nI 0), .int (nI 0), .int (nI 0), .int (nI 0), .int (nI 0), .int (nI 0), .null, .null, .null, .null, .null, .int (nI 0), .null, .null]))] := hD
  refine lv_aload_n G.1 G.2.1 d_Ru_init_9 rfl (lv_at hl 0 rfl) ?_
  refine lv_iconst (v := nI 0) G.1 G.2.1 d_Ru_init_10 (by decide) ?_
  refine kp (ci := 7) G iRu tRu tRu_ok nRu hP hD hS 0 rfl rfl 1 (by decide) q978 rfl rfl rfl rfl (Nat.le_of_ble_eq_true rfl) d_Ru_init_11 (fun H locs hP hD hS => ?_)
  have hP : va_P D CL [(h0, .inr (7, [.int (nI 0), .int (nI 0), .null, .int (nI 0), .int (nI 0), .int (nI 0), .int (nI 0), .int (nI 0), .int (nI 0), .int (nI 0), .int (nI 0), .null, .null, .null, .null, .null, .int (nI 0), .null, .null]))] H := hP
  have hD : va_D A [(h0, .inr (7, [.int (nI 0), .int (nI 0), .null, .int (nI 0), .int (nI 0), .int (nI 0), .int (nI 0), .int (nI 0), .int (nI 0), .int (nI 0), .int (nI 0), .null, .null, .null, .null, .null, .int (nI 0), .null, .null]))] := hD
  refine lv_aload_n G.1 G.2.1 d_Ru_init_14 rfl (lv_at hl 0 rfl) ?_
  refine lv_bipush (v := nI 6) G.1 G.2.1 d_Ru_init_15 (by decide) ?_
  refine kNew (ty := .int) (N' := 6) (a0 := (6, .inl (fun _ => nI 0))) G q404 rfl (fun _ h => h) 0 rfl hP hD hS (fun _ => rfl) (nI_pos (by omega)) (nI_clamp (by omega)) (Nat.le_of_ble_eq_true rfl) (Nat.le_of_ble_eq_true rfl) (Nat.le_of_ble_eq_true rfl) d_Ru_init_17 (fun q_1 H hP hD hS => ?_)
  have hP : va_P D CL [(h0, .inr (7, [.int (nI 0), .int (nI 0), .null, .int (nI 0), .int (nI 0), .int (nI 0), .int (nI 0), .int (nI 0), .int (nI 0), .int (nI 0), .int (nI 0), .null, .null, .null, .null, .null, .int (nI 0), .null, .null])), (q_1, .inl (g 0, 6, .inl (fun _ => nI 0)))] H := hP
  have hD : va_D A [(h0, .inr (7, [.int (nI 0), .int (nI 0), .null, .int (nI 0), .int (nI 0), .int (nI 0), .int (nI 0), .int (nI 0), .int (nI 0), .int (nI 0), .int (nI 0), .null, .null, .null, .null, .null, .int (nI 0), .null, .null])), (q_1, .inl (g 0, 6, .inl (fun _ => nI 0)))] := hD
  refine W.widen (k := 1) (n := 6) (by omega) (by omega) ?_
  refine W.eq (g2 := F0 m 19 ls [.ref q_1, .ref h0]) rfl ?_
  refine kpF (ci := 7) G iRu tRu tRu_ok nRu hP hD hS 0 rfl rfl 2 (by decide) q982 rfl rfl rfl rfl rfl rfl (Nat.le_of_ble_eq_true rfl) d_Ru_init_19 (fun H locs hP hD hS => ?_)
  have hP : va_P D CL [(h0, .inr (7, [.int (nI 0), .int (nI 0), .ref q_1, .int (nI 0), .int (nI 0), .int (nI 0), .int (nI 0), .int (nI 0), .int (nI 0), .int (nI 0), .int (nI 0), .null, .null, .null, .null, .null, .int (nI 0), .null, .null])), (q_1, .inl (g 0, 6, .inl (fun _ => nI 0)))] H := hP
  have hD : va_D A [(h0, .inr (7, [.int (nI 0), .int (nI 0), .ref q_1, .int (nI 0), .int (nI 0), .int (nI 0), .int (nI 0), .int (nI 0), .int (nI 0), .int (nI 0), .int (nI 0), .null, .null, .null, .null, .null, .int (nI 0), .null, .null])), (q_1, .inl (g 0, 6, .inl (fun _ => nI 0)))] := hD
  refine lv_aload_n G.1 G.2.1 d_Ru_init_22 rfl (lv_at hl 0 rfl) ?_
  refine lv_iconst (v := nI 0) G.1 G.2.1 d_Ru_init_23 (by decide) ?_
  refine kp (ci := 7) G iRu tRu tRu_ok nRu hP hD hS 0 rfl rfl 3 (by decide) q985 rfl rfl rfl rfl (Nat.le_of_ble_eq_true rfl) d_Ru_init_24 (fun H locs hP hD hS => ?_)
  have hP : va_P D CL [(h0, .inr (7, [.int (nI 0), .int (nI 0), .ref q_1, .int (nI 0), .int (nI 0), .int (nI 0), .int (nI 0), .int (nI 0), .int (nI 0), .int (nI 0), .int (nI 0), .null, .null, .null, .null, .null, .int (nI 0), .null, .null])), (q_1, .inl (g 0, 6, .inl (fun _ => nI 0)))] H := hP
  have hD : va_D A [(h0, .inr (7, [.int (nI 0), .int (nI 0), .ref q_1, .int (nI 0), .int (nI 0), .int (nI 0), .int (nI 0), .int (nI 0), .int (nI 0), .int (nI 0), .int (nI 0), .null, .null, .null, .null, .null, .int (nI 0), .null, .null])), (q_1, .inl (g 0, 6, .inl (fun _ => nI 0)))] := hD
  refine lv_aload_n G.1 G.2.1 d_Ru_init_27 rfl (lv_at hl 0 rfl) ?_
  refine lv_iconst (v := nI 0) G.1 G.2.1 d_Ru_init_28 (by decide) ?_
  refine kp (ci := 7) G iRu tRu tRu_ok nRu hP hD hS 0 rfl rfl 4 (by decide) q988 rfl rfl rfl rfl (Nat.le_of_ble_eq_true rfl) d_Ru_init_29 (fun H locs hP hD hS => ?_)
  have hP : va_P D CL [(h0, .inr (7, [.int (nI 0), .int (nI 0), .ref q_1, .int (nI 0), .int (nI 0), .int (nI 0), .int (nI 0), .int (nI 0), .int (nI 0), .int (nI 0), .int (nI 0), .null, .null, .null, .null, .null, .int (nI 0), .null, .null])), (q_1, .inl (g 0, 6, .inl (fun _ => nI 0)))] H := hP
  have hD : va_D A [(h0, .inr (7, [.int (nI 0), .int (nI 0), .ref q_1, .int (nI 0), .int (nI 0), .int (nI 0), .int (nI 0), .int (nI 0), .int (nI 0), .int (nI 0), .int (nI 0), .null, .null, .null, .null, .null, .int (nI 0), .null, .null])), (q_1, .inl (g 0, 6, .inl (fun _ => nI 0)))] := hD
  refine lv_aload_n G.1 G.2.1 d_Ru_init_32 rfl (lv_at hl 0 rfl) ?_
  refine lv_iconst (v := nI 0) G.1 G.2.1 d_Ru_init_33 (by decide) ?_
  refine kp (ci := 7) G iRu tRu tRu_ok nRu hP hD hS 0 rfl rfl 5 (by decide) q991 rfl rfl (by decide +kernel) (by decide +kernel) (Nat.le_of_ble_eq_true rfl) d_Ru_init_34 (fun H locs hP hD hS => ?_)
  have hP : va_P D CL [(h0, .inr (7, [.int (nI 0), .int (nI 0), .ref q_1, .int (nI 0), .int (nI 0), .int (nI 0), .int (nI 0), .int (nI 0), .int (nI 0), .int (nI 0), .int (nI 0), .null, .null, .null, .null, .null, .int (nI 0), .null, .null])), (q_1, .inl (g 0, 6, .inl (fun _ => nI 0)))] H := hP
  have hD : va_D A [(h0, .inr (7, [.int (nI 0), .int (nI 0), .ref q_1, .int (nI 0), .int (nI 0), .int (nI 0), .int (nI 0), .int (nI 0), .int (nI 0), .int (nI 0), .int (nI 0), .null, .null, .null, .null, .null, .int (nI 0), .null, .null])), (q_1, .inl (g 0, 6, .inl (fun _ => nI 0)))] := hD
  refine lv_aload_n G.1 G.2.1 d_Ru_init_37 rfl (lv_at hl 0 rfl) ?_
  refine lv_iconst (v := nI 0) G.1 G.2.1 d_Ru_init_38 (by decide) ?_
  refine W.eq (g2 := F0 m 39 ls [.int (nI 0), .ref h0]) rfl ?_
  refine kp (ci := 7) G iRu tRu tRu_ok nRu hP hD hS 0 rfl rfl 6 (by decide) q993 rfl rfl rfl rfl (Nat.le_of_ble_eq_true rfl) d_Ru_init_39 (fun H locs hP hD hS => ?_)
  have hP : va_P D CL [(h0, .inr (7, [.int (nI 0), .int (nI 0), .ref q_1, .int (nI 0), .int (nI 0), .int (nI 0), .int (nI 0), .int (nI 0), .int (nI 0), .int (nI 0), .int (nI 0), .null, .null, .null, .null, .null, .int (nI 0), .null, .null])), (q_1, .inl (g 0, 6, .inl (fun _ => nI 0)))] H := hP
  have hD : va_D A [(h0, .inr (7, [.int (nI 0), .int (nI 0), .ref q_1, .int (nI 0), .int (nI 0), .int (nI 0), .int (nI 0), .int (nI 0), .int (nI 0), .int (nI 0), .int (nI 0), .null, .null, .null, .null, .null, .int (nI 0), .null, .null])), (q_1, .inl (g 0, 6, .inl (fun _ => nI 0)))] := hD
  refine lv_aload_n G.1 G.2.1 d_Ru_init_42 rfl (lv_at hl 0 rfl) ?_
  refine lv_iconst (v := nI 0) G.1 G.2.1 d_Ru_init_43 (by decide) ?_
  refine kp (ci := 7) G iRu tRu tRu_ok nRu hP hD hS 0 rfl rfl 7 (by decide) q996 rfl rfl rfl rfl (Nat.le_of_ble_eq_true rfl) d_Ru_init_44 (fun H locs hP hD hS => ?_)
  have hP : va_P D CL [(h0, .inr (7, [.int (nI 0), .int (nI 0), .ref q_1, .int (nI 0), .int (nI 0), .int (nI 0), .int (nI 0), .int (nI 0), .int (nI 0), .int (nI 0), .int (nI 0), .null, .null, .null, .null, .null, .int (nI 0), .null, .null])), (q_1, .inl (g 0, 6, .inl (fun _ => nI 0)))] H := hP
  have hD : va_D A [(h0, .inr (7, [.int (nI 0), .int (nI 0), .ref q_1, .int (nI 0), .int (nI 0), .int (nI 0), .int (nI 0), .int (nI 0), .int (nI 0), .int (nI 0), .int (nI 0), .null, .null, .null, .null, .null, .int (nI 0), .null, .null])), (q_1, .inl (g 0, 6, .inl (fun _ => nI 0)))] := hD
  refine lv_aload_n G.1 G.2.1 d_Ru_init_47 rfl (lv_at hl 0 rfl) ?_
  refine lv_bipush (v := (-2)) G.1 G.2.1 d_Ru_init_48 (by decide) ?_
  refine kp (ci := 7) G iRu tRu tRu_ok nRu hP hD hS 0 rfl rfl 8 (by decide) q999 rfl rfl rfl rfl (Nat.le_of_ble_eq_true rfl) d_Ru_init_50 (fun H locs hP hD hS => ?_)
  have hP : va_P D CL [(h0, .inr (7, [.int (nI 0), .int (nI 0), .ref q_1, .int (nI 0), .int (nI 0), .int (nI 0), .int (nI 0), .int (nI 0), .int (-2), .int (nI 0), .int (nI 0), .null, .null, .null, .null, .null, .int (nI 0), .null, .null])), (q_1, .inl (g 0, 6, .inl (fun _ => nI 0)))] H := hP
  have hD : va_D A [(h0, .inr (7, [.int (nI 0), .int (nI 0), .ref q_1, .int (nI 0), .int (nI 0), .int (nI 0), .int (nI 0), .int (nI 0), .int (-2), .int (nI 0), .int (nI 0), .null, .null, .null, .null, .null, .int (nI 0), .null, .null])), (q_1, .inl (g 0, 6, .inl (fun _ => nI 0)))] := hD
  refine lv_aload_n G.1 G.2.1 d_Ru_init_53 rfl (lv_at hl 0 rfl) ?_
  refine lv_iconst (v := nI 0) G.1 G.2.1 d_Ru_init_54 (by decide) ?_
  refine kp (ci := 7) G iRu tRu tRu_ok nRu hP hD hS 0 rfl rfl 9 (by decide) q1002 rfl rfl rfl rfl (Nat.le_of_ble_eq_true rfl) d_Ru_init_55 (fun H locs hP hD hS => ?_)
  have hP : va_P D CL [(h0, .inr (7, [.int (nI 0), .int (nI 0), .ref q_1, .int (nI 0), .int (nI 0), .int (nI 0), .int (nI 0), .int (nI 0), .int (-2), .int (nI 0), .int (nI 0), .null, .null, .null, .null, .null, .int (nI 0), .null, .null])), (q_1, .inl (g 0, 6, .inl (fun _ => nI 0)))] H := hP
  have hD : va_D A [(h0, .inr (7, [.int (nI 0), .int (nI 0), .ref q_1, .int (nI 0), .int (nI 0), .int (nI 0), .int (nI 0), .int (nI 0), .int (-2), .int (nI 0), .int (nI 0), .null, .null, .null, .null, .null, .int (nI 0), .null, .null])), (q_1, .inl (g 0, 6, .inl (fun _ => nI 0)))] := hD
  refine lv_aload_n G.1 G.2.1 d_Ru_init_58 rfl (lv_at hl 0 rfl) ?_
  refine lv_iconst (v := nI 0) G.1 G.2.1 d_Ru_init_59 (by decide) ?_
  refine W.eq (g2 := F0 m 60 ls [.int (nI 0), .ref h0]) rfl ?_
  refine kp (ci := 7) G iRu tRu tRu_ok nRu hP hD hS 0 rfl rfl 10 (by decide) q1005 rfl rfl rfl rfl (Nat.le_of_ble_eq_true rfl) d_Ru_init_60 (fun H locs hP hD hS => ?_)
  have hP : va_P D CL [(h0, .inr (7, [.int (nI 0), .int (nI 0), .ref q_1, .int (nI 0), .int (nI 0), .int (nI 0), .int (nI 0), .int (nI 0), .int (-2), .int (nI 0), .int (nI 0), .null, .null, .null, .null, .null, .int (nI 0), .null, .null])), (q_1, .inl (g 0, 6, .inl (fun _ => nI 0)))] H := hP
  have hD : va_D A [(h0, .inr (7, [.int (nI 0), .int (nI 0), .ref q_1, .int (nI 0), .int (nI 0), .int (nI 0), .int (nI 0), .int (nI 0), .int (-2), .int (nI 0), .int (nI 0), .null, .null, .null, .null, .null, .int (nI 0), .null, .null])), (q_1, .inl (g 0, 6, .inl (fun _ => nI 0)))] := hD
  refine lv_aload_n G.1 G.2.1 d_Ru_init_63 rfl (lv_at hl 0 rfl) ?_
  refine lv_bipush (v := nI 40) G.1 G.2.1 d_Ru_init_64 (by decide) ?_
  refine kNew (ty := .int) (N' := 40) (a0 := (40, .inl (fun _ => nI 0))) G q404 rfl (fun _ h => h) 0 rfl hP hD hS (fun _ => rfl) (nI_pos (by omega)) (nI_clamp (by omega)) (Nat.le_of_ble_eq_true rfl) (Nat.le_of_ble_eq_true rfl) (Nat.le_of_ble_eq_true rfl) d_Ru_init_66 (fun q_2 H hP hD hS => ?_)
  have hP : va_P D CL [(h0, .inr (7, [.int (nI 0), .int (nI 0), .ref q_1, .int (nI 0), .int (nI 0), .int (nI 0), .int (nI 0), .int (nI 0), .int (-2), .int (nI 0), .int (nI 0), .null, .null, .null, .null, .null, .int (nI 0), .null, .null])), (q_1, .inl (g 0, 6, .inl (fun _ => nI 0))), (q_2, .inl (g 0, 40, .inl (fun _ => nI 0)))] H := hP
  have hD : va_D A [(h0, .inr (7, [.int (nI 0), .int (nI 0), .ref q_1, .int (nI 0), .int (nI 0), .int (nI 0), .int (nI 0), .int (nI 0), .int (-2), .int (nI 0), .int (nI 0), .null, .null, .null, .null, .null, .int (nI 0), .null, .null])), (q_1, .inl (g 0, 6, .inl (fun _ => nI 0))), (q_2, .inl (g 0, 40, .inl (fun _ => nI 0)))] := hD
  refine W.widen (k := 2) (n := 46) (by omega) (by omega) ?_
  refine kpF (ci := 7) G iRu tRu tRu_ok nRu hP hD hS 0 rfl rfl 11 (by decide) q1008 rfl rfl rfl rfl rfl rfl (Nat.le_of_ble_eq_true rfl) d_Ru_init_68 (fun H locs hP hD hS => ?_)
  have hP : va_P D CL [(h0, .inr (7, [.int (nI 0), .int (nI 0), .ref q_1, .int (nI 0), .int (nI 0), .int (nI 0), .int (nI 0), .int (nI 0), .int (-2), .int (nI 0), .int (nI 0), .ref q_2, .null, .null, .null, .null, .int (nI 0), .null, .null])), (q_1, .inl (g 0, 6, .inl (fun _ => nI 0))), (q_2, .inl (g 0, 40, .inl (fun _ => nI 0)))] H := hP
  have hD : va_D A [(h0, .inr (7, [.int (nI 0), .int (nI 0), .ref q_1, .int (nI 0), .int (nI 0), .int (nI 0), .int (nI 0), .int (nI 0), .int (-2), .int (nI 0), .int (nI 0), .ref q_2, .null, .null, .null, .null, .int (nI 0), .null, .null])), (q_1, .inl (g 0, 6, .inl (fun _ => nI 0))), (q_2, .inl (g 0, 40, .inl (fun _ => nI 0)))] := hD
  refine lv_aload_n G.1 G.2.1 d_Ru_init_71 rfl (lv_at hl 0 rfl) ?_
  refine lv_bipush (v := nI 40) G.1 G.2.1 d_Ru_init_72 (by decide) ?_
  refine kNew (ty := .int) (N' := 40) (a0 := (40, .inl (fun _ => nI 0))) G q404 rfl (fun _ h => h) 0 rfl hP hD hS (fun _ => rfl) (nI_pos (by omega)) (nI_clamp (by omega)) (Nat.le_of_ble_eq_true rfl) (Nat.le_of_ble_eq_true rfl) (Nat.le_of_ble_eq_true rfl) d_Ru_init_74 (fun q_3 H hP hD hS => ?_)
  have hP : va_P D CL [(h0, .inr (7, [.int (nI 0), .int (nI 0), .ref q_1, .int (nI 0), .int (nI 0), .int (nI 0), .int (nI 0), .int (nI 0), .int (-2), .int (nI 0), .int (nI 0), .ref q_2, .null, .null, .null, .null, .int (nI 0), .null, .null])), (q_1, .inl (g 0, 6, .inl (fun _ => nI 0))), (q_2, .inl (g 0, 40, .inl (fun _ => nI 0))), (q_3, .inl (g 0, 40, .inl (fun _ => nI 0)))] H := hP
  have hD : va_D A [(h0, .inr (7, [.int (nI 0), .int (nI 0), .ref q_1, .int (nI 0), .int (nI 0), .int (nI 0), .int (nI 0), .int (nI 0), .int (-2), .int (nI 0), .int (nI 0), .ref q_2, .null, .null, .null, .null, .int (nI 0), .null, .null])), (q_1, .inl (g 0, 6, .inl (fun _ => nI 0))), (q_2, .inl (g 0, 40, .inl (fun _ => nI 0))), (q_3, .inl (g 0, 40, .inl (fun _ => nI 0)))] := hD
  refine W.widen (k := 3) (n := 86) (by omega) (by omega) ?_
  refine kpF (ci := 7) G iRu tRu tRu_ok nRu hP hD hS 0 rfl rfl 12 (by decide) q1011 rfl rfl rfl rfl rfl rfl (Nat.le_of_ble_eq_true rfl) d_Ru_init_76 (fun H locs hP hD hS => ?_)
  have hP : va_P D CL [(h0, .inr (7, [.int (nI 0), .int (nI 0), .ref q_1, .int (nI 0), .int (nI 0), .int (nI 0), .int (nI 0), .int (nI 0), .int (-2), .int (nI 0), .int (nI 0), .ref q_2, .ref q_3, .null, .null, .null, .int (nI 0), .null, .null])), (q_1, .inl (g 0, 6, .inl (fun _ => nI 0))), (q_2, .inl (g 0, 40, .inl (fun _ => nI 0))), (q_3, .inl (g 0, 40, .inl (fun _ => nI 0)))] H := hP
  have hD : va_D A [(h0, .inr (7, [.int (nI 0), .int (nI 0), .ref q_1, .int (nI 0), .int (nI 0), .int (nI 0), .int (nI 0), .int (nI 0), .int (-2), .int (nI 0), .int (nI 0), .ref q_2, .ref q_3, .null, .null, .null, .int (nI 0), .null, .null])), (q_1, .inl (g 0, 6, .inl (fun _ => nI 0))), (q_2, .inl (g 0, 40, .inl (fun _ => nI 0))), (q_3, .inl (g 0, 40, .inl (fun _ => nI 0)))] := hD
  refine lv_aload_n G.1 G.2.1 d_Ru_init_79 rfl (lv_at hl 0 rfl) ?_
  refine lv_bipush (v := nI 40) G.1 G.2.1 d_Ru_init_80 (by decide) ?_
  refine kNew (ty := .int) (N' := 40) (a0 := (40, .inl (fun _ => nI 0))) G q404 rfl (fun _ h => h) 0 rfl hP hD hS (fun _ => rfl) (nI_pos (by omega)) (nI_clamp (by omega)) (Nat.le_of_ble_eq_true rfl) (Nat.le_of_ble_eq_true rfl) (Nat.le_of_ble_eq_true rfl) d_Ru_init_82 (fun q_4 H hP hD hS => ?_)
  have hP : va_P D CL [(h0, .inr (7, [.int (nI 0), .int (nI 0), .ref q_1, .int (nI 0), .int (nI 0), .int (nI 0), .int (nI 0), .int (nI 0), .int (-2), .int (nI 0), .int (nI 0), .ref q_2, .ref q_3, .null, .null, .null, .int (nI 0), .null, .null])), (q_1, .inl (g 0, 6, .inl (fun _ => nI 0))), (q_2, .inl (g 0, 40, .inl (fun _ => nI 0))), (q_3, .inl (g 0, 40, .inl (fun _ => nI 0))), (q_4, .inl (g 0, 40, .inl (fun _ => nI 0)))] H := hP
  have hD : va_D A [(h0, .inr (7, [.int (nI 0), .int (nI 0), .ref q_1, .int (nI 0), .int (nI 0), .int (nI 0), .int (nI 0), .int (nI 0), .int (-2), .int (nI 0), .int (nI 0), .ref q_2, .ref q_3, .null, .null, .null, .int (nI 0), .null, .null])), (q_1, .inl (g 0, 6, .inl (fun _ => nI 0))), (q_2, .inl (g 0, 40, .inl (fun _ => nI 0))), (q_3, .inl (g 0, 40, .inl (fun _ => nI 0))), (q_4, .inl (g 0, 40, .inl (fun _ => nI 0)))] := hD
  refine W.widen (k := 4) (n := 126) (by omega) (by omega) ?_
  refine W.eq (g2 := F0 m 84 ls [.ref q_4, .ref h0]) rfl ?_
  refine kpF (ci := 7) G iRu tRu tRu_ok nRu hP hD hS 0 rfl rfl 13 (by decide) q1014 rfl rfl rfl rfl rfl rfl (Nat.le_of_ble_eq_true rfl) d_Ru_init_84 (fun H locs hP hD hS => ?_)
  have hP : va_P D CL [(h0, .inr (7, [.int (nI 0), .int (nI 0), .ref q_1, .int (nI 0), .int (nI 0), .int (nI 0), .int (nI 0), .int (nI 0), .int (-2), .int (nI 0), .int (nI 0), .ref q_2, .ref q_3, .ref q_4, .null, .null, .int (nI 0), .null, .null])), (q_1, .inl (g 0, 6, .inl (fun _ => nI 0))), (q_2, .inl (g 0, 40, .inl (fun _ => nI 0))), (q_3, .inl (g 0, 40, .inl (fun _ => nI 0))), (q_4, .inl (g 0, 40, .inl (fun _ => nI 0)))] H := hP
  have hD : va_D A [(h0, .inr (7, [.int (nI 0), .int (nI 0), .ref q_1, .int (nI 0), .int (nI 0), .int (nI 0), .int (nI 0), .int (nI 0), .int (-2), .int (nI 0), .int (nI 0), .ref q_2, .ref q_3, .ref q_4, .null, .null, .int (nI 0), .null, .null])), (q_1, .inl (g 0, 6, .inl (fun _ => nI 0))), (q_2, .inl (g 0, 40, .inl (fun _ => nI 0))), (q_3, .inl (g 0, 40, .inl (fun _ => nI 0))), (q_4, .inl (g 0, 40, .inl (fun _ => nI 0)))] := hD
  refine lv_aload_n G.1 G.2.1 d_Ru_init_87 rfl (lv_at hl 0 rfl) ?_
  refine lv_bipush (v := nI 40) G.1 G.2.1 d_Ru_init_88 (by decide) ?_
  refine kNew (ty := .int) (N' := 40) (a0 := (40, .inl (fun _ => nI 0))) G q404 rfl (fun _ h => h) 0 rfl hP hD hS (fun _ => rfl) (nI_pos (by omega)) (nI_clamp (by omega)) (Nat.le_of_ble_eq_true rfl) (Nat.le_of_ble_eq_true rfl) (Nat.le_of_ble_eq_true rfl) d_Ru_init_90 (fun q_5 H hP hD hS => ?_)
  have hP : va_P D CL [(h0, .inr (7, [.int (nI 0), .int (nI 0), .ref q_1, .int (nI 0), .int (nI 0), .int (nI 0), .int (nI 0), .int (nI 0), .int (-2), .int (nI 0), .int (nI 0), .ref q_2, .ref q_3, .ref q_4, .null, .null, .int (nI 0), .null, .null])), (q_1, .inl (g 0, 6, .inl (fun _ => nI 0))), (q_2, .inl (g 0, 40, .inl (fun _ => nI 0))), (q_3, .inl (g 0, 40, .inl (fun _ => nI 0))), (q_4, .inl (g 0, 40, .inl (fun _ => nI 0))), (q_5, .inl (g 0, 40, .inl (fun _ => nI 0)))] H := hP
  have hD : va_D A [(h0, .inr (7, [.int (nI 0), .int (nI 0), .ref q_1, .int (nI 0), .int (nI 0), .int (nI 0), .int (nI 0), .int (nI 0), .int (-2), .int (nI 0), .int (nI 0), .ref q_2, .ref q_3, .ref q_4, .null, .null, .int (nI 0), .null, .null])), (q_1, .inl (g 0, 6, .inl (fun _ => nI 0))), (q_2, .inl (g 0, 40, .inl (fun _ => nI 0))), (q_3, .inl (g 0, 40, .inl (fun _ => nI 0))), (q_4, .inl (g 0, 40, .inl (fun _ => nI 0))), (q_5, .inl (g 0, 40, .inl (fun _ => nI 0)))] := hD
  refine W.widen (k := 5) (n := 166) (by omega) (by omega) ?_
  refine kpF (ci := 7) G iRu tRu tRu_ok nRu hP hD hS 0 rfl rfl 14 (by decide) q1017 rfl rfl rfl rfl rfl rfl (Nat.le_of_ble_eq_true rfl) d_Ru_init_92 (fun H locs hP hD hS => ?_)
  have hP : va_P D CL [(h0, .inr (7, [.int (nI 0), .int (nI 0), .ref q_1, .int (nI 0), .int (nI 0), .int (nI 0), .int (nI 0), .int (nI 0), .int (-2), .int (nI 0), .int (nI 0), .ref q_2, .ref q_3, .ref q_4, .ref q_5, .null, .int (nI 0), .null, .null])), (q_1, .inl (g 0, 6, .inl (fun _ => nI 0))), (q_2, .inl (g 0, 40, .inl (fun _ => nI 0))), (q_3, .inl (g 0, 40, .inl (fun _ => nI 0))), (q_4, .inl (g 0, 40, .inl (fun _ => nI 0))), (q_5, .inl (g 0, 40, .inl (fun _ => nI 0)))] H := hP
  have hD : va_D A [(h0, .inr (7, [.int (nI 0), .int (nI 0), .ref q_1, .int (nI 0), .int (nI 0), .int (nI 0), .int (nI 0), .int (nI 0), .int (-2), .int (nI 0), .int (nI 0), .ref q_2, .ref q_3, .ref q_4, .ref q_5, .null, .int (nI 0), .null, .null])), (q_1, .inl (g 0, 6, .inl (fun _ => nI 0))), (q_2, .inl (g 0, 40, .inl (fun _ => nI 0))), (q_3, .inl (g 0, 40, .inl (fun _ => nI 0))), (q_4, .inl (g 0, 40, .inl (fun _ => nI 0))), (q_5, .inl (g 0, 40, .inl (fun _ => nI 0)))] := hD
  refine lv_aload_n G.1 G.2.1 d_Ru_init_95 rfl (lv_at hl 0 rfl) ?_
  refine lv_sipush (v := nI 1600) G.1 G.2.1 d_Ru_init_96 (by decide) ?_
  refine kNew (ty := .long) (N' := 1600) (a0 := (1600, .inr (.inl (fun _ => 0)))) G q899 rfl (fun _ h => h) 2 rfl hP hD hS (fun _ => rfl) (nI_pos (by omega)) (nI_clamp (by omega)) (Nat.le_of_ble_eq_true rfl) (Nat.le_of_ble_eq_true rfl) (Nat.le_of_ble_eq_true rfl) d_Ru_init_99 (fun q_6 H hP hD hS => ?_)
  have hP : va_P D CL [(h0, .inr (7, [.int (nI 0), .int (nI 0), .ref q_1, .int (nI 0), .int (nI 0), .int (nI 0), .int (nI 0), .int (nI 0), .int (-2), .int (nI 0), .int (nI 0), .ref q_2, .ref q_3, .ref q_4, .ref q_5, .null, .int (nI 0), .null, .null])), (q_1, .inl (g 0, 6, .inl (fun _ => nI 0))), (q_2, .inl (g 0, 40, .inl (fun _ => nI 0))), (q_3, .inl (g 0, 40, .inl (fun _ => nI 0))), (q_4, .inl (g 0, 40, .inl (fun _ => nI 0))), (q_5, .inl (g 0, 40, .inl (fun _ => nI 0))), (q_6, .inl (g 2, 1600, .inr (.inl (fun _ => 0))))] H := hP
  have hD : va_D A [(h0, .inr (7, [.int (nI 0), .int (nI 0), .ref q_1, .int (nI 0), .int (nI 0), .int (nI 0), .int (nI 0), .int (nI 0), .int (-2), .int (nI 0), .int (nI 0), .ref q_2, .ref q_3, .ref q_4, .ref q_5, .null, .int (nI 0), .null, .null])), (q_1, .inl (g 0, 6, .inl (fun _ => nI 0))), (q_2, .inl (g 0, 40, .inl (fun _ => nI 0))), (q_3, .inl (g 0, 40, .inl (fun _ => nI 0))), (q_4, .inl (g 0, 40, .inl (fun _ => nI 0))), (q_5, .inl (g 0, 40, .inl (fun _ => nI 0))), (q_6, .inl (g 2, 1600, .inr (.inl (fun _ => 0))))] := hD
  refine W.widen (k := 6) (n := 1766) (by omega) (by omega) ?_
  refine kpF (ci := 7) G iRu tRu tRu_ok nRu hP hD hS 0 rfl rfl 15 (by decide) q1020 rfl rfl rfl rfl rfl rfl (Nat.le_of_ble_eq_true rfl) d_Ru_init_101 (fun H locs hP hD hS => ?_)
  have hP : va_P D CL [(h0, .inr (7, [.int (nI 0), .int (nI 0), .ref q_1, .int (nI 0), .int (nI 0), .int (nI 0), .int (nI 0), .int (nI 0), .int (-2), .int (nI 0), .int (nI 0), .ref q_2, .ref q_3, .ref q_4, .ref q_5, .ref q_6, .int (nI 0), .null, .null])), (q_1, .inl (g 0, 6, .inl (fun _ => nI 0))), (q_2, .inl (g 0, 40, .inl (fun _ => nI 0))), (q_3, .inl (g 0, 40, .inl (fun _ => nI 0))), (q_4, .inl (g 0, 40, .inl (fun _ => nI 0))), (q_5, .inl (g 0, 40, .inl (fun _ => nI 0))), (q_6, .inl (g 2, 1600, .inr (.inl (fun _ => 0))))] H := hP
  have hD : va_D A [(h0, .inr (7, [.int (nI 0), .int (nI 0), .ref q_1, .int (nI 0), .int (nI 0), .int (nI 0), .int (nI 0), .int (nI 0), .int (-2), .int (nI 0), .int (nI 0), .ref q_2, .ref q_3, .ref q_4, .ref q_5, .ref q_6, .int (nI 0), .null, .null])), (q_1, .inl (g 0, 6, .inl (fun _ => nI 0))), (q_2, .inl (g 0, 40, .inl (fun _ => nI 0))), (q_3, .inl (g 0, 40, .inl (fun _ => nI 0))), (q_4, .inl (g 0, 40, .inl (fun _ => nI 0))), (q_5, .inl (g 0, 40, .inl (fun _ => nI 0))), (q_6, .inl (g 2, 1600, .inr (.inl (fun _ => 0))))] := hD
  refine lv_aload_n G.1 G.2.1 d_Ru_init_104 rfl (lv_at hl 0 rfl) ?_
  refine lv_iconst (v := nI 0) G.1 G.2.1 d_Ru_init_105 (by decide) ?_
  refine kp (ci := 7) G iRu tRu tRu_ok nRu hP hD hS 0 rfl rfl 16 (by decide) q1021 rfl rfl rfl rfl (Nat.le_of_ble_eq_true rfl) d_Ru_init_106 (fun H locs hP hD hS => ?_)
  have hP : va_P D CL [(h0, .inr (7, [.int (nI 0), .int (nI 0), .ref q_1, .int (nI 0), .int (nI 0), .int (nI 0), .int (nI 0), .int (nI 0), .int (-2), .int (nI 0), .int (nI 0), .ref q_2, .ref q_3, .ref q_4, .ref q_5, .ref q_6, .int (nI 0), .null, .null])), (q_1, .inl (g 0, 6, .inl (fun _ => nI 0))), (q_2, .inl (g 0, 40, .inl (fun _ => nI 0))), (q_3, .inl (g 0, 40, .inl (fun _ => nI 0))), (q_4, .inl (g 0, 40, .inl (fun _ => nI 0))), (q_5, .inl (g 0, 40, .inl (fun _ => nI 0))), (q_6, .inl (g 2, 1600, .inr (.inl (fun _ => 0))))] H := hP
  have hD : va_D A [(h0, .inr (7, [.int (nI 0), .int (nI 0), .ref q_1, .int (nI 0), .int (nI 0), .int (nI 0), .int (nI 0), .int (nI 0), .int (-2), .int (nI 0), .int (nI 0), .ref q_2, .ref q_3, .ref q_4, .ref q_5, .ref q_6, .int (nI 0), .null, .null])), (q_1, .inl (g 0, 6, .inl (fun _ => nI 0))), (q_2, .inl (g 0, 40, .inl (fun _ => nI 0))), (q_3, .inl (g 0, 40, .inl (fun _ => nI 0))), (q_4, .inl (g 0, 40, .inl (fun _ => nI 0))), (q_5, .inl (g 0, 40, .inl (fun _ => nI 0))), (q_6, .inl (g 2, 1600, .inr (.inl (fun _ => 0))))] := hD
  refine W.eq (g2 := F0 m 109 ls []) rfl ?_
  refine lv_aload_n G.1 G.2.1 d_Ru_init_109 rfl (lv_at hl 0 rfl) ?_
  refine lv_bipush (v := nI 51) G.1 G.2.1 d_Ru_init_110 (by decide) ?_
  refine kNew (ty := .int) (N' := 51) (a0 := (51, .inl (fun _ => nI 0))) G q404 rfl (fun _ h => h) 0 rfl hP hD hS (fun _ => rfl) (nI_pos (by omega)) (nI_clamp (by omega)) (Nat.le_of_ble_eq_true rfl) (Nat.le_of_ble_eq_true rfl) (Nat.le_of_ble_eq_true rfl) d_Ru_init_112 (fun q_7 H hP hD hS => ?_)
  have hP : va_P D CL [(h0, .inr (7, [.int (nI 0), .int (nI 0), .ref q_1, .int (nI 0), .int (nI 0), .int (nI 0), .int (nI 0), .int (nI 0), .int (-2), .int (nI 0), .int (nI 0), .ref q_2, .ref q_3, .ref q_4, .ref q_5, .ref q_6, .int (nI 0), .null, .null])), (q_1, .inl (g 0, 6, .inl (fun _ => nI 0))), (q_2, .inl (g 0, 40, .inl (fun _ => nI 0))), (q_3, .inl (g 0, 40, .inl (fun _ => nI 0))), (q_4, .inl (g 0, 40, .inl (fun _ => nI 0))), (q_5, .inl (g 0, 40, .inl (fun _ => nI 0))), (q_6, .inl (g 2, 1600, .inr (.inl (fun _ => 0)))), (q_7, .inl (g 0, 51, .inl (fun _ => nI 0)))] H := hP
  have hD : va_D A [(h0, .inr (7, [.int (nI 0), .int (nI 0), .ref q_1, .int (nI 0), .int (nI 0), .int (nI 0), .int (nI 0), .int (nI 0), .int (-2), .int (nI 0), .int (nI 0), .ref q_2, .ref q_3, .ref q_4, .ref q_5, .ref q_6, .int (nI 0), .null, .null])), (q_1, .inl (g 0, 6, .inl (fun _ => nI 0))), (q_2, .inl (g 0, 40, .inl (fun _ => nI 0))), (q_3, .inl (g 0, 40, .inl (fun _ => nI 0))), (q_4, .inl (g 0, 40, .inl (fun _ => nI 0))), (q_5, .inl (g 0, 40, .inl (fun _ => nI 0))), (q_6, .inl (g 2, 1600, .inr (.inl (fun _ => 0)))), (q_7, .inl (g 0, 51, .inl (fun _ => nI 0)))] := hD
  refine W.widen (k := 7) (n := 1817) (by omega) (by omega) ?_
  refine kpF (ci := 7) G iRu tRu tRu_ok nRu hP hD hS 0 rfl rfl 17 (by decide) q1023 rfl rfl rfl rfl rfl rfl (Nat.le_of_ble_eq_true rfl) d_Ru_init_114 (fun H locs hP hD hS => ?_)
  have hP : va_P D CL [(h0, .inr (7, [.int (nI 0), .int (nI 0), .ref q_1, .int (nI 0), .int (nI 0), .int (nI 0), .int (nI 0), .int (nI 0), .int (-2), .int (nI 0), .int (nI 0), .ref q_2, .ref q_3, .ref q_4, .ref q_5, .ref q_6, .int (nI 0), .ref q_7, .null])), (q_1, .inl (g 0, 6, .inl (fun _ => nI 0))), (q_2, .inl (g 0, 40, .inl (fun _ => nI 0))), (q_3, .inl (g 0, 40, .inl (fun _ => nI 0))), (q_4, .inl (g 0, 40, .inl (fun _ => nI 0))), (q_5, .inl (g 0, 40, .inl (fun _ => nI 0))), (q_6, .inl (g 2, 1600, .inr (.inl (fun _ => 0)))), (q_7, .inl (g 0, 51, .inl (fun _ => nI 0)))] H := hP
  have hD : va_D A [(h0, .inr (7, [.int (nI 0), .int (nI 0), .ref q_1, .int (nI 0), .int (nI 0), .int (nI 0), .int (nI 0), .int (nI 0), .int (-2), .int (nI 0), .int (nI 0), .ref q_2, .ref q_3, .ref q_4, .ref q_5, .ref q_6, .int (nI 0), .ref q_7, .null])), (q_1, .inl (g 0, 6, .inl (fun _ => nI 0))), (q_2, .inl (g 0, 40, .inl (fun _ => nI 0))), (q_3, .inl (g 0, 40, .inl (fun _ => nI 0))), (q_4, .inl (g 0, 40, .inl (fun _ => nI 0))), (q_5, .inl (g 0, 40, .inl (fun _ => nI 0))), (q_6, .inl (g 2, 1600, .inr (.inl (fun _ => 0)))), (q_7, .inl (g 0, 51, .inl (fun _ => nI 0)))] := hD
  refine lv_aload_n G.1 G.2.1 d_Ru_init_117 rfl (lv_at hl 0 rfl) ?_
  refine lv_bipush (v := nI 51) G.1 G.2.1 d_Ru_init_118 (by decide) ?_
  refine kNew (ty := .int) (N' := 51) (a0 := (51, .inl (fun _ => nI 0))) G q404 rfl (fun _ h => h) 0 rfl hP hD hS (fun _ => rfl) (nI_pos (by omega)) (nI_clamp (by omega)) (Nat.le_of_ble_eq_true rfl) (Nat.le_of_ble_eq_true rfl) (Nat.le_of_ble_eq_true rfl) d_Ru_init_120 (fun q_8 H hP hD hS => ?_)
  have hP : va_P D CL [(h0, .inr (7, [.int (nI 0), .int (nI 0), .ref q_1, .int (nI 0), .int (nI 0), .int (nI 0), .int (nI 0), .int (nI 0), .int (-2), .int (nI 0), .int (nI 0), .ref q_2, .ref q_3, .ref q_4, .ref q_5, .ref q_6, .int (nI 0), .ref q_7, .null])), (q_1, .inl (g 0, 6, .inl (fun _ => nI 0))), (q_2, .inl (g 0, 40, .inl (fun _ => nI 0))), (q_3, .inl (g 0, 40, .inl (fun _ => nI 0))), (q_4, .inl (g 0, 40, .inl (fun _ => nI 0))), (q_5, .inl (g 0, 40, .inl (fun _ => nI 0))), (q_6, .inl (g 2, 1600, .inr (.inl (fun _ => 0)))), (q_7, .inl (g 0, 51, .inl (fun _ => nI 0))), (q_8, .inl (g 0, 51, .inl (fun _ => nI 0)))] H := hP
  have hD : va_D A [(h0, .inr (7, [.int (nI 0), .int (nI 0), .ref q_1, .int (nI 0), .int (nI 0), .int (nI 0), .int (nI 0), .int (nI 0), .int (-2), .int (nI 0), .int (nI 0), .ref q_2, .ref q_3, .ref q_4, .ref q_5, .ref q_6, .int (nI 0), .ref q_7, .null])), (q_1, .inl (g 0, 6, .inl (fun _ => nI 0))), (q_2, .inl (g 0, 40, .inl (fun _ => nI 0))), (q_3, .inl (g 0, 40, .inl (fun _ => nI 0))), (q_4, .inl (g 0, 40, .inl (fun _ => nI 0))), (q_5, .inl (g 0, 40, .inl (fun _ => nI 0))), (q_6, .inl (g 2, 1600, .inr (.inl (fun _ => 0)))), (q_7, .inl (g 0, 51, .inl (fun _ => nI 0))), (q_8, .inl (g 0, 51, .inl (fun _ => nI 0)))] := hD
  refine W.widen (k := 8) (n := 1868) (by omega) (by omega) ?_
  refine kpF (ci := 7) G iRu tRu tRu_ok nRu hP hD hS 0 rfl rfl 18 (by decide) q1025 rfl rfl rfl rfl rfl rfl (Nat.le_of_ble_eq_true rfl) d_Ru_init_122 (fun H locs hP hD hS => ?_)
  have hP : va_P D CL [(h0, .inr (7, [.int (nI 0), .int (nI 0), .ref q_1, .int (nI 0), .int (nI 0), .int (nI 0), .int (nI 0), .int (nI 0), .int (-2), .int (nI 0), .int (nI 0), .ref q_2, .ref q_3, .ref q_4, .ref q_5, .ref q_6, .int (nI 0), .ref q_7, .ref q_8])), (q_1, .inl (g 0, 6, .inl (fun _ => nI 0))), (q_2, .inl (g 0, 40, .inl (fun _ => nI 0))), (q_3, .inl (g 0, 40, .inl (fun _ => nI 0))), (q_4, .inl (g 0, 40, .inl (fun _ => nI 0))), (q_5, .inl (g 0, 40, .inl (fun _ => nI 0))), (q_6, .inl (g 2, 1600, .inr (.inl (fun _ => 0)))), (q_7, .inl (g 0, 51, .inl (fun _ => nI 0))), (q_8, .inl (g 0, 51, .inl (fun _ => nI 0)))] H := hP
  have hD : va_D A [(h0, .inr (7, [.int (nI 0), .int (nI 0), .ref q_1, .int (nI 0), .int (nI 0), .int (nI 0), .int (nI 0), .int (nI 0), .int (-2), .int (nI 0), .int (nI 0), .ref q_2, .ref q_3, .ref q_4, .ref q_5, .ref q_6, .int (nI 0), .ref q_7, .ref q_8])), (q_1, .inl (g 0, 6, .inl (fun _ => nI 0))), (q_2, .inl (g 0, 40, .inl (fun _ => nI 0))), (q_3, .inl (g 0, 40, .inl (fun _ => nI 0))), (q_4, .inl (g 0, 40, .inl (fun _ => nI 0))), (q_5, .inl (g 0, 40, .inl (fun _ => nI 0))), (q_6, .inl (g 2, 1600, .inr (.inl (fun _ => 0)))), (q_7, .inl (g 0, 51, .inl (fun _ => nI 0))), (q_8, .inl (g 0, 51, .inl (fun _ => nI 0)))] := hD
  refine hret (nI 0, nI 0, q_1, nI 0, nI 0, nI 0, nI 0, nI 0, (-2), nI 0, q_2, q_3, q_4, q_5, q_6, nI 0, q_7, q_8) _ _ _ _ _ ls (show True from trivial) (hP.sub [0] rfl) (hD.sub [0] (by decide) rfl) hS (Nat.le_of_ble_eq_true rfl) (Nat.le_of_ble_eq_true rfl) d_Ru_init_125
