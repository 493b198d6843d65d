def y_Ru_local : MethodName := ⟨"ClassWorks$Runner", "local", "(I)J"⟩
abbrev b_Ru_local : ByteArray := prog_9_method_7_code
theorem q1020 : Cond.fieldLink "ClassWorks$Runner" 59 "ClassWorks$Runner" "places" "[J" ∈ lw_ok := lw_okmem (List.mem_of_getElem? (i := 1020) (by decide +kernel)) rfl
theorem q1005 : Cond.fieldLink "ClassWorks$Runner" 44 "ClassWorks$Runner" "frames" "I" ∈ lw_ok := lw_okmem (List.mem_of_getElem? (i := 1005) (by decide +kernel)) rfl
theorem d_Ru_local_0 : decode b_Ru_local 0 = .ok (.aload_n 0, 1) := by decide +kernel
theorem d_Ru_local_1 : decode b_Ru_local 1 = .ok (.getfield 59, 3) := by decide +kernel
theorem d_Ru_local_4 : decode b_Ru_local 4 = .ok (.aload_n 0, 1) := by decide +kernel
theorem d_Ru_local_5 : decode b_Ru_local 5 = .ok (.getfield 44, 3) := by decide +kernel
theorem d_Ru_local_8 : decode b_Ru_local 8 = .ok (.iconst 1, 1) := by decide +kernel
theorem d_Ru_local_9 : decode b_Ru_local 9 = .ok (.isub, 1) := by decide +kernel
theorem d_Ru_local_10 : decode b_Ru_local 10 = .ok (.bipush 40, 2) := by decide +kernel
theorem d_Ru_local_12 : decode b_Ru_local 12 = .ok (.imul, 1) := by decide +kernel
theorem d_Ru_local_13 : decode b_Ru_local 13 = .ok (.iload_n 1, 1) := by decide +kernel
theorem d_Ru_local_14 : decode b_Ru_local 14 = .ok (.iadd, 1) := by decide +kernel
theorem d_Ru_local_15 : decode b_Ru_local 15 = .ok (.laload, 1) := by decide +kernel
theorem d_Ru_local_16 : decode b_Ru_local 16 = .ok (.lreturn, 1) := by decide +kernel
abbrev rm_Ru_local : Room := { frames := 0, cells := 0, slots := 0, locals := 0 }
set_option maxHeartbeats 4000000 in
set_option maxRecDepth 100000 in
/-- local(i) -/
theorem c_Ru_local (l : Launch) (D : va_G) (g : Nat → ClassId) (h0 : Nat) (i : Nat) (f_callClass : Int32) (f_callSign : Int32) (r_callNumbers : Nat) (f_mode : Int32) (f_steps : Int32) (f_waits : Int32) (f_endKind : Int32) (f_endNumber : Int32) (f_endClass : Int32) (f_endRule : Int32) (r_classOf : Nat) (r_methodOf : Nat) (r_at : Nat) (r_depth : Nat) (r_places : Nat) (f_starts : Int32) (r_startClass : Nat) (r_startFrames : Nat) (d_places : Nat → Int64) (f : Nat) (sz : Nat) (hf : f < 40) (hi : i < 40) : Met l y_Ru_local (mw y_Ru_local b_Ru_local 2 (some (.long))) (rm_Ru_local) (PC g D [] [.ref h0, .int (nI i)] sz [(h0, .inr (7, [.int f_callClass, .int f_callSign, .ref r_callNumbers, .int f_mode, .int f_steps, .int f_waits, .int f_endKind, .int f_endNumber, .int f_endClass, .int f_endRule, .int (nI (f + 1)), .ref r_classOf, .ref r_methodOf, .ref r_at, .ref r_depth, .ref r_places, .int f_starts, .ref r_startClass, .ref r_startFrames])), (r_places, .inl (g 2, 1600, .inr (.inl d_places)))]) (va_Ql (fun (r : Int64) (u : Unit) => r = d_places (f * 40 + i)) (QW D (va_A [(h0, .inr (7, [.int f_callClass, .int f_callSign, .ref r_callNumbers, .int f_mode, .int f_steps, .int f_waits, .int f_endKind, .int f_endNumber, .int f_endClass, .int f_endRule, .int (nI (f + 1)), .ref r_classOf, .ref r_methodOf, .ref r_at, .ref r_depth, .ref r_places, .int f_starts, .ref r_startClass, .ref r_startFrames])), (r_places, .inl (g 2, 1600, .inr (.inl d_places)))] sz) (fun u : Unit => [(h0, .inr (7, [.int f_callClass, .int f_callSign, .ref r_callNumbers, .int f_mode, .int f_steps, .int f_waits, .int f_endKind, .int f_endNumber, .int f_endClass, .int f_endRule, .int (nI (f + 1)), .ref r_classOf, .ref r_methodOf, .ref r_at, .ref r_depth, .ref r_places, .int f_starts, .ref r_startClass, .ref r_startFrames])), (r_places, .inl (g 2, 1600, .inr (.inl d_places)))])) (va_A [(h0, .inr (7, [.int f_callClass, .int f_callSign, .ref r_callNumbers, .int f_mode, .int f_steps, .int f_waits, .int f_endKind, .int f_endNumber, .int f_endClass, .int f_endRule, .int (nI (f + 1)), .ref r_classOf, .ref r_methodOf, .ref r_at, .ref r_depth, .ref r_places, .int f_starts, .ref r_startClass, .ref r_startFrames])), (r_places, .inl (g 2, 1600, .inr (.inl d_places)))] sz)) 0 0 (va_A [(h0, .inr (7, [.int f_callClass, .int f_callSign, .ref r_callNumbers, .int f_mode, .int f_steps, .int f_waits, .int f_endKind, .int f_endNumber, .int f_endClass, .int f_endRule, .int (nI (f + 1)), .ref r_classOf, .ref r_methodOf, .ref r_at, .ref r_depth, .ref r_places, .int f_starts, .ref r_startClass, .ref r_startFrames])), (r_places, .inl (g 2, 1600, .inr (.inl d_places)))] sz) := by
  refine ofL (by decide +kernel) (Nat.le_of_ble_eq_true rfl) ?_
  intro p e s m args below meth c A Q ls H locs G hsz hP hD hS hl hret
  subst hsz
  have hl : lv_has ls 2 [(0, .ref h0), (1, .int (nI i))] := hl
  refine lv_aload_n G.1 G.2.1 d_Ru_local_0 rfl (lv_at hl 0 rfl) ?_
  refine kg (ci := 7) G iRu hP 0 rfl rfl 15 (by decide) q1020 rfl rfl d_Ru_local_1 ?_
  refine lv_aload_n G.1 G.2.1 d_Ru_local_4 rfl (lv_at hl 0 rfl) ?_
  refine kg (ci := 7) G iRu hP 0 rfl rfl 10 (by decide) q1005 rfl rfl d_Ru_local_5 ?_
  refine lv_iconst (v := nI 1) G.1 G.2.1 d_Ru_local_8 (by decide) ?_
  refine lv_isub G.1 G.2.1 d_Ru_local_9 ?_
  refine tpi (w := nI f) ((pk_sub (by omega)).trans (congrArg nI (by omega))) ?_
  refine lv_bipush (v := nI 40) G.1 G.2.1 d_Ru_local_10 (by decide) ?_
  refine lv_imul G.1 G.2.1 d_Ru_local_12 ?_
  refine tpi (w := nI (f * 40)) (pk_mul _ _) ?_
  refine lv_iload_n G.1 G.2.1 d_Ru_local_13 rfl (lv_at hl 1 rfl) ?_
  refine lv_iadd G.1 G.2.1 d_Ru_local_14 ?_
  refine tpi (w := nI (f * 40 + i)) (nI_add _ _) ?_
  refine klald G hP 1 2 rfl rfl (by omega) (by omega) d_Ru_local_15 ?_
  refine W.eq (g2 := F0 m 16 ls [.long (d_places (f * 40 + i))]) rfl ?_
  refine hret (d_places (f * 40 + i)) () _ _ _ _ _ ls rfl (hP.sub [0, 1] rfl) (hD.sub [0, 1] (by decide) rfl) hS (Nat.le_of_ble_eq_true rfl) (Nat.le_of_ble_eq_true rfl) d_Ru_local_16
def y_Ru_setLocal : MethodName := ⟨"ClassWorks$Runner", "setLocal", "(IJ)V"⟩
abbrev b_Ru_setLocal : ByteArray := prog_9_method_8_code
theorem d_Ru_setLocal_0 : decode b_Ru_setLocal 0 = .ok (.aload_n 0, 1) := by decide +kernel
theorem d_Ru_setLocal_1 : decode b_Ru_setLocal 1 = .ok (.getfield 59, 3) := by decide +kernel
theorem d_Ru_setLocal_4 : decode b_Ru_setLocal 4 = .ok (.aload_n 0, 1) := by decide +kernel
theorem d_Ru_setLocal_5 : decode b_Ru_setLocal 5 = .ok (.getfield 44, 3) := by decide +kernel
theorem d_Ru_setLocal_8 : decode b_Ru_setLocal 8 = .ok (.iconst 1, 1) := by decide +kernel
theorem d_Ru_setLocal_9 : decode b_Ru_setLocal 9 = .ok (.isub, 1) := by decide +kernel
theorem d_Ru_setLocal_10 : decode b_Ru_setLocal 10 = .ok (.bipush 40, 2) := by decide +kernel
theorem d_Ru_setLocal_12 : decode b_Ru_setLocal 12 = .ok (.imul, 1) := by decide +kernel
theorem d_Ru_setLocal_13 : decode b_Ru_setLocal 13 = .ok (.iload_n 1, 1) := by decide +kernel
theorem d_Ru_setLocal_14 : decode b_Ru_setLocal 14 = .ok (.iadd, 1) := by decide +kernel
theorem d_Ru_setLocal_15 : decode b_Ru_setLocal 15 = .ok (.lload_n 2, 1) := by decide +kernel
theorem d_Ru_setLocal_16 : decode b_Ru_setLocal 16 = .ok (.lastore, 1) := by decide +kernel
theorem d_Ru_setLocal_17 : decode b_Ru_setLocal 17 = .ok (.return_, 1) := by decide +kernel
abbrev rm_Ru_setLocal : Room := { frames := 0, cells := 0, slots := 0, locals := 0 }
set_option maxHeartbeats 4000000 in
set_option maxRecDepth 100000 in
/-- setLocal(i, v) -/
theorem c_Ru_setLocal (l : Launch) (D : va_G) (g : Nat → ClassId) (h0 : Nat) (i : Nat) (v : Int64) (f_callClass : Int32) (f_callSign : Int32) (r_callNumbers : Nat) (f_mode : Int32) (f_steps : Int32) (f_waits : Int32) (f_endKind : Int32) (f_endNumber : Int32) (f_endClass : Int32) (f_endRule : Int32) (r_classOf : Nat) (r_methodOf : Nat) (r_at : Nat) (r_depth : Nat) (r_places : Nat) (f_starts : Int32) (r_startClass : Nat) (r_startFrames : Nat) (d_places : Nat → Int64) (f : Nat) (sz : Nat) (hf : f < 40) (hi : i < 40) : Met l y_Ru_setLocal (mw y_Ru_setLocal b_Ru_setLocal 4 (none)) (rm_Ru_setLocal) (PC g D [] [.ref h0, .int (nI i), .long v] sz [(h0, .inr (7, [.int f_callClass, .int f_callSign, .ref r_callNumbers, .int f_mode, .int f_steps, .int f_waits, .int f_endKind, .int f_endNumber, .int f_endClass, .int f_endRule, .int (nI (f + 1)), .ref r_classOf, .ref r_methodOf, .ref r_at, .ref r_depth, .ref r_places, .int f_starts, .ref r_startClass, .ref r_startFrames])), (r_places, .inl (g 2, 1600, .inr (.inl d_places)))]) (va_Qv (fun u : Unit => True) (QW D (va_A [(h0, .inr (7, [.int f_callClass, .int f_callSign, .ref r_callNumbers, .int f_mode, .int f_steps, .int f_waits, .int f_endKind, .int f_endNumber, .int f_endClass, .int f_endRule, .int (nI (f + 1)), .ref r_classOf, .ref r_methodOf, .ref r_at, .ref r_depth, .ref r_places, .int f_starts, .ref r_startClass, .ref r_startFrames])), (r_places, .inl (g 2, 1600, .inr (.inl d_places)))] sz) (fun u : Unit => [(h0, .inr (7, [.int f_callClass, .int f_callSign, .ref r_callNumbers, .int f_mode, .int f_steps, .int f_waits, .int f_endKind, .int f_endNumber, .int f_endClass, .int f_endRule, .int (nI (f + 1)), .ref r_classOf, .ref r_methodOf, .ref r_at, .ref r_depth, .ref r_places, .int f_starts, .ref r_startClass, .ref r_startFrames])), (r_places, .inl (g 2, 1600, .inr (.inl (vp_updL d_places (f * 40 + i) v))))])) (va_A [(h0, .inr (7, [.int f_callClass, .int f_callSign, .ref r_callNumbers, .int f_mode, .int f_steps, .int f_waits, .int f_endKind, .int f_endNumber, .int f_endClass, .int f_endRule, .int (nI (f + 1)), .ref r_classOf, .ref r_methodOf, .ref r_at, .ref r_depth, .ref r_places, .int f_starts, .ref r_startClass, .ref r_startFrames])), (r_places, .inl (g 2, 1600, .inr (.inl d_places)))] sz)) 0 0 (va_A [(h0, .inr (7, [.int f_callClass, .int f_callSign, .ref r_callNumbers, .int f_mode, .int f_steps, .int f_waits, .int f_endKind, .int f_endNumber, .int f_endClass, .int f_endRule, .int (nI (f + 1)), .ref r_classOf, .ref r_methodOf, .ref r_at, .ref r_depth, .ref r_places, .int f_starts, .ref r_startClass, .ref r_startFrames])), (r_places, .inl (g 2, 1600, .inr (.inl d_places)))] sz) := by
  refine ofV (by decide +kernel) (Nat.le_of_ble_eq_true rfl) ?_
  intro p e s m args below meth c A Q ls H locs G hsz hP hD hS hl hret
  subst hsz
  have hl : lv_has ls 4 [(0, .ref h0), (1, .int (nI i)), (2, .long v)] := hl
  refine lv_aload_n G.1 G.2.1 d_Ru_setLocal_0 rfl (lv_at hl 0 rfl) ?_
  refine kg (ci := 7) G iRu hP 0 rfl rfl 15 (by decide) q1020 rfl rfl d_Ru_setLocal_1 ?_
  refine lv_aload_n G.1 G.2.1 d_Ru_setLocal_4 rfl (lv_at hl 0 rfl) ?_
  refine kg (ci := 7) G iRu hP 0 rfl rfl 10 (by decide) q1005 rfl rfl d_Ru_setLocal_5 ?_
  refine lv_iconst (v := nI 1) G.1 G.2.1 d_Ru_setLocal_8 (by decide) ?_
  refine lv_isub G.1 G.2.1 d_Ru_setLocal_9 ?_
  refine tpi (w := nI f) ((pk_sub (by omega)).trans (congrArg nI (by omega))) ?_
  refine lv_bipush (v := nI 40) G.1 G.2.1 d_Ru_setLocal_10 (by decide) ?_
  refine lv_imul G.1 G.2.1 d_Ru_setLocal_12 ?_
  refine tpi (w := nI (f * 40)) (pk_mul _ _) ?_
  refine lv_iload_n G.1 G.2.1 d_Ru_setLocal_13 rfl (lv_at hl 1 rfl) ?_
  refine lv_iadd G.1 G.2.1 d_Ru_setLocal_14 ?_
  refine tpi (w := nI (f * 40 + i)) (nI_add _ _) ?_
  refine lv_lload_n G.1 G.2.1 d_Ru_setLocal_15 rfl (lv_at hl 2 rfl) ?_
  refine W.eq (g2 := F0 m 16 ls [.long v, .int (nI (f * 40 + i)), .ref r_places]) rfl ?_
  refine klast G hP hD hS 1 2 rfl rfl (by omega) (by omega) d_Ru_setLocal_16 (fun H locs hP hD hS => ?_)
  have hP : va_P D CL [(h0, .inr (7, [.int f_callClass, .int f_callSign, .ref r_callNumbers, .int f_mode, .int f_steps, .int f_waits, .int f_endKind, .int f_endNumber, .int f_endClass, .int f_endRule, .int (nI (f + 1)), .ref r_classOf, .ref r_methodOf, .ref r_at, .ref r_depth, .ref r_places, .int f_starts, .ref r_startClass, .ref r_startFrames])), (r_places, .inl (g 2, 1600, .inr (.inl (vp_updL d_places (f * 40 + i) v))))] H := hP
  have hD : va_D A [(h0, .inr (7, [.int f_callClass, .int f_callSign, .ref r_callNumbers, .int f_mode, .int f_steps, .int f_waits, .int f_endKind, .int f_endNumber, .int f_endClass, .int f_endRule, .int (nI (f + 1)), .ref r_classOf, .ref r_methodOf, .ref r_at, .ref r_depth, .ref r_places, .int f_starts, .ref r_startClass, .ref r_startFrames])), (r_places, .inl (g 2, 1600, .inr (.inl (vp_updL d_places (f * 40 + i) v))))] := hD
  refine hret () _ _ _ _ _ ls trivial (hP.sub [0, 1] rfl) (hD.sub [0, 1] (by decide) rfl) hS (Nat.le_of_ble_eq_true rfl) (Nat.le_of_ble_eq_true rfl) d_Ru_setLocal_17
def y_Ru_fromTop : MethodName := ⟨"ClassWorks$Runner", "fromTop", "(I)J"⟩
abbrev b_Ru_fromTop : ByteArray := prog_9_method_9_code
theorem q1017 : Cond.fieldLink "ClassWorks$Runner" 56 "ClassWorks$Runner" "depth" "[I" ∈ lw_ok := lw_okmem (List.mem_of_getElem? (i := 1017) (by decide +kernel)) rfl
theorem d_Ru_fromTop_0 : decode b_Ru_fromTop 0 = .ok (.aload_n 0, 1) := by decide +kernel
theorem d_Ru_fromTop_1 : decode b_Ru_fromTop 1 = .ok (.getfield 59, 3) := by decide +kernel
theorem d_Ru_fromTop_4 : decode b_Ru_fromTop 4 = .ok (.aload_n 0, 1) := by decide +kernel
theorem d_Ru_fromTop_5 : decode b_Ru_fromTop 5 = .ok (.getfield 44, 3) := by decide +kernel
theorem d_Ru_fromTop_8 : decode b_Ru_fromTop 8 = .ok (.iconst 1, 1) := by decide +kernel
theorem d_Ru_fromTop_9 : decode b_Ru_fromTop 9 = .ok (.isub, 1) := by decide +kernel
theorem d_Ru_fromTop_10 : decode b_Ru_fromTop 10 = .ok (.bipush 40, 2) := by decide +kernel
theorem d_Ru_fromTop_12 : decode b_Ru_fromTop 12 = .ok (.imul, 1) := by decide +kernel
theorem d_Ru_fromTop_13 : decode b_Ru_fromTop 13 = .ok (.bipush 20, 2) := by decide +kernel
theorem d_Ru_fromTop_15 : decode b_Ru_fromTop 15 = .ok (.iadd, 1) := by decide +kernel
theorem d_Ru_fromTop_16 : decode b_Ru_fromTop 16 = .ok (.aload_n 0, 1) := by decide +kernel
theorem d_Ru_fromTop_17 : decode b_Ru_fromTop 17 = .ok (.getfield 56, 3) := by decide +kernel
theorem d_Ru_fromTop_20 : decode b_Ru_fromTop 20 = .ok (.aload_n 0, 1) := by decide +kernel
theorem d_Ru_fromTop_21 : decode b_Ru_fromTop 21 = .ok (.getfield 44, 3) := by decide +kernel
theorem d_Ru_fromTop_24 : decode b_Ru_fromTop 24 = .ok (.iconst 1, 1) := by decide +kernel
theorem d_Ru_fromTop_25 : decode b_Ru_fromTop 25 = .ok (.isub, 1) := by decide +kernel
theorem d_Ru_fromTop_26 : decode b_Ru_fromTop 26 = .ok (.iaload, 1) := by decide +kernel
theorem d_Ru_fromTop_27 : decode b_Ru_fromTop 27 = .ok (.iadd, 1) := by decide +kernel
theorem d_Ru_fromTop_28 : decode b_Ru_fromTop 28 = .ok (.iconst 1, 1) := by decide +kernel
theorem d_Ru_fromTop_29 : decode b_Ru_fromTop 29 = .ok (.isub, 1) := by decide +kernel
theorem d_Ru_fromTop_30 : decode b_Ru_fromTop 30 = .ok (.iload_n 1, 1) := by decide +kernel
theorem d_Ru_fromTop_31 : decode b_Ru_fromTop 31 = .ok (.isub, 1) := by decide +kernel
theorem d_Ru_fromTop_32 : decode b_Ru_fromTop 32 = .ok (.laload, 1) := by decide +kernel
theorem d_Ru_fromTop_33 : decode b_Ru_fromTop 33 = .ok (.lreturn, 1) := by decide +kernel
abbrev rm_Ru_fromTop : Room := { frames := 0, cells := 0, slots := 0, locals := 0 }
set_option maxHeartbeats 4000000 in
set_option maxRecDepth 100000 in
/-- fromTop(i) -/
theorem c_Ru_fromTop (l : Launch) (D : va_G) (g : Nat → ClassId) (h0 : Nat) (i : Nat) (f_callClass : Int32) (f_callSign : Int32) (r_callNumbers : Nat) (f_mode : Int32) (f_steps : Int32) (f_waits : Int32) (f_endKind : Int32) (f_endNumber : Int32) (f_endClass : Int32) (f_endRule : Int32) (r_classOf : Nat) (r_methodOf : Nat) (r_at : Nat) (r_depth : Nat) (r_places : Nat) (f_starts : Int32) (r_startClass : Nat) (r_startFrames : Nat) (d_places : Nat → Int64) (d_depth : Nat → Int32) (f e9 : Nat) (sz : Nat) (hf : f < 40) (hd : d_depth f = nI e9) (hi : i < e9) (he : e9 ≤ 20) : Met l y_Ru_fromTop (mw y_Ru_fromTop b_Ru_fromTop 2 (some (.long))) (rm_Ru_fromTop) (PC g D [] [.ref h0, .int (nI i)] sz [(h0, .inr (7, [.int f_callClass, .int f_callSign, .ref r_callNumbers, .int f_mode, .int f_steps, .int f_waits, .int f_endKind, .int f_endNumber, .int f_endClass, .int f_endRule, .int (nI (f + 1)), .ref r_classOf, .ref r_methodOf, .ref r_at, .ref r_depth, .ref r_places, .int f_starts, .ref r_startClass, .ref r_startFrames])), (r_places, .inl (g 2, 1600, .inr (.inl d_places))), (r_depth, .inl (g 0, 40, .inl d_depth))]) (va_Ql (fun (r : Int64) (u : Unit) => r = d_places (f * 40 + 20 + e9 - 1 - i)) (QW D (va_A [(h0, .inr (7, [.int f_callClass, .int f_callSign, .ref r_callNumbers, .int f_mode, .int f_steps, .int f_waits, .int f_endKind, .int f_endNumber, .int f_endClass, .int f_endRule, .int (nI (f + 1)), .ref r_classOf, .ref r_methodOf, .ref r_at, .ref r_depth, .ref r_places, .int f_starts, .ref r_startClass, .ref r_startFrames])), (r_places, .inl (g 2, 1600, .inr (.inl d_places))), (r_depth, .inl (g 0, 40, .inl d_depth))] sz) (fun u : Unit => [(h0, .inr (7, [.int f_callClass, .int f_callSign, .ref r_callNumbers, .int f_mode, .int f_steps, .int f_waits, .int f_endKind, .int f_endNumber, .int f_endClass, .int f_endRule, .int (nI (f + 1)), .ref r_classOf, .ref r_methodOf, .ref r_at, .ref r_depth, .ref r_places, .int f_starts, .ref r_startClass, .ref r_startFrames])), (r_places, .inl (g 2, 1600, .inr (.inl d_places))), (r_depth, .inl (g 0, 40, .inl d_depth))])) (va_A [(h0, .inr (7, [.int f_callClass, .int f_callSign, .ref r_callNumbers, .int f_mode, .int f_steps, .int f_waits, .int f_endKind, .int f_endNumber, .int f_endClass, .int f_endRule, .int (nI (f + 1)), .ref r_classOf, .ref r_methodOf, .ref r_at, .ref r_depth, .ref r_places, .int f_starts, .ref r_startClass, .ref r_startFrames])), (r_places, .inl (g 2, 1600, .inr (.inl d_places))), (r_depth, .inl (g 0, 40, .inl d_depth))] sz)) 0 0 (va_A [(h0, .inr (7, [.int f_callClass, .int f_callSign, .ref r_callNumbers, .int f_mode, .int f_steps, .int f_waits, .int f_endKind, .int f_endNumber, .int f_endClass, .int f_endRule, .int (nI (f + 1)), .ref r_classOf, .ref r_methodOf, .ref r_at, .ref r_depth, .ref r_places, .int f_starts, .ref r_startClass, .ref r_startFrames])), (r_places, .inl (g 2, 1600, .inr (.inl d_places))), (r_depth, .inl (g 0, 40, .inl d_depth))] sz) := by
  refine ofL (by decide +kernel) (Nat.le_of_ble_eq_true rfl) ?_
  intro p e s m args below meth c A Q ls H locs G hsz hP hD hS hl hret
  subst hsz
  have hl : lv_has ls 2 [(0, .ref h0), (1, .int (nI i))] := hl
  refine lv_aload_n G.1 G.2.1 d_Ru_fromTop_0 rfl (lv_at hl 0 rfl) ?_
  refine kg (ci := 7) G iRu hP 0 rfl rfl 15 (by decide) q1020 rfl rfl d_Ru_fromTop_1 ?_
  refine lv_aload_n G.1 G.2.1 d_Ru_fromTop_4 rfl (lv_at hl 0 rfl) ?_
  refine kg (ci := 7) G iRu hP 0 rfl rfl 10 (by decide) q1005 rfl rfl d_Ru_fromTop_5 ?_
  refine lv_iconst (v := nI 1) G.1 G.2.1 d_Ru_fromTop_8 (by decide) ?_
  refine lv_isub G.1 G.2.1 d_Ru_fromTop_9 ?_
  refine tpi (w := nI f) ((pk_sub (by omega)).trans (congrArg nI (by omega))) ?_
  refine lv_bipush (v := nI 40) G.1 G.2.1 d_Ru_fromTop_10 (by decide) ?_
  refine lv_imul G.1 G.2.1 d_Ru_fromTop_12 ?_
  refine tpi (w := nI (f * 40)) (pk_mul _ _) ?_
  refine lv_bipush (v := nI 20) G.1 G.2.1 d_Ru_fromTop_13 (by decide) ?_
  refine lv_iadd G.1 G.2.1 d_Ru_fromTop_15 ?_
  refine tpi (w := nI (f * 40 + 20)) (nI_add _ _) ?_
  refine lv_aload_n G.1 G.2.1 d_Ru_fromTop_16 rfl (lv_at hl 0 rfl) ?_
  refine W.eq (g2 := F0 m 17 ls [.ref h0, .int (nI (f * 40 + 20)), .ref r_places]) rfl ?_
  refine kg (ci := 7) G iRu hP 0 rfl rfl 14 (by decide) q1017 rfl rfl d_Ru_fromTop_17 ?_
  refine lv_aload_n G.1 G.2.1 d_Ru_fromTop_20 rfl (lv_at hl 0 rfl) ?_
  refine kg (ci := 7) G iRu hP 0 rfl rfl 10 (by decide) q1005 rfl rfl d_Ru_fromTop_21 ?_
  refine lv_iconst (v := nI 1) G.1 G.2.1 d_Ru_fromTop_24 (by decide) ?_
  refine lv_isub G.1 G.2.1 d_Ru_fromTop_25 ?_
  refine tpi (w := nI f) ((pk_sub (by omega)).trans (congrArg nI (by omega))) ?_
  refine kiald G hP 2 0 rfl rfl (by omega) (by omega) d_Ru_fromTop_26 ?_
  refine tpi (w := nI e9) hd ?_
  refine lv_iadd G.1 G.2.1 d_Ru_fromTop_27 ?_
  refine tpi (w := nI (f * 40 + 20 + e9)) (nI_add _ _) ?_
  refine lv_iconst (v := nI 1) G.1 G.2.1 d_Ru_fromTop_28 (by decide) ?_
  refine lv_isub G.1 G.2.1 d_Ru_fromTop_29 ?_
  refine tpi (w := nI (f * 40 + 20 + e9 - 1)) (pk_sub (by omega)) ?_
  refine lv_iload_n G.1 G.2.1 d_Ru_fromTop_30 rfl (lv_at hl 1 rfl) ?_
  refine lv_isub G.1 G.2.1 d_Ru_fromTop_31 ?_
  refine tpi (w := nI (f * 40 + 20 + e9 - 1 - i)) (pk_sub (by omega)) ?_
  refine klald G hP 1 2 rfl rfl (by omega) (by omega) d_Ru_fromTop_32 ?_
  refine W.eq (g2 := F0 m 33 ls [.long (d_places (f * 40 + 20 + e9 - 1 - i))]) rfl ?_
  refine hret (d_places (f * 40 + 20 + e9 - 1 - i)) () _ _ _ _ _ ls rfl (hP.sub [0, 1, 2] rfl) (hD.sub [0, 1, 2] (by decide) rfl) hS (Nat.le_of_ble_eq_true rfl) (Nat.le_of_ble_eq_true rfl) d_Ru_fromTop_33
def y_Ru_pop : MethodName := ⟨"ClassWorks$Runner", "pop", "()J"⟩
abbrev b_Ru_pop : ByteArray := prog_9_method_10_code
theorem d_Ru_pop_0 : decode b_Ru_pop 0 = .ok (.aload_n 0, 1) := by decide +kernel
theorem d_Ru_pop_1 : decode b_Ru_pop 1 = .ok (.getfield 56, 3) := by decide +kernel
theorem d_Ru_pop_4 : decode b_Ru_pop 4 = .ok (.aload_n 0, 1) := by decide +kernel
theorem d_Ru_pop_5 : decode b_Ru_pop 5 = .ok (.getfield 44, 3) := by decide +kernel
theorem d_Ru_pop_8 : decode b_Ru_pop 8 = .ok (.iconst 1, 1) := by decide +kernel
theorem d_Ru_pop_9 : decode b_Ru_pop 9 = .ok (.isub, 1) := by decide +kernel
theorem d_Ru_pop_10 : decode b_Ru_pop 10 = .ok (.dup2, 1) := by decide +kernel
theorem d_Ru_pop_11 : decode b_Ru_pop 11 = .ok (.iaload, 1) := by decide +kernel
theorem d_Ru_pop_12 : decode b_Ru_pop 12 = .ok (.iconst 1, 1) := by decide +kernel
theorem d_Ru_pop_13 : decode b_Ru_pop 13 = .ok (.isub, 1) := by decide +kernel
theorem d_Ru_pop_14 : decode b_Ru_pop 14 = .ok (.iastore, 1) := by decide +kernel
theorem d_Ru_pop_15 : decode b_Ru_pop 15 = .ok (.aload_n 0, 1) := by decide +kernel
theorem d_Ru_pop_16 : decode b_Ru_pop 16 = .ok (.getfield 59, 3) := by decide +kernel
theorem d_Ru_pop_19 : decode b_Ru_pop 19 = .ok (.aload_n 0, 1) := by decide +kernel
theorem d_Ru_pop_20 : decode b_Ru_pop 20 = .ok (.getfield 44, 3) := by decide +kernel
theorem d_Ru_pop_23 : decode b_Ru_pop 23 = .ok (.iconst 1, 1) := by decide +kernel
theorem d_Ru_pop_24 : decode b_Ru_pop 24 = .ok (.isub, 1) := by decide +kernel
theorem d_Ru_pop_25 : decode b_Ru_pop 25 = .ok (.bipush 40, 2) := by decide +kernel
theorem d_Ru_pop_27 : decode b_Ru_pop 27 = .ok (.imul, 1) := by decide +kernel
theorem d_Ru_pop_28 : decode b_Ru_pop 28 = .ok (.bipush 20, 2) := by decide +kernel
theorem d_Ru_pop_30 : decode b_Ru_pop 30 = .ok (.iadd, 1) := by decide +kernel
theorem d_Ru_pop_31 : decode b_Ru_pop 31 = .ok (.aload_n 0, 1) := by decide +kernel
theorem d_Ru_pop_32 : decode b_Ru_pop 32 = .ok (.getfield 56, 3) := by decide +kernel
theorem d_Ru_pop_35 : decode b_Ru_pop 35 = .ok (.aload_n 0, 1) := by decide +kernel
theorem d_Ru_pop_36 : decode b_Ru_pop 36 = .ok (.getfield 44, 3) := by decide +kernel
theorem d_Ru_pop_39 : decode b_Ru_pop 39 = .ok (.iconst 1, 1) := by decide +kernel
theorem d_Ru_pop_40 : decode b_Ru_pop 40 = .ok (.isub, 1) := by decide +kernel
theorem d_Ru_pop_41 : decode b_Ru_pop 41 = .ok (.iaload, 1) := by decide +kernel
theorem d_Ru_pop_42 : decode b_Ru_pop 42 = .ok (.iadd, 1) := by decide +kernel
theorem d_Ru_pop_43 : decode b_Ru_pop 43 = .ok (.laload, 1) := by decide +kernel
theorem d_Ru_pop_44 : decode b_Ru_pop 44 = .ok (.lreturn, 1) := by decide +kernel
abbrev rm_Ru_pop : Room := { frames := 0, cells := 0, slots := 0, locals := 0 }
set_option maxHeartbeats 4000000 in
set_option maxRecDepth 100000 in
/-- pop() -/
theorem c_Ru_pop (l : Launch) (D : va_G) (g : Nat → ClassId) (h0 : Nat) (f_callClass : Int32) (f_callSign : Int32) (r_callNumbers : Nat) (f_mode : Int32) (f_steps : Int32) (f_waits : Int32) (f_endKind : Int32) (f_endNumber : Int32) (f_endClass : Int32) (f_endRule : Int32) (r_classOf : Nat) (r_methodOf : Nat) (r_at : Nat) (r_depth : Nat) (r_places : Nat) (f_starts : Int32) (r_startClass : Nat) (r_startFrames : Nat) (d_places : Nat → Int64) (d_depth : Nat → Int32) (f e9 : Nat) (sz : Nat) (hf : f < 40) (hd : d_depth f = nI (e9 + 1)) (he : e9 < 20) : Met l y_Ru_pop (mw y_Ru_pop b_Ru_pop 1 (some (.long))) (rm_Ru_pop) (PC g D [] [.ref h0] sz [(h0, .inr (7, [.int f_callClass, .int f_callSign, .ref r_callNumbers, .int f_mode, .int f_steps, .int f_waits, .int f_endKind, .int f_endNumber, .int f_endClass, .int f_endRule, .int (nI (f + 1)), .ref r_classOf, .ref r_methodOf, .ref r_at, .ref r_depth, .ref r_places, .int f_starts, .ref r_startClass, .ref r_startFrames])), (r_places, .inl (g 2, 1600, .inr (.inl d_places))), (r_depth, .inl (g 0, 40, .inl d_depth))]) (va_Ql (fun (r : Int64) (u : Unit) => r = d_places (f * 40 + 20 + e9)) (QW D (va_A [(h0, .inr (7, [.int f_callClass, .int f_callSign, .ref r_callNumbers, .int f_mode, .int f_steps, .int f_waits, .int f_endKind, .int f_endNumber, .int f_endClass, .int f_endRule, .int (nI (f + 1)), .ref r_classOf, .ref r_methodOf, .ref r_at, .ref r_depth, .ref r_places, .int f_starts, .ref r_startClass, .ref r_startFrames])), (r_places, .inl (g 2, 1600, .inr (.inl d_places))), (r_depth, .inl (g 0, 40, .inl d_depth))] sz) (fun u : Unit => [(h0, .inr (7, [.int f_callClass, .int f_callSign, .ref r_callNumbers, .int f_mode, .int f_steps, .int f_waits, .int f_endKind, .int f_endNumber, .int f_endClass, .int f_endRule, .int (nI (f + 1)), .ref r_classOf, .ref r_methodOf, .ref r_at, .ref r_depth, .ref r_places, .int f_starts, .ref r_startClass, .ref r_startFrames])), (r_places, .inl (g 2, 1600, .inr (.inl d_places))), (r_depth, .inl (g 0, 40, .inl (upd d_depth f (nI e9))))])) (va_A [(h0, .inr (7, [.int f_callClass, .int f_callSign, .ref r_callNumbers, .int f_mode, .int f_steps, .int f_waits, .int f_endKind, .int f_endNumber, .int f_endClass, .int f_endRule, .int (nI (f + 1)), .ref r_classOf, .ref r_methodOf, .ref r_at, .ref r_depth, .ref r_places, .int f_starts, .ref r_startClass, .ref r_startFrames])), (r_places, .inl (g 2, 1600, .inr (.inl d_places))), (r_depth, .inl (g 0, 40, .inl d_depth))] sz)) 0 0 (va_A [(h0, .inr (7, [.int f_callClass, .int f_callSign, .ref r_callNumbers, .int f_mode, .int f_steps, .int f_waits, .int f_endKind, .int f_endNumber, .int f_endClass, .int f_endRule, .int (nI (f + 1)), .ref r_classOf, .ref r_methodOf, .ref r_at, .ref r_depth, .ref r_places, .int f_starts, .ref r_startClass, .ref r_startFrames])), (r_places, .inl (g 2, 1600, .inr (.inl d_places))), (r_depth, .inl (g 0, 40, .inl d_depth))] sz) := by
  refine ofL (by decide +kernel) (Nat.le_of_ble_eq_true rfl) ?_
  intro p e s m args below meth c A Q ls H locs G hsz hP hD hS hl hret
  subst hsz
  have hl : lv_has ls 1 [(0, .ref h0)] := hl
  refine lv_aload_n G.1 G.2.1 d_Ru_pop_0 rfl (lv_at hl 0 rfl) ?_
  refine kg (ci := 7) G iRu hP 0 rfl rfl 14 (by decide) q1017 rfl rfl d_Ru_pop_1 ?_
  refine lv_aload_n G.1 G.2.1 d_Ru_pop_4 rfl (lv_at hl 0 rfl) ?_
  refine kg (ci := 7) G iRu hP 0 rfl rfl 10 (by decide) q1005 rfl rfl d_Ru_pop_5 ?_
  refine lv_iconst (v := nI 1) G.1 G.2.1 d_Ru_pop_8 (by decide) ?_
  refine lv_isub G.1 G.2.1 d_Ru_pop_9 ?_
  refine tpi (w := nI f) ((pk_sub (by omega)).trans (congrArg nI (by omega))) ?_
  refine lv_dup2_11 G.1 G.2.1 d_Ru_pop_10 rfl rfl ?_
  refine kiald G hP 2 0 rfl rfl (by omega) (by omega) d_Ru_pop_11 ?_
  refine tpi (w := nI (e9 + 1)) hd ?_
  refine lv_iconst (v := nI 1) G.1 G.2.1 d_Ru_pop_12 (by decide) ?_
  refine lv_isub G.1 G.2.1 d_Ru_pop_13 ?_
  refine tpi (w := nI e9) ((pk_sub (by omega)).trans (congrArg nI (by omega))) ?_
  refine kiast G hP hD hS 2 0 rfl rfl (by omega) (by omega) d_Ru_pop_14 (fun H locs hP hD hS => ?_)
  have hP : va_P D CL [(h0, .inr (7, [.int f_callClass, .int f_callSign, .ref r_callNumbers, .int f_mode, .int f_steps, .int f_waits, .int f_endKind, .int f_endNumber, .int f_endClass, .int f_endRule, .int (nI (f + 1)), .ref r_classOf, .ref r_methodOf, .ref r_at, .ref r_depth, .ref r_places, .int f_starts, .ref r_startClass, .ref r_startFrames])), (r_places, .inl (g 2, 1600, .inr (.inl d_places))), (r_depth, .inl (g 0, 40, .inl (upd d_depth f (nI e9))))] H := hP
  have hD : va_D A [(h0, .inr (7, [.int f_callClass, .int f_callSign, .ref r_callNumbers, .int f_mode, .int f_steps, .int f_waits, .int f_endKind, .int f_endNumber, .int f_endClass, .int f_endRule, .int (nI (f + 1)), .ref r_classOf, .ref r_methodOf, .ref r_at, .ref r_depth, .ref r_places, .int f_starts, .ref r_startClass, .ref r_startFrames])), (r_places, .inl (g 2, 1600, .inr (.inl d_places))), (r_depth, .inl (g 0, 40, .inl (upd d_depth f (nI e9))))] := hD
  refine W.eq (g2 := F0 m 15 ls []) rfl ?_
  refine lv_aload_n G.1 G.2.1 d_Ru_pop_15 rfl (lv_at hl 0 rfl) ?_
  refine kg (ci := 7) G iRu hP 0 rfl rfl 15 (by decide) q1020 rfl rfl d_Ru_pop_16 ?_
  refine lv_aload_n G.1 G.2.1 d_Ru_pop_19 rfl (lv_at hl 0 rfl) ?_
  refine kg (ci := 7) G iRu hP 0 rfl rfl 10 (by decide) q1005 rfl rfl d_Ru_pop_20 ?_
  refine lv_iconst (v := nI 1) G.1 G.2.1 d_Ru_pop_23 (by decide) ?_
  refine lv_isub G.1 G.2.1 d_Ru_pop_24 ?_
  refine tpi (w := nI f) ((pk_sub (by omega)).trans (congrArg nI (by omega))) ?_
  refine lv_bipush (v := nI 40) G.1 G.2.1 d_Ru_pop_25 (by decide) ?_
  refine lv_imul G.1 G.2.1 d_Ru_pop_27 ?_
  refine tpi (w := nI (f * 40)) (pk_mul _ _) ?_
  refine lv_bipush (v := nI 20) G.1 G.2.1 d_Ru_pop_28 (by decide) ?_
  refine lv_iadd G.1 G.2.1 d_Ru_pop_30 ?_
  refine tpi (w := nI (f * 40 + 20)) (nI_add _ _) ?_
  refine lv_aload_n G.1 G.2.1 d_Ru_pop_31 rfl (lv_at hl 0 rfl) ?_
  refine kg (ci := 7) G iRu hP 0 rfl rfl 14 (by decide) q1017 rfl rfl d_Ru_pop_32 ?_
  refine W.eq (g2 := F0 m 35 ls [.ref r_depth, .int (nI (f * 40 + 20)), .ref r_places]) rfl ?_
  refine lv_aload_n G.1 G.2.1 d_Ru_pop_35 rfl (lv_at hl 0 rfl) ?_
  refine kg (ci := 7) G iRu hP 0 rfl rfl 10 (by decide) q1005 rfl rfl d_Ru_pop_36 ?_
  refine lv_iconst (v := nI 1) G.1 G.2.1 d_Ru_pop_39 (by decide) ?_
  refine lv_isub G.1 G.2.1 d_Ru_pop_40 ?_
  refine tpi (w := nI f) ((pk_sub (by omega)).trans (congrArg nI (by omega))) ?_
  refine kiald G hP 2 0 rfl rfl (by omega) (by omega) d_Ru_pop_41 ?_
  refine tpi (w := nI e9) (by simp [upd]) ?_
  refine lv_iadd G.1 G.2.1 d_Ru_pop_42 ?_
  refine tpi (w := nI (f * 40 + 20 + e9)) (nI_add _ _) ?_
  refine klald G hP 1 2 rfl rfl (by omega) (by omega) d_Ru_pop_43 ?_
  refine hret (d_places (f * 40 + 20 + e9)) () _ _ _ _ _ ls rfl (hP.sub [0, 1, 2] rfl) (hD.sub [0, 1, 2] (by decide) rfl) hS (Nat.le_of_ble_eq_true rfl) (Nat.le_of_ble_eq_true rfl) d_Ru_pop_44
def y_Ru_push : MethodName := ⟨"ClassWorks$Runner", "push", "(J)V"⟩
abbrev b_Ru_push : ByteArray := prog_9_method_12_code
theorem d_Ru_push_0 : decode b_Ru_push 0 = .ok (.aload_n 0, 1) := by decide +kernel
theorem d_Ru_push_1 : decode b_Ru_push 1 = .ok (.getfield 59, 3) := by decide +kernel
theorem d_Ru_push_4 : decode b_Ru_push 4 = .ok (.aload_n 0, 1) := by decide +kernel
theorem d_Ru_push_5 : decode b_Ru_push 5 = .ok (.getfield 44, 3) := by decide +kernel
theorem d_Ru_push_8 : decode b_Ru_push 8 = .ok (.iconst 1, 1) := by decide +kernel
theorem d_Ru_push_9 : decode b_Ru_push 9 = .ok (.isub, 1) := by decide +kernel
theorem d_Ru_push_10 : decode b_Ru_push 10 = .ok (.bipush 40, 2) := by decide +kernel
theorem d_Ru_push_12 : decode b_Ru_push 12 = .ok (.imul, 1) := by decide +kernel
theorem d_Ru_push_13 : decode b_Ru_push 13 = .ok (.bipush 20, 2) := by decide +kernel
theorem d_Ru_push_15 : decode b_Ru_push 15 = .ok (.iadd, 1) := by decide +kernel
theorem d_Ru_push_16 : decode b_Ru_push 16 = .ok (.aload_n 0, 1) := by decide +kernel
theorem d_Ru_push_17 : decode b_Ru_push 17 = .ok (.getfield 56, 3) := by decide +kernel
theorem d_Ru_push_20 : decode b_Ru_push 20 = .ok (.aload_n 0, 1) := by decide +kernel
theorem d_Ru_push_21 : decode b_Ru_push 21 = .ok (.getfield 44, 3) := by decide +kernel
theorem d_Ru_push_24 : decode b_Ru_push 24 = .ok (.iconst 1, 1) := by decide +kernel
theorem d_Ru_push_25 : decode b_Ru_push 25 = .ok (.isub, 1) := by decide +kernel
theorem d_Ru_push_26 : decode b_Ru_push 26 = .ok (.iaload, 1) := by decide +kernel
theorem d_Ru_push_27 : decode b_Ru_push 27 = .ok (.iadd, 1) := by decide +kernel
theorem d_Ru_push_28 : decode b_Ru_push 28 = .ok (.lload_n 1, 1) := by decide +kernel
theorem d_Ru_push_29 : decode b_Ru_push 29 = .ok (.lastore, 1) := by decide +kernel
theorem d_Ru_push_30 : decode b_Ru_push 30 = .ok (.aload_n 0, 1) := by decide +kernel
theorem d_Ru_push_31 : decode b_Ru_push 31 = .ok (.getfield 56, 3) := by decide +kernel
theorem d_Ru_push_34 : decode b_Ru_push 34 = .ok (.aload_n 0, 1) := by decide +kernel
theorem d_Ru_push_35 : decode b_Ru_push 35 = .ok (.getfield 44, 3) := by decide +kernel
theorem d_Ru_push_38 : decode b_Ru_push 38 = .ok (.iconst 1, 1) := by decide +kernel
theorem d_Ru_push_39 : decode b_Ru_push 39 = .ok (.isub, 1) := by decide +kernel
theorem d_Ru_push_40 : decode b_Ru_push 40 = .ok (.dup2, 1) := by decide +kernel
theorem d_Ru_push_41 : decode b_Ru_push 41 = .ok (.iaload, 1) := by decide +kernel
theorem d_Ru_push_42 : decode b_Ru_push 42 = .ok (.iconst 1, 1) := by decide +kernel
theorem d_Ru_push_43 : decode b_Ru_push 43 = .ok (.iadd, 1) := by decide +kernel
theorem d_Ru_push_44 : decode b_Ru_push 44 = .ok (.iastore, 1) := by decide +kernel
theorem d_Ru_push_45 : decode b_Ru_push 45 = .ok (.return_, 1) := by decide +kernel
abbrev rm_Ru_push : Room := { frames := 0, cells := 0, slots := 0, locals := 0 }
set_option maxHeartbeats 4000000 in
set_option maxRecDepth 100000 in
/-- push(v) -/
theorem c_Ru_push (l : Launch) (D : va_G) (g : Nat → ClassId) (h0 : Nat) (v : Int64) (f_callClass : Int32) (f_callSign : Int32) (r_callNumbers : Nat) (f_mode : Int32) (f_steps : Int32) (f_waits : Int32) (f_endKind : Int32) (f_endNumber : Int32) (f_endClass : Int32) (f_endRule : Int32) (r_classOf : Nat) (r_methodOf : Nat) (r_at : Nat) (r_depth : Nat) (r_places : Nat) (f_starts : Int32) (r_startClass : Nat) (r_startFrames : Nat) (d_places : Nat → Int64) (d_depth : Nat → Int32) (f e9 : Nat) (sz : Nat) (hf : f < 40) (hd : d_depth f = nI e9) (he : e9 < 20) : Met l y_Ru_push (mw y_Ru_push b_Ru_push 3 (none)) (rm_Ru_push) (PC g D [] [.ref h0, .long v] sz [(h0, .inr (7, [.int f_callClass, .int f_callSign, .ref r_callNumbers, .int f_mode, .int f_steps, .int f_waits, .int f_endKind, .int f_endNumber, .int f_endClass, .int f_endRule, .int (nI (f + 1)), .ref r_classOf, .ref r_methodOf, .ref r_at, .ref r_depth, .ref r_places, .int f_starts, .ref r_startClass, .ref r_startFrames])), (r_places, .inl (g 2, 1600, .inr (.inl d_places))), (r_depth, .inl (g 0, 40, .inl d_depth))]) (va_Qv (fun u : Unit => True) (QW D (va_A [(h0, .inr (7, [.int f_callClass, .int f_callSign, .ref r_callNumbers, .int f_mode, .int f_steps, .int f_waits, .int f_endKind, .int f_endNumber, .int f_endClass, .int f_endRule, .int (nI (f + 1)), .ref r_classOf, .ref r_methodOf, .ref r_at, .ref r_depth, .ref r_places, .int f_starts, .ref r_startClass, .ref r_startFrames])), (r_places, .inl (g 2, 1600, .inr (.inl d_places))), (r_depth, .inl (g 0, 40, .inl d_depth))] sz) (fun u : Unit => [(h0, .inr (7, [.int f_callClass, .int f_callSign, .ref r_callNumbers, .int f_mode, .int f_steps, .int f_waits, .int f_endKind, .int f_endNumber, .int f_endClass, .int f_endRule, .int (nI (f + 1)), .ref r_classOf, .ref r_methodOf, .ref r_at, .ref r_depth, .ref r_places, .int f_starts, .ref r_startClass, .ref r_startFrames])), (r_places, .inl (g 2, 1600, .inr (.inl (vp_updL d_places (f * 40 + 20 + e9) v)))), (r_depth, .inl (g 0, 40, .inl (upd d_depth f (nI (e9 + 1)))))])) (va_A [(h0, .inr (7, [.int f_callClass, .int f_callSign, .ref r_callNumbers, .int f_mode, .int f_steps, .int f_waits, .int f_endKind, .int f_endNumber, .int f_endClass, .int f_endRule, .int (nI (f + 1)), .ref r_classOf, .ref r_methodOf, .ref r_at, .ref r_depth, .ref r_places, .int f_starts, .ref r_startClass, .ref r_startFrames])), (r_places, .inl (g 2, 1600, .inr (.inl d_places))), (r_depth, .inl (g 0, 40, .inl d_depth))] sz)) 0 0 (va_A [(h0, .inr (7, [.int f_callClass, .int f_callSign, .ref r_callNumbers, .int f_mode, .int f_steps, .int f_waits, .int f_endKind, .int f_endNumber, .int f_endClass, .int f_endRule, .int (nI (f + 1)), .ref r_classOf, .ref r_methodOf, .ref r_at, .ref r_depth, .ref r_places, .int f_starts, .ref r_startClass, .ref r_startFrames])), (r_places, .inl (g 2, 1600, .inr (.inl d_places))), (r_depth, .inl (g 0, 40, .inl d_depth))] sz) := by
  refine ofV (by decide +kernel) (Nat.le_of_ble_eq_true rfl) ?_
  intro p e s m args below meth c A Q ls H locs G hsz hP hD hS hl hret
  subst hsz
  have hl : lv_has ls 3 [(0, .ref h0), (1, .long v)] := hl
  refine lv_aload_n G.1 G.2.1 d_Ru_push_0 rfl (lv_at hl 0 rfl) ?_
  refine kg (ci := 7) G iRu hP 0 rfl rfl 15 (by decide) q1020 rfl rfl d_Ru_push_1 ?_
  refine lv_aload_n G.1 G.2.1 d_Ru_push_4 rfl (lv_at hl 0 rfl) ?_
  refine kg (ci := 7) G iRu hP 0 rfl rfl 10 (by decide) q1005 rfl rfl d_Ru_push_5 ?_
  refine lv_iconst (v := nI 1) G.1 G.2.1 d_Ru_push_8 (by decide) ?_
  refine lv_isub G.1 G.2.1 d_Ru_push_9 ?_
  refine tpi (w := nI f) ((pk_sub (by omega)).trans (congrArg nI (by omega))) ?_
  refine lv_bipush (v := nI 40) G.1 G.2.1 d_Ru_push_10 (by decide) ?_
  refine lv_imul G.1 G.2.1 d_Ru_push_12 ?_
  refine tpi (w := nI (f * 40)) (pk_mul _ _) ?_
  refine lv_bipush (v := nI 20) G.1 G.2.1 d_Ru_push_13 (by decide) ?_
  refine lv_iadd G.1 G.2.1 d_Ru_push_15 ?_
  refine tpi (w := nI (f * 40 + 20)) (nI_add _ _) ?_
  refine lv_aload_n G.1 G.2.1 d_Ru_push_16 rfl (lv_at hl 0 rfl) ?_
  refine W.eq (g2 := F0 m 17 ls [.ref h0, .int (nI (f * 40 + 20)), .ref r_places]) rfl ?_
  refine kg (ci := 7) G iRu hP 0 rfl rfl 14 (by decide) q1017 rfl rfl d_Ru_push_17 ?_
  refine lv_aload_n G.1 G.2.1 d_Ru_push_20 rfl (lv_at hl 0 rfl) ?_
  refine kg (ci := 7) G iRu hP 0 rfl rfl 10 (by decide) q1005 rfl rfl d_Ru_push_21 ?_
  refine lv_iconst (v := nI 1) G.1 G.2.1 d_Ru_push_24 (by decide) ?_
  refine lv_isub G.1 G.2.1 d_Ru_push_25 ?_
  refine tpi (w := nI f) ((pk_sub (by omega)).trans (congrArg nI (by omega))) ?_
  refine kiald G hP 2 0 rfl rfl (by omega) (by omega) d_Ru_push_26 ?_
  refine tpi (w := nI e9) hd ?_
  refine lv_iadd G.1 G.2.1 d_Ru_push_27 ?_
  refine tpi (w := nI (f * 40 + 20 + e9)) (nI_add _ _) ?_
  refine lv_lload_n G.1 G.2.1 d_Ru_push_28 rfl (lv_at hl 1 rfl) ?_
  refine klast G hP hD hS 1 2 rfl rfl (by omega) (by omega) d_Ru_push_29 (fun H locs hP hD hS => ?_)
  have hP : va_P D CL [(h0, .inr (7, [.int f_callClass, .int f_callSign, .ref r_callNumbers, .int f_mode, .int f_steps, .int f_waits, .int f_endKind, .int f_endNumber, .int f_endClass, .int f_endRule, .int (nI (f + 1)), .ref r_classOf, .ref r_methodOf, .ref r_at, .ref r_depth, .ref r_places, .int f_starts, .ref r_startClass, .ref r_startFrames])), (r_places, .inl (g 2, 1600, .inr (.inl (vp_updL d_places (f * 40 + 20 + e9) v)))), (r_depth, .inl (g 0, 40, .inl d_depth))] H := hP
  have hD : va_D A [(h0, .inr (7, [.int f_callClass, .int f_callSign, .ref r_callNumbers, .int f_mode, .int f_steps, .int f_waits, .int f_endKind, .int f_endNumber, .int f_endClass, .int f_endRule, .int (nI (f + 1)), .ref r_classOf, .ref r_methodOf, .ref r_at, .ref r_depth, .ref r_places, .int f_starts, .ref r_startClass, .ref r_startFrames])), (r_places, .inl (g 2, 1600, .inr (.inl (vp_updL d_places (f * 40 + 20 + e9) v)))), (r_depth, .inl (g 0, 40, .inl d_depth))] := hD
  refine lv_aload_n G.1 G.2.1 d_Ru_push_30 rfl (lv_at hl 0 rfl) ?_
  refine kg (ci := 7) G iRu hP 0 rfl rfl 14 (by decide) q1017 rfl rfl d_Ru_push_31 ?_
  refine lv_aload_n G.1 G.2.1 d_Ru_push_34 rfl (lv_at hl 0 rfl) ?_
  refine W.eq (g2 := F0 m 35 ls [.ref h0, .ref r_depth]) rfl ?_
  refine kg (ci := 7) G iRu hP 0 rfl rfl 10 (by decide) q1005 rfl rfl d_Ru_push_35 ?_
  refine lv_iconst (v := nI 1) G.1 G.2.1 d_Ru_push_38 (by decide) ?_
  refine lv_isub G.1 G.2.1 d_Ru_push_39 ?_
  refine tpi (w := nI f) ((pk_sub (by omega)).trans (congrArg nI (by omega))) ?_
  refine lv_dup2_11 G.1 G.2.1 d_Ru_push_40 rfl rfl ?_
  refine kiald G hP 2 0 rfl rfl (by omega) (by omega) d_Ru_push_41 ?_
  refine tpi (w := nI e9) hd ?_
  refine lv_iconst (v := nI 1) G.1 G.2.1 d_Ru_push_42 (by decide) ?_
  refine lv_iadd G.1 G.2.1 d_Ru_push_43 ?_
  refine tpi (w := nI (e9 + 1)) (nI_add _ _) ?_
  refine kiast G hP hD hS 2 0 rfl rfl (by omega) (by omega) d_Ru_push_44 (fun H locs hP hD hS => ?_)
  have hP : va_P D CL [(h0, .inr (7, [.int f_callClass, .int f_callSign, .ref r_callNumbers, .int f_mode, .int f_steps, .int f_waits, .int f_endKind, .int f_endNumber, .int f_endClass, .int f_endRule, .int (nI (f + 1)), .ref r_classOf, .ref r_methodOf, .ref r_at, .ref r_depth, .ref r_places, .int f_starts, .ref r_startClass, .ref r_startFrames])), (r_places, .inl (g 2, 1600, .inr (.inl (vp_updL d_places (f * 40 + 20 + e9) v)))), (r_depth, .inl (g 0, 40, .inl (upd d_depth f (nI (e9 + 1)))))] H := hP
  have hD : va_D A [(h0, .inr (7, [.int f_callClass, .int f_callSign, .ref r_callNumbers, .int f_mode, .int f_steps, .int f_waits, .int f_endKind, .int f_endNumber, .int f_endClass, .int f_endRule, .int (nI (f + 1)), .ref r_classOf, .ref r_methodOf, .ref r_at, .ref r_depth, .ref r_places, .int f_starts, .ref r_startClass, .ref r_startFrames])), (r_places, .inl (g 2, 1600, .inr (.inl (vp_updL d_places (f * 40 + 20 + e9) v)))), (r_depth, .inl (g 0, 40, .inl (upd d_depth f (nI (e9 + 1)))))] := hD
  refine hret () _ _ _ _ _ ls trivial (hP.sub [0, 1, 2] rfl) (hD.sub [0, 1, 2] (by decide) rfl) hS (Nat.le_of_ble_eq_true rfl) (Nat.le_of_ble_eq_true rfl) d_Ru_push_45
def y_Ru_on : MethodName := ⟨"ClassWorks$Runner", "on", "()Z"⟩
abbrev b_Ru_on : ByteArray := prog_9_method_4_code
theorem q985 : Cond.fieldLink "ClassWorks$Runner" 22 "ClassWorks$Runner" "mode" "I" ∈ lw_ok := lw_okmem (List.mem_of_getElem? (i := 985) (by decide +kernel)) rfl
theorem d_Ru_on_0 : decode b_Ru_on 0 = .ok (.aload_n 0, 1) := by decide +kernel
theorem d_Ru_on_1 : decode b_Ru_on 1 = .ok (.getfield 22, 3) := by decide +kernel
theorem d_Ru_on_4 : decode b_Ru_on 4 = .ok (.iconst 1, 1) := by decide +kernel
theorem d_Ru_on_5 : decode b_Ru_on 5 = .ok (.if_icmp .ne 7, 3) := by decide +kernel
theorem d_Ru_on_8 : decode b_Ru_on 8 = .ok (.iconst 1, 1) := by decide +kernel
theorem d_Ru_on_9 : decode b_Ru_on 9 = .ok (.goto 4, 3) := by decide +kernel
theorem d_Ru_on_12 : decode b_Ru_on 12 = .ok (.iconst 0, 1) := by decide +kernel
theorem d_Ru_on_13 : decode b_Ru_on 13 = .ok (.ireturn, 1) := by decide +kernel
abbrev rm_Ru_on : Room := { frames := 0, cells := 0, slots := 0, locals := 0 }
set_option maxHeartbeats 4000000 in
set_option maxRecDepth 100000 in
/-- on() -/
theorem c_Ru_on (l : Launch) (D : va_G) (g : Nat → ClassId) (h0 : Nat) (f_callClass : Int32) (f_callSign : Int32) (r_callNumbers : Nat) (f_mode : Int32) (f_steps : Int32) (f_waits : Int32) (f_endKind : Int32) (f_endNumber : Int32) (f_endClass : Int32) (f_endRule : Int32) (f_frames : Int32) (r_classOf : Nat) (r_methodOf : Nat) (r_at : Nat) (r_depth : Nat) (r_places : Nat) (f_starts : Int32) (r_startClass : Nat) (r_startFrames : Nat) (sz : Nat)  : Met l y_Ru_on (mw y_Ru_on b_Ru_on 1 (some (.boolean))) (rm_Ru_on) (PC g D [] [.ref h0] sz [(h0, .inr (7, [.int f_callClass, .int f_callSign, .ref r_callNumbers, .int f_mode, .int f_steps, .int f_waits, .int f_endKind, .int f_endNumber, .int f_endClass, .int f_endRule, .int f_frames, .ref r_classOf, .ref r_methodOf, .ref r_at, .ref r_depth, .ref r_places, .int f_starts, .ref r_startClass, .ref r_startFrames]))]) (va_Qi (fun (r : Int32) (u : Unit) => (r = 1 ∧ f_mode = nI 1) ∨ (r = 0 ∧ ¬ f_mode = nI 1)) (QW D (va_A [(h0, .inr (7, [.int f_callClass, .int f_callSign, .ref r_callNumbers, .int f_mode, .int f_steps, .int f_waits, .int f_endKind, .int f_endNumber, .int f_endClass, .int f_endRule, .int f_frames, .ref r_classOf, .ref r_methodOf, .ref r_at, .ref r_depth, .ref r_places, .int f_starts, .ref r_startClass, .ref r_startFrames]))] sz) (fun u : Unit => [(h0, .inr (7, [.int f_callClass, .int f_callSign, .ref r_callNumbers, .int f_mode, .int f_steps, .int f_waits, .int f_endKind, .int f_endNumber, .int f_endClass, .int f_endRule, .int f_frames, .ref r_classOf, .ref r_methodOf, .ref r_at, .ref r_depth, .ref r_places, .int f_starts, .ref r_startClass, .ref r_startFrames]))])) (va_A [(h0, .inr (7, [.int f_callClass, .int f_callSign, .ref r_callNumbers, .int f_mode, .int f_steps, .int f_waits, .int f_endKind, .int f_endNumber, .int f_endClass, .int f_endRule, .int f_frames, .ref r_classOf, .ref r_methodOf, .ref r_at, .ref r_depth, .ref r_places, .int f_starts, .ref r_startClass, .ref r_startFrames]))] sz)) 0 0 (va_A [(h0, .inr (7, [.int f_callClass, .int f_callSign, .ref r_callNumbers, .int f_mode, .int f_steps, .int f_waits, .int f_endKind, .int f_endNumber, .int f_endClass, .int f_endRule, .int f_frames, .ref r_classOf, .ref r_methodOf, .ref r_at, .ref r_depth, .ref r_places, .int f_starts, .ref r_startClass, .ref r_startFrames]))] sz) := by
  refine ofZ (by decide +kernel) (Nat.le_of_ble_eq_true rfl) ?_
  intro p e s m args below meth c A Q ls H locs G hsz hP hD hS hl hret
  subst hsz
  have hl : lv_has ls 1 [(0, .ref h0)] := hl
  refine lv_aload_n G.1 G.2.1 d_Ru_on_0 rfl (lv_at hl 0 rfl) ?_
  refine kg (ci := 7) G iRu hP 0 rfl rfl 3 (by decide) q985 rfl rfl d_Ru_on_1 ?_
  refine lv_iconst (v := nI 1) G.1 G.2.1 d_Ru_on_4 (by decide) ?_
  refine lv_icmp_ne (tgt := 12) G.1 G.2.1 d_Ru_on_5 (by decide) (fun c5 => ?_) (fun c5 => ?_)
  · skip
    refine lv_iconst (v := nI 0) G.1 G.2.1 d_Ru_on_12 (by decide) ?_
    refine hret (nI 0) () _ _ _ _ _ ls (by decide) (Or.inr ⟨rfl, c5⟩) (hP.sub [0] rfl) (hD.sub [0] (by decide) rfl) hS (Nat.le_of_ble_eq_true rfl) (Nat.le_of_ble_eq_true rfl) d_Ru_on_13
  · skip
    refine lv_iconst (v := nI 1) G.1 G.2.1 d_Ru_on_8 (by decide) ?_
    refine lv_goto (tgt := 13) G.1 G.2.1 d_Ru_on_9 (by decide) ?_
    refine hret (nI 1) () _ _ _ _ _ ls (by decide) (Or.inl ⟨rfl, c5⟩) (hP.sub [0] rfl) (hD.sub [0] (by decide) rfl) hS (Nat.le_of_ble_eq_true rfl) (Nat.le_of_ble_eq_true rfl) d_Ru_on_13
def y_Ru_startIsOpen : MethodName := ⟨"ClassWorks$Runner", "startIsOpen", "()Z"⟩
abbrev b_Ru_startIsOpen : ByteArray := prog_9_method_5_code
theorem q1021 : Cond.fieldLink "ClassWorks$Runner" 63 "ClassWorks$Runner" "starts" "I" ∈ lw_ok := lw_okmem (List.mem_of_getElem? (i := 1021) (by decide +kernel)) rfl
theorem q1025 : Cond.fieldLink "ClassWorks$Runner" 69 "ClassWorks$Runner" "startFrames" "[I" ∈ lw_ok := lw_okmem (List.mem_of_getElem? (i := 1025) (by decide +kernel)) rfl
theorem d_Ru_startIsOpen_0 : decode b_Ru_startIsOpen 0 = .ok (.aload_n 0, 1) := by decide +kernel
theorem d_Ru_startIsOpen_1 : decode b_Ru_startIsOpen 1 = .ok (.getfield 63, 3) := by decide +kernel
theorem d_Ru_startIsOpen_4 : decode b_Ru_startIsOpen 4 = .ok (.ifCond .le 25, 3) := by decide +kernel
theorem d_Ru_startIsOpen_7 : decode b_Ru_startIsOpen 7 = .ok (.aload_n 0, 1) := by decide +kernel
theorem d_Ru_startIsOpen_8 : decode b_Ru_startIsOpen 8 = .ok (.getfield 69, 3) := by decide +kernel
theorem d_Ru_startIsOpen_11 : decode b_Ru_startIsOpen 11 = .ok (.aload_n 0, 1) := by decide +kernel
theorem d_Ru_startIsOpen_12 : decode b_Ru_startIsOpen 12 = .ok (.getfield 63, 3) := by decide +kernel
theorem d_Ru_startIsOpen_15 : decode b_Ru_startIsOpen 15 = .ok (.iconst 1, 1) := by decide +kernel
theorem d_Ru_startIsOpen_16 : decode b_Ru_startIsOpen 16 = .ok (.isub, 1) := by decide +kernel
theorem d_Ru_startIsOpen_17 : decode b_Ru_startIsOpen 17 = .ok (.iaload, 1) := by decide +kernel
theorem d_Ru_startIsOpen_18 : decode b_Ru_startIsOpen 18 = .ok (.aload_n 0, 1) := by decide +kernel
theorem d_Ru_startIsOpen_19 : decode b_Ru_startIsOpen 19 = .ok (.getfield 44, 3) := by decide +kernel
theorem d_Ru_startIsOpen_22 : decode b_Ru_startIsOpen 22 = .ok (.if_icmp .ne 7, 3) := by decide +kernel
theorem d_Ru_startIsOpen_25 : decode b_Ru_startIsOpen 25 = .ok (.iconst 1, 1) := by decide +kernel
theorem d_Ru_startIsOpen_26 : decode b_Ru_startIsOpen 26 = .ok (.goto 4, 3) := by decide +kernel
theorem d_Ru_startIsOpen_29 : decode b_Ru_startIsOpen 29 = .ok (.iconst 0, 1) := by decide +kernel
theorem d_Ru_startIsOpen_30 : decode b_Ru_startIsOpen 30 = .ok (.ireturn, 1) := by decide +kernel
abbrev rm_Ru_startIsOpen : Room := { frames := 0, cells := 0, slots := 0, locals := 0 }
set_option maxHeartbeats 4000000 in
set_option maxRecDepth 100000 in
/-- startIsOpen() -/
theorem c_Ru_startIsOpen (l : Launch) (D : va_G) (g : Nat → ClassId) (h0 : Nat) (f_callClass : Int32) (f_callSign : Int32) (r_callNumbers : Nat) (f_mode : Int32) (f_steps : Int32) (f_waits : Int32) (f_endKind : Int32) (f_endNumber : Int32) (f_endClass : Int32) (f_endRule : Int32) (f_frames : Int32) (r_classOf : Nat) (r_methodOf : Nat) (r_at : Nat) (r_depth : Nat) (r_places : Nat) (ns : Nat) (r_startClass : Nat) (r_startFrames : Nat) (d_sf : Nat → Int32) (sz : Nat) (hs : ns ≤ 51) : Met l y_Ru_startIsOpen (mw y_Ru_startIsOpen b_Ru_startIsOpen 1 (some (.boolean))) (rm_Ru_startIsOpen) (PC g D [] [.ref h0] sz [(h0, .inr (7, [.int f_callClass, .int f_callSign, .ref r_callNumbers, .int f_mode, .int f_steps, .int f_waits, .int f_endKind, .int f_endNumber, .int f_endClass, .int f_endRule, .int f_frames, .ref r_classOf, .ref r_methodOf, .ref r_at, .ref r_depth, .ref r_places, .int (nI ns), .ref r_startClass, .ref r_startFrames])), (r_startFrames, .inl (g 0, 51, .inl d_sf))]) (va_Qi (fun (r : Int32) (u : Unit) => (r = 1 ∧ 0 < ns) ∨ r = 0) (QW D (va_A [(h0, .inr (7, [.int f_callClass, .int f_callSign, .ref r_callNumbers, .int f_mode, .int f_steps, .int f_waits, .int f_endKind, .int f_endNumber, .int f_endClass, .int f_endRule, .int f_frames, .ref r_classOf, .ref r_methodOf, .ref r_at, .ref r_depth, .ref r_places, .int (nI ns), .ref r_startClass, .ref r_startFrames])), (r_startFrames, .inl (g 0, 51, .inl d_sf))] sz) (fun u : Unit => [(h0, .inr (7, [.int f_callClass, .int f_callSign, .ref r_callNumbers, .int f_mode, .int f_steps, .int f_waits, .int f_endKind, .int f_endNumber, .int f_endClass, .int f_endRule, .int f_frames, .ref r_classOf, .ref r_methodOf, .ref r_at, .ref r_depth, .ref r_places, .int (nI ns), .ref r_startClass, .ref r_startFrames])), (r_startFrames, .inl (g 0, 51, .inl d_sf))])) (va_A [(h0, .inr (7, [.int f_callClass, .int f_callSign, .ref r_callNumbers, .int f_mode, .int f_steps, .int f_waits, .int f_endKind, .int f_endNumber, .int f_endClass, .int f_endRule, .int f_frames, .ref r_classOf, .ref r_methodOf, .ref r_at, .ref r_depth, .ref r_places, .int (nI ns), .ref r_startClass, .ref r_startFrames])), (r_startFrames, .inl (g 0, 51, .inl d_sf))] sz)) 0 0 (va_A [(h0, .inr (7, [.int f_callClass, .int f_callSign, .ref r_callNumbers, .int f_mode, .int f_steps, .int f_waits, .int f_endKind, .int f_endNumber, .int f_endClass, .int f_endRule, .int f_frames, .ref r_classOf, .ref r_methodOf, .ref r_at, .ref r_depth, .ref r_places, .int (nI ns), .ref r_startClass, .ref r_startFrames])), (r_startFrames, .inl (g 0, 51, .inl d_sf))] sz) := by
  refine ofZ (by decide +kernel) (Nat.le_of_ble_eq_true rfl) ?_
  intro p e s m args below meth c A Q ls H locs G hsz hP hD hS hl hret
  subst hsz
  have hl : lv_has ls 1 [(0, .ref h0)] := hl
  refine lv_aload_n G.1 G.2.1 d_Ru_startIsOpen_0 rfl (lv_at hl 0 rfl) ?_
  refine kg (ci := 7) G iRu hP 0 rfl rfl 16 (by decide) q1021 rfl rfl d_Ru_startIsOpen_1 ?_
  refine lv_if_le (tgt := 29) G.1 G.2.1 d_Ru_startIsOpen_4 (by decide) (fun c4 => ?_) (fun c4 => ?_)
  · skip
    have c4 : ns = 0 := (nI_z_le (by omega)).mp c4
    refine lv_iconst (v := nI 0) G.1 G.2.1 d_Ru_startIsOpen_29 (by decide) ?_
    refine hret (nI 0) () _ _ _ _ _ ls (by decide) (Or.inr rfl) (hP.sub [0, 1] rfl) (hD.sub [0, 1] (by decide) rfl) hS (Nat.le_of_ble_eq_true rfl) (Nat.le_of_ble_eq_true rfl) d_Ru_startIsOpen_30
  · skip
    have c4 : ¬ (ns = 0) := fun h => c4 ((nI_z_le (by omega)).mpr h)
    refine lv_aload_n G.1 G.2.1 d_Ru_startIsOpen_7 rfl (lv_at hl 0 rfl) ?_
    refine kg (ci := 7) G iRu hP 0 rfl rfl 18 (by decide) q1025 rfl rfl d_Ru_startIsOpen_8 ?_
    refine lv_aload_n G.1 G.2.1 d_Ru_startIsOpen_11 rfl (lv_at hl 0 rfl) ?_
    refine kg (ci := 7) G iRu hP 0 rfl rfl 16 (by decide) q1021 rfl rfl d_Ru_startIsOpen_12 ?_
    refine lv_iconst (v := nI 1) G.1 G.2.1 d_Ru_startIsOpen_15 (by decide) ?_
    refine lv_isub G.1 G.2.1 d_Ru_startIsOpen_16 ?_
    refine tpi (w := nI (ns - 1)) (pk_sub (by omega)) ?_
    refine kiald G hP 1 0 rfl rfl (by omega) (by omega) d_Ru_startIsOpen_17 ?_
    refine lv_aload_n G.1 G.2.1 d_Ru_startIsOpen_18 rfl (lv_at hl 0 rfl) ?_
    refine W.eq (g2 := F0 m 19 ls [.ref h0, .int (d_sf (ns - 1))]) rfl ?_
    refine kg (ci := 7) G iRu hP 0 rfl rfl 10 (by decide) q1005 rfl rfl d_Ru_startIsOpen_19 ?_
    refine lv_icmp_ne (tgt := 29) G.1 G.2.1 d_Ru_startIsOpen_22 (by decide) (fun c22 => ?_) (fun c22 => ?_)
    · skip
      refine lv_iconst (v := nI 0) G.1 G.2.1 d_Ru_startIsOpen_29 (by decide) ?_
      refine hret (nI 0) () _ _ _ _ _ ls (by decide) (Or.inr rfl) (hP.sub [0, 1] rfl) (hD.sub [0, 1] (by decide) rfl) hS (Nat.le_of_ble_eq_true rfl) (Nat.le_of_ble_eq_true rfl) d_Ru_startIsOpen_30
    · skip
      refine lv_iconst (v := nI 1) G.1 G.2.1 d_Ru_startIsOpen_25 (by decide) ?_
      refine lv_goto (tgt := 30) G.1 G.2.1 d_Ru_startIsOpen_26 (by decide) ?_
      refine hret (nI 1) () _ _ _ _ _ ls (by decide) (Or.inl ⟨rfl, by omega⟩) (hP.sub [0, 1] rfl) (hD.sub [0, 1] (by decide) rfl) hS (Nat.le_of_ble_eq_true rfl) (Nat.le_of_ble_eq_true rfl) d_Ru_startIsOpen_30
def y_Ru_addStart : MethodName := ⟨"ClassWorks$Runner", "addStart", "(I)V"⟩
abbrev b_Ru_addStart : ByteArray := prog_9_method_6_code
theorem q1023 : Cond.fieldLink "ClassWorks$Runner" 66 "ClassWorks$Runner" "startClass" "[I" ∈ lw_ok := lw_okmem (List.mem_of_getElem? (i := 1023) (by decide +kernel)) rfl
theorem d_Ru_addStart_0 : decode b_Ru_addStart 0 = .ok (.aload_n 0, 1) := by decide +kernel
theorem d_Ru_addStart_1 : decode b_Ru_addStart 1 = .ok (.getfield 63, 3) := by decide +kernel
theorem d_Ru_addStart_4 : decode b_Ru_addStart 4 = .ok (.bipush 51, 2) := by decide +kernel
theorem d_Ru_addStart_6 : decode b_Ru_addStart 6 = .ok (.if_icmp .ge 36, 3) := by decide +kernel
theorem d_Ru_addStart_9 : decode b_Ru_addStart 9 = .ok (.aload_n 0, 1) := by decide +kernel
theorem d_Ru_addStart_10 : decode b_Ru_addStart 10 = .ok (.getfield 66, 3) := by decide +kernel
theorem d_Ru_addStart_13 : decode b_Ru_addStart 13 = .ok (.aload_n 0, 1) := by decide +kernel
theorem d_Ru_addStart_14 : decode b_Ru_addStart 14 = .ok (.getfield 63, 3) := by decide +kernel
theorem d_Ru_addStart_17 : decode b_Ru_addStart 17 = .ok (.iload_n 1, 1) := by decide +kernel
theorem d_Ru_addStart_18 : decode b_Ru_addStart 18 = .ok (.iastore, 1) := by decide +kernel
theorem d_Ru_addStart_19 : decode b_Ru_addStart 19 = .ok (.aload_n 0, 1) := by decide +kernel
theorem d_Ru_addStart_20 : decode b_Ru_addStart 20 = .ok (.getfield 69, 3) := by decide +kernel
theorem d_Ru_addStart_23 : decode b_Ru_addStart 23 = .ok (.aload_n 0, 1) := by decide +kernel
theorem d_Ru_addStart_24 : decode b_Ru_addStart 24 = .ok (.getfield 63, 3) := by decide +kernel
theorem d_Ru_addStart_27 : decode b_Ru_addStart 27 = .ok (.aload_n 0, 1) := by decide +kernel
theorem d_Ru_addStart_28 : decode b_Ru_addStart 28 = .ok (.getfield 44, 3) := by decide +kernel
theorem d_Ru_addStart_31 : decode b_Ru_addStart 31 = .ok (.iastore, 1) := by decide +kernel
theorem d_Ru_addStart_32 : decode b_Ru_addStart 32 = .ok (.aload_n 0, 1) := by decide +kernel
theorem d_Ru_addStart_33 : decode b_Ru_addStart 33 = .ok (.dup, 1) := by decide +kernel
theorem d_Ru_addStart_34 : decode b_Ru_addStart 34 = .ok (.getfield 63, 3) := by decide +kernel
theorem d_Ru_addStart_37 : decode b_Ru_addStart 37 = .ok (.iconst 1, 1) := by decide +kernel
theorem d_Ru_addStart_38 : decode b_Ru_addStart 38 = .ok (.iadd, 1) := by decide +kernel
theorem d_Ru_addStart_39 : decode b_Ru_addStart 39 = .ok (.putfield 63, 3) := by decide +kernel
theorem d_Ru_addStart_42 : decode b_Ru_addStart 42 = .ok (.return_, 1) := by decide +kernel
abbrev rm_Ru_addStart : Room := { frames := 0, cells := 0, slots := 0, locals := 0 }
set_option maxHeartbeats 4000000 in
set_option maxRecDepth 100000 in
/-- addStart(c) -/
theorem c_Ru_addStart (l : Launch) (D : va_G) (g : Nat → ClassId) (h0 : Nat) (c9 : Int32) (f_callClass : Int32) (f_callSign : Int32) (r_callNumbers : Nat) (f_mode : Int32) (f_steps : Int32) (f_waits : Int32) (f_endKind : Int32) (f_endNumber : Int32) (f_endClass : Int32) (f_endRule : Int32) (f_frames : Int32) (r_classOf : Nat) (r_methodOf : Nat) (r_at : Nat) (r_depth : Nat) (r_places : Nat) (ns : Nat) (r_startClass : Nat) (r_startFrames : Nat) (d_sc : Nat → Int32) (d_sf : Nat → Int32) (sz : Nat) (hs : ns ≤ 51) : Met l y_Ru_addStart (mw y_Ru_addStart b_Ru_addStart 2 (none)) (rm_Ru_addStart) (PC g D [] [.ref h0, .int c9] sz [(h0, .inr (7, [.int f_callClass, .int f_callSign, .ref r_callNumbers, .int f_mode, .int f_steps, .int f_waits, .int f_endKind, .int f_endNumber, .int f_endClass, .int f_endRule, .int f_frames, .ref r_classOf, .ref r_methodOf, .ref r_at, .ref r_depth, .ref r_places, .int (nI ns), .ref r_startClass, .ref r_startFrames])), (r_startClass, .inl (g 0, 51, .inl d_sc)), (r_startFrames, .inl (g 0, 51, .inl d_sf))]) (va_Qv (fun u : Nat × (Nat → Int32) × (Nat → Int32) => (ns < 51 ∧ u.1 = ns + 1 ∧ u.2.1 = upd d_sc ns c9 ∧ u.2.2 = upd d_sf ns f_frames) ∨ (ns = 51 ∧ u.1 = ns ∧ u.2.1 = d_sc ∧ u.2.2 = d_sf)) (QW D (va_A [(h0, .inr (7, [.int f_callClass, .int f_callSign, .ref r_callNumbers, .int f_mode, .int f_steps, .int f_waits, .int f_endKind, .int f_endNumber, .int f_endClass, .int f_endRule, .int f_frames, .ref r_classOf, .ref r_methodOf, .ref r_at, .ref r_depth, .ref r_places, .int (nI ns), .ref r_startClass, .ref r_startFrames])), (r_startClass, .inl (g 0, 51, .inl d_sc)), (r_startFrames, .inl (g 0, 51, .inl d_sf))] sz) (fun u : Nat × (Nat → Int32) × (Nat → Int32) => [(h0, .inr (7, [.int f_callClass, .int f_callSign, .ref r_callNumbers, .int f_mode, .int f_steps, .int f_waits, .int f_endKind, .int f_endNumber, .int f_endClass, .int f_endRule, .int f_frames, .ref r_classOf, .ref r_methodOf, .ref r_at, .ref r_depth, .ref r_places, .int (nI u.1), .ref r_startClass, .ref r_startFrames])), (r_startClass, .inl (g 0, 51, .inl u.2.1)), (r_startFrames, .inl (g 0, 51, .inl u.2.2))])) (va_A [(h0, .inr (7, [.int f_callClass, .int f_callSign, .ref r_callNumbers, .int f_mode, .int f_steps, .int f_waits, .int f_endKind, .int f_endNumber, .int f_endClass, .int f_endRule, .int f_frames, .ref r_classOf, .ref r_methodOf, .ref r_at, .ref r_depth, .ref r_places, .int (nI ns), .ref r_startClass, .ref r_startFrames])), (r_startClass, .inl (g 0, 51, .inl d_sc)), (r_startFrames, .inl (g 0, 51, .inl d_sf))] sz)) 0 0 (va_A [(h0, .inr (7, [.int f_callClass, .int f_callSign, .ref r_callNumbers, .int f_mode, .int f_steps, .int f_waits, .int f_endKind, .int f_endNumber, .int f_endClass, .int f_endRule, .int f_frames, .ref r_classOf, .ref r_methodOf, .ref r_at, .ref r_depth, .ref r_places, .int (nI ns), .ref r_startClass, .ref r_startFrames])), (r_startClass, .inl (g 0, 51, .inl d_sc)), (r_startFrames, .inl (g 0, 51, .inl d_sf))] sz) := by
  refine ofV (by decide +kernel) (Nat.le_of_ble_eq_true rfl) ?_
  intro p e s m args below meth c A Q ls H locs G hsz hP hD hS hl hret
  subst hsz
  have hl : lv_has ls 2 [(0, .ref h0), (1, .int c9)] := hl
  refine lv_aload_n G.1 G.2.1 d_Ru_addStart_0 rfl (lv_at hl 0 rfl) ?_
  refine kg (ci := 7) G iRu hP 0 rfl rfl 16 (by decide) q1021 rfl rfl d_Ru_addStart_1 ?_
  refine lv_bipush (v := nI 51) G.1 G.2.1 d_Ru_addStart_4 (by decide) ?_
  refine lv_icmp_ge (tgt := 42) G.1 G.2.1 d_Ru_addStart_6 (by decide) (fun c6 => ?_) (fun c6 => ?_)
  · skip
    have c6 : 51 ≤ ns := (nI_leI (by omega) (by omega)).mp c6
    refine hret (ns, d_sc, d_sf) _ _ _ _ _ ls (show (ns < 51 ∧ ns = ns + 1 ∧ d_sc = upd d_sc ns c9 ∧ d_sf = upd d_sf ns f_frames) ∨ (ns = 51 ∧ ns = ns ∧ d_sc = d_sc ∧ d_sf = d_sf) from (Or.inr ⟨by omega, rfl, rfl, rfl⟩)) (hP.sub [0, 1, 2] rfl) (hD.sub [0, 1, 2] (by decide) rfl) hS (Nat.le_of_ble_eq_true rfl) (Nat.le_of_ble_eq_true rfl) d_Ru_addStart_42
  · skip
    have c6 : ¬ (51 ≤ ns) := fun h => c6 ((nI_leI (by omega) (by omega)).mpr h)
    refine lv_aload_n G.1 G.2.1 d_Ru_addStart_9 rfl (lv_at hl 0 rfl) ?_
    refine kg (ci := 7) G iRu hP 0 rfl rfl 17 (by decide) q1023 rfl rfl d_Ru_addStart_10 ?_
    refine lv_aload_n G.1 G.2.1 d_Ru_addStart_13 rfl (lv_at hl 0 rfl) ?_
    refine kg (ci := 7) G iRu hP 0 rfl rfl 16 (by decide) q1021 rfl rfl d_Ru_addStart_14 ?_
    refine lv_iload_n G.1 G.2.1 d_Ru_addStart_17 rfl (lv_at hl 1 rfl) ?_
    refine kiast G hP hD hS 1 0 rfl rfl (by omega) (by omega) d_Ru_addStart_18 (fun H locs hP hD hS => ?_)
    have hP : va_P D CL [(h0, .inr (7, [.int f_callClass, .int f_callSign, .ref r_callNumbers, .int f_mode, .int f_steps, .int f_waits, .int f_endKind, .int f_endNumber, .int f_endClass, .int f_endRule, .int f_frames, .ref r_classOf, .ref r_methodOf, .ref r_at, .ref r_depth, .ref r_places, .int (nI ns), .ref r_startClass, .ref r_startFrames])), (r_startClass, .inl (g 0, 51, .inl (upd d_sc ns c9))), (r_startFrames, .inl (g 0, 51, .inl d_sf))] H := hP
    have hD : va_D A [(h0, .inr (7, [.int f_callClass, .int f_callSign, .ref r_callNumbers, .int f_mode, .int f_steps, .int f_waits, .int f_endKind, .int f_endNumber, .int f_endClass, .int f_endRule, .int f_frames, .ref r_classOf, .ref r_methodOf, .ref r_at, .ref r_depth, .ref r_places, .int (nI ns), .ref r_startClass, .ref r_startFrames])), (r_startClass, .inl (g 0, 51, .inl (upd d_sc ns c9))), (r_startFrames, .inl (g 0, 51, .inl d_sf))] := hD
    refine lv_aload_n G.1 G.2.1 d_Ru_addStart_19 rfl (lv_at hl 0 rfl) ?_
    refine W.eq (g2 := F0 m 20 ls [.ref h0]) rfl ?_
    refine kg (ci := 7) G iRu hP 0 rfl rfl 18 (by decide) q1025 rfl rfl d_Ru_addStart_20 ?_
    refine lv_aload_n G.1 G.2.1 d_Ru_addStart_23 rfl (lv_at hl 0 rfl) ?_
    refine kg (ci := 7) G iRu hP 0 rfl rfl 16 (by decide) q1021 rfl rfl d_Ru_addStart_24 ?_
    refine lv_aload_n G.1 G.2.1 d_Ru_addStart_27 rfl (lv_at hl 0 rfl) ?_
    refine kg (ci := 7) G iRu hP 0 rfl rfl 10 (by decide) q1005 rfl rfl d_Ru_addStart_28 ?_
    refine kiast G hP hD hS 2 0 rfl rfl (by omega) (by omega) d_Ru_addStart_31 (fun H locs hP hD hS => ?_)
    have hP : va_P D CL [(h0, .inr (7, [.int f_callClass, .int f_callSign, .ref r_callNumbers, .int f_mode, .int f_steps, .int f_waits, .int f_endKind, .int f_endNumber, .int f_endClass, .int f_endRule, .int f_frames, .ref r_classOf, .ref r_methodOf, .ref r_at, .ref r_depth, .ref r_places, .int (nI ns), .ref r_startClass, .ref r_startFrames])), (r_startClass, .inl (g 0, 51, .inl (upd d_sc ns c9))), (r_startFrames, .inl (g 0, 51, .inl (upd d_sf ns f_frames)))] H := hP
    have hD : va_D A [(h0, .inr (7, [.int f_callClass, .int f_callSign, .ref r_callNumbers, .int f_mode, .int f_steps, .int f_waits, .int f_endKind, .int f_endNumber, .int f_endClass, .int f_endRule, .int f_frames, .ref r_classOf, .ref r_methodOf, .ref r_at, .ref r_depth, .ref r_places, .int (nI ns), .ref r_startClass, .ref r_startFrames])), (r_startClass, .inl (g 0, 51, .inl (upd d_sc ns c9))), (r_startFrames, .inl (g 0, 51, .inl (upd d_sf ns f_frames)))] := hD
    refine lv_aload_n G.1 G.2.1 d_Ru_addStart_32 rfl (lv_at hl 0 rfl) ?_
    refine lv_dup G.1 G.2.1 d_Ru_addStart_33 rfl ?_
    refine kg (ci := 7) G iRu hP 0 rfl rfl 16 (by decide) q1021 rfl rfl d_Ru_addStart_34 ?_
    refine lv_iconst (v := nI 1) G.1 G.2.1 d_Ru_addStart_37 (by decide) ?_
    refine lv_iadd G.1 G.2.1 d_Ru_addStart_38 ?_
    refine tpi (w := nI (ns + 1)) (nI_add _ _) ?_
    refine kp (ci := 7) G iRu tRu tRu_ok nRu hP hD hS 0 rfl rfl 16 (by decide) q1021 rfl rfl rfl rfl (Nat.le_of_ble_eq_true rfl) d_Ru_addStart_39 (fun H locs hP hD hS => ?_)
    have hP : va_P D CL [(h0, .inr (7, [.int f_callClass, .int f_callSign, .ref r_callNumbers, .int f_mode, .int f_steps, .int f_waits, .int f_endKind, .int f_endNumber, .int f_endClass, .int f_endRule, .int f_frames, .ref r_classOf, .ref r_methodOf, .ref r_at, .ref r_depth, .ref r_places, .int (nI (ns + 1)), .ref r_startClass, .ref r_startFrames])), (r_startClass, .inl (g 0, 51, .inl (upd d_sc ns c9))), (r_startFrames, .inl (g 0, 51, .inl (upd d_sf ns f_frames)))] H := hP
    have hD : va_D A [(h0, .inr (7, [.int f_callClass, .int f_callSign, .ref r_callNumbers, .int f_mode, .int f_steps, .int f_waits, .int f_endKind, .int f_endNumber, .int f_endClass, .int f_endRule, .int f_frames, .ref r_classOf, .ref r_methodOf, .ref r_at, .ref r_depth, .ref r_places, .int (nI (ns + 1)), .ref r_startClass, .ref r_startFrames])), (r_startClass, .inl (g 0, 51, .inl (upd d_sc ns c9))), (r_startFrames, .inl (g 0, 51, .inl (upd d_sf ns f_frames)))] := hD
    refine W.eq (g2 := F0 m 42 ls []) rfl ?_
    refine hret (ns + 1, upd d_sc ns c9, upd d_sf ns f_frames) _ _ _ _ _ ls (show (ns < 51 ∧ (ns + 1) = ns + 1 ∧ (upd d_sc ns c9) = upd d_sc ns c9 ∧ (upd d_sf ns f_frames) = upd d_sf ns f_frames) ∨ (ns = 51 ∧ (ns + 1) = ns ∧ (upd d_sc ns c9) = d_sc ∧ (upd d_sf ns f_frames) = d_sf) from (Or.inl ⟨by omega, rfl, rfl, rfl⟩)) (hP.sub [0, 1, 2] rfl) (hD.sub [0, 1, 2] (by decide) rfl) hS (Nat.le_of_ble_eq_true rfl) (Nat.le_of_ble_eq_true rfl) d_Ru_addStart_42
