theorem i_lowb {i : Int32} {n : Nat} (hn : n < 2 ^ 31) (h1 : ¬ i < 0) (h2 : i < nI n) : ∃ j : Nat, i = nI j ∧ j < n := i_below hn h1 (fun h => absurd (Int32.lt_iff_toInt_lt.mp h2) (Int.not_lt.mpr (Int32.le_iff_toInt_le.mp h)))
def y_Ru_popNumber : MethodName := ⟨"ClassWorks$Runner", "popNumber", "()I"⟩
abbrev b_Ru_popNumber : ByteArray := prog_9_method_11_code
theorem q1901 : Cond.code y_Ru_pop b_Ru_pop 1 (some (.long)) ∈ lw_ok := lw_okmem (List.mem_of_getElem? (i := 1901) (by decide +kernel)) rfl
theorem q347 : Cond.initialized "ClassWorks$Runner" ∈ lw_ok := lw_okmem (List.mem_of_getElem? (i := 347) (by decide +kernel)) rfl
theorem q1899 : Cond.instanceMethod y_Ru_pop ∈ lw_ok := lw_okmem (List.mem_of_getElem? (i := 1899) (by decide +kernel)) rfl
theorem q1900 : Cond.selects y_Ru_pop.cls y_Ru_pop y_Ru_pop ∈ lw_ok := lw_okmem (List.mem_of_getElem? (i := 1900) (by decide +kernel)) rfl
theorem w_Ru_pop : CWv y_Ru_pop b_Ru_pop 1 (some (.long)) 0 ∧ Cond.instanceMethod y_Ru_pop ∈ lw_ok ∧ Cond.selects y_Ru_pop.cls y_Ru_pop y_Ru_pop ∈ lw_ok := ⟨⟨q1901, q347, by decide +kernel, by decide +kernel, by decide +kernel⟩, q1899, q1900⟩
theorem q1944 : Cond.methodLink "ClassWorks$Runner" 75 y_Ru_pop ∈ lw_ok := lw_okmem (List.mem_of_getElem? (i := 1944) (by decide +kernel)) rfl
theorem d_Ru_popNumber_0 : decode b_Ru_popNumber 0 = .ok (.aload_n 0, 1) := by decide +kernel
theorem d_Ru_popNumber_1 : decode b_Ru_popNumber 1 = .ok (.invokevirtual 75, 3) := by decide +kernel
theorem d_Ru_popNumber_4 : decode b_Ru_popNumber 4 = .ok (.l2i, 1) := by decide +kernel
theorem d_Ru_popNumber_5 : decode b_Ru_popNumber 5 = .ok (.ireturn, 1) := by decide +kernel
abbrev rm_Ru_popNumber : Room := { frames := 1, cells := 0, slots := 0, locals := 20 }
set_option maxHeartbeats 4000000 in
set_option maxRecDepth 100000 in
/-- popNumber() -/
theorem c_Ru_popNumber (l : Launch) (D : va_G) (g : Nat → ClassId) (h0 : Nat) (f_callClass : Int32) (f_callSign : Int32) (r_callNumbers : Nat) (f_mode : Int32) (f_steps : Int32) (f_waits : Int32) (f_endKind : Int32) (f_endNumber : Int32) (f_endClass : Int32) (f_endRule : Int32) (r_classOf : Nat) (r_methodOf : Nat) (r_at : Nat) (r_depth : Nat) (r_places : Nat) (f_starts : Int32) (r_startClass : Nat) (r_startFrames : Nat) (d_places : Nat → Int64) (d_depth : Nat → Int32) (f e9 : Nat) (sz : Nat) (hf : f < 40) (hd : d_depth f = nI (e9 + 1)) (he : e9 < 20) : Met l y_Ru_popNumber (mw y_Ru_popNumber b_Ru_popNumber 1 (some .int)) (rm_Ru_popNumber) (PC g D [] [.ref h0] sz [(h0, .inr (7, [.int f_callClass, .int f_callSign, .ref r_callNumbers, .int f_mode, .int f_steps, .int f_waits, .int f_endKind, .int f_endNumber, .int f_endClass, .int f_endRule, .int (nI (f + 1)), .ref r_classOf, .ref r_methodOf, .ref r_at, .ref r_depth, .ref r_places, .int f_starts, .ref r_startClass, .ref r_startFrames])), (r_places, .inl (g 2, 1600, .inr (.inl d_places))), (r_depth, .inl (g 0, 40, .inl d_depth))]) (va_Qi (fun (r : Int32) (u : Unit) => True) (QW D (va_A [(h0, .inr (7, [.int f_callClass, .int f_callSign, .ref r_callNumbers, .int f_mode, .int f_steps, .int f_waits, .int f_endKind, .int f_endNumber, .int f_endClass, .int f_endRule, .int (nI (f + 1)), .ref r_classOf, .ref r_methodOf, .ref r_at, .ref r_depth, .ref r_places, .int f_starts, .ref r_startClass, .ref r_startFrames])), (r_places, .inl (g 2, 1600, .inr (.inl d_places))), (r_depth, .inl (g 0, 40, .inl d_depth))] sz) (fun u : Unit => [(h0, .inr (7, [.int f_callClass, .int f_callSign, .ref r_callNumbers, .int f_mode, .int f_steps, .int f_waits, .int f_endKind, .int f_endNumber, .int f_endClass, .int f_endRule, .int (nI (f + 1)), .ref r_classOf, .ref r_methodOf, .ref r_at, .ref r_depth, .ref r_places, .int f_starts, .ref r_startClass, .ref r_startFrames])), (r_places, .inl (g 2, 1600, .inr (.inl d_places))), (r_depth, .inl (g 0, 40, .inl (upd d_depth f (nI e9))))])) (va_A [(h0, .inr (7, [.int f_callClass, .int f_callSign, .ref r_callNumbers, .int f_mode, .int f_steps, .int f_waits, .int f_endKind, .int f_endNumber, .int f_endClass, .int f_endRule, .int (nI (f + 1)), .ref r_classOf, .ref r_methodOf, .ref r_at, .ref r_depth, .ref r_places, .int f_starts, .ref r_startClass, .ref r_startFrames])), (r_places, .inl (g 2, 1600, .inr (.inl d_places))), (r_depth, .inl (g 0, 40, .inl d_depth))] sz)) 0 0 (va_A [(h0, .inr (7, [.int f_callClass, .int f_callSign, .ref r_callNumbers, .int f_mode, .int f_steps, .int f_waits, .int f_endKind, .int f_endNumber, .int f_endClass, .int f_endRule, .int (nI (f + 1)), .ref r_classOf, .ref r_methodOf, .ref r_at, .ref r_depth, .ref r_places, .int f_starts, .ref r_startClass, .ref r_startFrames])), (r_places, .inl (g 2, 1600, .inr (.inl d_places))), (r_depth, .inl (g 0, 40, .inl d_depth))] sz) := by
  refine ofI (by decide +kernel) (Nat.le_of_ble_eq_true rfl) ?_
  intro p e s m args below meth c A Q ls H locs G hsz hP hD hS hl hret
  subst hsz
  have hl : lv_has ls 1 [(0, .ref h0)] := hl
  refine lv_aload_n G.1 G.2.1 d_Ru_popNumber_0 rfl (lv_at hl 0 rfl) ?_
  refine kEl (wr := []) G (kV (As := []) (rest := []) G hP hD hS [0, 1, 2] rfl rfl (c_Ru_pop l D g h0 f_callClass f_callSign r_callNumbers f_mode f_steps f_waits f_endKind f_endNumber f_endClass f_endRule r_classOf r_methodOf r_at r_depth r_places f_starts r_startClass r_startFrames d_places d_depth f e9 H.size hf hd he) w_Ru_pop q1944 rfl rfl ⟨Nat.le_of_ble_eq_true rfl, Nat.le_of_ble_eq_true rfl⟩ (fun _ h => absurd h List.not_mem_nil) 0 (ci := 7) rfl rfl rfl hl.1 rfl (Nat.le_of_ble_eq_true rfl) rfl ⟨Nat.le_of_ble_eq_true rfl, (Nat.le_of_ble_eq_true rfl)⟩ d_Ru_popNumber_1) hP hD hS [0, 1, 2] [] rfl rfl rfl rfl (fun r_1 u_2 H locs hw hP hD hS hzH => ?_)
  have hw : r_1 = d_places (f * 40 + 20 + e9) := hw
  have hP : va_P D CL [(h0, .inr (7, [.int f_callClass, .int f_callSign, .ref r_callNumbers, .int f_mode, .int f_steps, .int f_waits, .int f_endKind, .int f_endNumber, .int f_endClass, .int f_endRule, .int (nI (f + 1)), .ref r_classOf, .ref r_methodOf, .ref r_at, .ref r_depth, .ref r_places, .int f_starts, .ref r_startClass, .ref r_startFrames])), (r_places, .inl (g 2, 1600, .inr (.inl d_places))), (r_depth, .inl (g 0, 40, .inl (upd d_depth f (nI e9))))] H := hP
  have hD : va_D A [(h0, .inr (7, [.int f_callClass, .int f_callSign, .ref r_callNumbers, .int f_mode, .int f_steps, .int f_waits, .int f_endKind, .int f_endNumber, .int f_endClass, .int f_endRule, .int (nI (f + 1)), .ref r_classOf, .ref r_methodOf, .ref r_at, .ref r_depth, .ref r_places, .int f_starts, .ref r_startClass, .ref r_startFrames])), (r_places, .inl (g 2, 1600, .inr (.inl d_places))), (r_depth, .inl (g 0, 40, .inl (upd d_depth f (nI e9))))] := hD
  refine lv_l2i G.1 G.2.1 d_Ru_popNumber_4 rfl ?_
  refine hret r_1.toInt32 () _ _ _ _ _ ls trivial (hP.sub [0, 1, 2] rfl) (hD.sub [0, 1, 2] (by decide) rfl) hS (Nat.le_of_ble_eq_true rfl) (Nat.le_of_ble_eq_true rfl) d_Ru_popNumber_5
def y_Ru_pushNumber : MethodName := ⟨"ClassWorks$Runner", "pushNumber", "(I)V"⟩
abbrev b_Ru_pushNumber : ByteArray := prog_9_method_13_code
theorem q1959 : Cond.constantLong "ClassWorks$Runner" 79 (4294967295) ∈ lw_ok := lw_okmem (List.mem_of_getElem? (i := 1959) (by decide +kernel)) rfl
theorem q1935 : Cond.code y_Ru_push b_Ru_push 3 (none) ∈ lw_ok := lw_okmem (List.mem_of_getElem? (i := 1935) (by decide +kernel)) rfl
theorem q1933 : Cond.instanceMethod y_Ru_push ∈ lw_ok := lw_okmem (List.mem_of_getElem? (i := 1933) (by decide +kernel)) rfl
theorem q1934 : Cond.selects y_Ru_push.cls y_Ru_push y_Ru_push ∈ lw_ok := lw_okmem (List.mem_of_getElem? (i := 1934) (by decide +kernel)) rfl
theorem w_Ru_push : CWv y_Ru_push b_Ru_push 3 (none) 1 ∧ Cond.instanceMethod y_Ru_push ∈ lw_ok ∧ Cond.selects y_Ru_push.cls y_Ru_push y_Ru_push ∈ lw_ok := ⟨⟨q1935, q347, by decide +kernel, by decide +kernel, by decide +kernel⟩, q1933, q1934⟩
theorem q1960 : Cond.methodLink "ClassWorks$Runner" 81 y_Ru_push ∈ lw_ok := lw_okmem (List.mem_of_getElem? (i := 1960) (by decide +kernel)) rfl
theorem d_Ru_pushNumber_0 : decode b_Ru_pushNumber 0 = .ok (.aload_n 0, 1) := by decide +kernel
theorem d_Ru_pushNumber_1 : decode b_Ru_pushNumber 1 = .ok (.iload_n 1, 1) := by decide +kernel
theorem d_Ru_pushNumber_2 : decode b_Ru_pushNumber 2 = .ok (.i2l, 1) := by decide +kernel
theorem d_Ru_pushNumber_3 : decode b_Ru_pushNumber 3 = .ok (.ldc2_w 79, 3) := by decide +kernel
theorem d_Ru_pushNumber_6 : decode b_Ru_pushNumber 6 = .ok (.land, 1) := by decide +kernel
theorem d_Ru_pushNumber_7 : decode b_Ru_pushNumber 7 = .ok (.invokevirtual 81, 3) := by decide +kernel
theorem d_Ru_pushNumber_10 : decode b_Ru_pushNumber 10 = .ok (.return_, 1) := by decide +kernel
abbrev rm_Ru_pushNumber : Room := { frames := 1, cells := 0, slots := 0, locals := 22 }
set_option maxHeartbeats 4000000 in
set_option maxRecDepth 100000 in
/-- pushNumber -/
theorem c_Ru_pushNumber (l : Launch) (D : va_G) (g : Nat → ClassId) (h0 : Nat) (w9 : Int32) (f_callClass : Int32) (f_callSign : Int32) (r_callNumbers : Nat) (f_mode : Int32) (f_steps : Int32) (f_waits : Int32) (f_endKind : Int32) (f_endNumber : Int32) (f_endClass : Int32) (f_endRule : Int32) (r_classOf : Nat) (r_methodOf : Nat) (r_at : Nat) (r_depth : Nat) (r_places : Nat) (f_starts : Int32) (r_startClass : Nat) (r_startFrames : Nat) (d_places : Nat → Int64) (d_depth : Nat → Int32) (f e9 : Nat) (sz : Nat) (hf : f < 40) (hd : d_depth f = nI e9) (he : e9 < 20) : Met l y_Ru_pushNumber (mw y_Ru_pushNumber b_Ru_pushNumber 2 (none)) (rm_Ru_pushNumber) (PC g D [] [.ref h0, .int w9] sz [(h0, .inr (7, [.int f_callClass, .int f_callSign, .ref r_callNumbers, .int f_mode, .int f_steps, .int f_waits, .int f_endKind, .int f_endNumber, .int f_endClass, .int f_endRule, .int (nI (f + 1)), .ref r_classOf, .ref r_methodOf, .ref r_at, .ref r_depth, .ref r_places, .int f_starts, .ref r_startClass, .ref r_startFrames])), (r_places, .inl (g 2, 1600, .inr (.inl d_places))), (r_depth, .inl (g 0, 40, .inl d_depth))]) (va_Qv (fun u : (Nat → Int64) => True) (QW D (va_A [(h0, .inr (7, [.int f_callClass, .int f_callSign, .ref r_callNumbers, .int f_mode, .int f_steps, .int f_waits, .int f_endKind, .int f_endNumber, .int f_endClass, .int f_endRule, .int (nI (f + 1)), .ref r_classOf, .ref r_methodOf, .ref r_at, .ref r_depth, .ref r_places, .int f_starts, .ref r_startClass, .ref r_startFrames])), (r_places, .inl (g 2, 1600, .inr (.inl d_places))), (r_depth, .inl (g 0, 40, .inl d_depth))] sz) (fun u : (Nat → Int64) => [(h0, .inr (7, [.int f_callClass, .int f_callSign, .ref r_callNumbers, .int f_mode, .int f_steps, .int f_waits, .int f_endKind, .int f_endNumber, .int f_endClass, .int f_endRule, .int (nI (f + 1)), .ref r_classOf, .ref r_methodOf, .ref r_at, .ref r_depth, .ref r_places, .int f_starts, .ref r_startClass, .ref r_startFrames])), (r_places, .inl (g 2, 1600, .inr (.inl u))), (r_depth, .inl (g 0, 40, .inl (upd d_depth f (nI (e9 + 1)))))])) (va_A [(h0, .inr (7, [.int f_callClass, .int f_callSign, .ref r_callNumbers, .int f_mode, .int f_steps, .int f_waits, .int f_endKind, .int f_endNumber, .int f_endClass, .int f_endRule, .int (nI (f + 1)), .ref r_classOf, .ref r_methodOf, .ref r_at, .ref r_depth, .ref r_places, .int f_starts, .ref r_startClass, .ref r_startFrames])), (r_places, .inl (g 2, 1600, .inr (.inl d_places))), (r_depth, .inl (g 0, 40, .inl d_depth))] sz)) 0 0 (va_A [(h0, .inr (7, [.int f_callClass, .int f_callSign, .ref r_callNumbers, .int f_mode, .int f_steps, .int f_waits, .int f_endKind, .int f_endNumber, .int f_endClass, .int f_endRule, .int (nI (f + 1)), .ref r_classOf, .ref r_methodOf, .ref r_at, .ref r_depth, .ref r_places, .int f_starts, .ref r_startClass, .ref r_startFrames])), (r_places, .inl (g 2, 1600, .inr (.inl d_places))), (r_depth, .inl (g 0, 40, .inl d_depth))] sz) := by
  refine ofV (by decide +kernel) (Nat.le_of_ble_eq_true rfl) ?_
  intro p e s m args below meth c A Q ls H locs G hsz hP hD hS hl hret
  subst hsz
  have hl : lv_has ls 2 [(0, .ref h0), (1, .int w9)] := hl
  refine lv_aload_n G.1 G.2.1 d_Ru_pushNumber_0 rfl (lv_at hl 0 rfl) ?_
  refine lv_iload_n G.1 G.2.1 d_Ru_pushNumber_1 rfl (lv_at hl 1 rfl) ?_
  refine lv_i2l G.1 G.2.1 d_Ru_pushNumber_2 rfl ?_
  refine lv_ldc2 (v := (4294967295)) G.1 G.2.1 G.2.2.2.2.2.2.1 (G.2.2.2.2.2.1 _ q1959) d_Ru_pushNumber_3 ?_
  refine lv_land G.1 G.2.1 d_Ru_pushNumber_6 ?_
  refine kEv (wr := []) G (kV (As := [.long (w9.toInt64 &&& (4294967295))]) (rest := []) G hP hD hS [0, 1, 2] rfl rfl (c_Ru_push l D g h0 (w9.toInt64 &&& (4294967295)) f_callClass f_callSign r_callNumbers f_mode f_steps f_waits f_endKind f_endNumber f_endClass f_endRule r_classOf r_methodOf r_at r_depth r_places f_starts r_startClass r_startFrames d_places d_depth f e9 H.size hf hd he) w_Ru_push q1960 rfl rfl ⟨Nat.le_of_ble_eq_true rfl, Nat.le_of_ble_eq_true rfl⟩ (fun _ h => absurd h List.not_mem_nil) 0 (ci := 7) rfl rfl rfl hl.1 rfl (Nat.le_of_ble_eq_true rfl) rfl ⟨Nat.le_of_ble_eq_true rfl, (Nat.le_of_ble_eq_true rfl)⟩ d_Ru_pushNumber_7) hP hD hS [0, 1, 2] [] rfl rfl rfl rfl (fun u_2 H locs hw hP hD hS hzH => ?_)
  have hw : True := hw
  have hP : va_P D CL [(h0, .inr (7, [.int f_callClass, .int f_callSign, .ref r_callNumbers, .int f_mode, .int f_steps, .int f_waits, .int f_endKind, .int f_endNumber, .int f_endClass, .int f_endRule, .int (nI (f + 1)), .ref r_classOf, .ref r_methodOf, .ref r_at, .ref r_depth, .ref r_places, .int f_starts, .ref r_startClass, .ref r_startFrames])), (r_places, .inl (g 2, 1600, .inr (.inl (vp_updL d_places (f * 40 + 20 + e9) (w9.toInt64 &&& (4294967295)))))), (r_depth, .inl (g 0, 40, .inl (upd d_depth f (nI (e9 + 1)))))] H := hP
  have hD : va_D A [(h0, .inr (7, [.int f_callClass, .int f_callSign, .ref r_callNumbers, .int f_mode, .int f_steps, .int f_waits, .int f_endKind, .int f_endNumber, .int f_endClass, .int f_endRule, .int (nI (f + 1)), .ref r_classOf, .ref r_methodOf, .ref r_at, .ref r_depth, .ref r_places, .int f_starts, .ref r_startClass, .ref r_startFrames])), (r_places, .inl (g 2, 1600, .inr (.inl (vp_updL d_places (f * 40 + 20 + e9) (w9.toInt64 &&& (4294967295)))))), (r_depth, .inl (g 0, 40, .inl (upd d_depth f (nI (e9 + 1)))))] := hD
  refine hret (vp_updL d_places (f * 40 + 20 + e9) (w9.toInt64 &&& (4294967295))) _ _ _ _ _ ls (show True from trivial) (hP.sub [0, 1, 2] rfl) (hD.sub [0, 1, 2] (by decide) rfl) hS (Nat.le_of_ble_eq_true rfl) (Nat.le_of_ble_eq_true rfl) d_Ru_pushNumber_10
def y_Ru_pushReference : MethodName := ⟨"ClassWorks$Runner", "pushReference", "(I)V"⟩
abbrev b_Ru_pushReference : ByteArray := prog_9_method_14_code
theorem q1965 : Cond.constantLong "ClassWorks$Runner" 85 (4294967296) ∈ lw_ok := lw_okmem (List.mem_of_getElem? (i := 1965) (by decide +kernel)) rfl
theorem d_Ru_pushReference_0 : decode b_Ru_pushReference 0 = .ok (.aload_n 0, 1) := by decide +kernel
theorem d_Ru_pushReference_1 : decode b_Ru_pushReference 1 = .ok (.ldc2_w 85, 3) := by decide +kernel
theorem d_Ru_pushReference_4 : decode b_Ru_pushReference 4 = .ok (.iload_n 1, 1) := by decide +kernel
theorem d_Ru_pushReference_5 : decode b_Ru_pushReference 5 = .ok (.i2l, 1) := by decide +kernel
theorem d_Ru_pushReference_6 : decode b_Ru_pushReference 6 = .ok (.lor, 1) := by decide +kernel
theorem d_Ru_pushReference_7 : decode b_Ru_pushReference 7 = .ok (.invokevirtual 81, 3) := by decide +kernel
theorem d_Ru_pushReference_10 : decode b_Ru_pushReference 10 = .ok (.return_, 1) := by decide +kernel
abbrev rm_Ru_pushReference : Room := { frames := 1, cells := 0, slots := 0, locals := 22 }
set_option maxHeartbeats 4000000 in
set_option maxRecDepth 100000 in
/-- pushReference -/
theorem c_Ru_pushReference (l : Launch) (D : va_G) (g : Nat → ClassId) (h0 : Nat) (w9 : Int32) (f_callClass : Int32) (f_callSign : Int32) (r_callNumbers : Nat) (f_mode : Int32) (f_steps : Int32) (f_waits : Int32) (f_endKind : Int32) (f_endNumber : Int32) (f_endClass : Int32) (f_endRule : Int32) (r_classOf : Nat) (r_methodOf : Nat) (r_at : Nat) (r_depth : Nat) (r_places : Nat) (f_starts : Int32) (r_startClass : Nat) (r_startFrames : Nat) (d_places : Nat → Int64) (d_depth : Nat → Int32) (f e9 : Nat) (sz : Nat) (hf : f < 40) (hd : d_depth f = nI e9) (he : e9 < 20) : Met l y_Ru_pushReference (mw y_Ru_pushReference b_Ru_pushReference 2 (none)) (rm_Ru_pushReference) (PC g D [] [.ref h0, .int w9] sz [(h0, .inr (7, [.int f_callClass, .int f_callSign, .ref r_callNumbers, .int f_mode, .int f_steps, .int f_waits, .int f_endKind, .int f_endNumber, .int f_endClass, .int f_endRule, .int (nI (f + 1)), .ref r_classOf, .ref r_methodOf, .ref r_at, .ref r_depth, .ref r_places, .int f_starts, .ref r_startClass, .ref r_startFrames])), (r_places, .inl (g 2, 1600, .inr (.inl d_places))), (r_depth, .inl (g 0, 40, .inl d_depth))]) (va_Qv (fun u : (Nat → Int64) => True) (QW D (va_A [(h0, .inr (7, [.int f_callClass, .int f_callSign, .ref r_callNumbers, .int f_mode, .int f_steps, .int f_waits, .int f_endKind, .int f_endNumber, .int f_endClass, .int f_endRule, .int (nI (f + 1)), .ref r_classOf, .ref r_methodOf, .ref r_at, .ref r_depth, .ref r_places, .int f_starts, .ref r_startClass, .ref r_startFrames])), (r_places, .inl (g 2, 1600, .inr (.inl d_places))), (r_depth, .inl (g 0, 40, .inl d_depth))] sz) (fun u : (Nat → Int64) => [(h0, .inr (7, [.int f_callClass, .int f_callSign, .ref r_callNumbers, .int f_mode, .int f_steps, .int f_waits, .int f_endKind, .int f_endNumber, .int f_endClass, .int f_endRule, .int (nI (f + 1)), .ref r_classOf, .ref r_methodOf, .ref r_at, .ref r_depth, .ref r_places, .int f_starts, .ref r_startClass, .ref r_startFrames])), (r_places, .inl (g 2, 1600, .inr (.inl u))), (r_depth, .inl (g 0, 40, .inl (upd d_depth f (nI (e9 + 1)))))])) (va_A [(h0, .inr (7, [.int f_callClass, .int f_callSign, .ref r_callNumbers, .int f_mode, .int f_steps, .int f_waits, .int f_endKind, .int f_endNumber, .int f_endClass, .int f_endRule, .int (nI (f + 1)), .ref r_classOf, .ref r_methodOf, .ref r_at, .ref r_depth, .ref r_places, .int f_starts, .ref r_startClass, .ref r_startFrames])), (r_places, .inl (g 2, 1600, .inr (.inl d_places))), (r_depth, .inl (g 0, 40, .inl d_depth))] sz)) 0 0 (va_A [(h0, .inr (7, [.int f_callClass, .int f_callSign, .ref r_callNumbers, .int f_mode, .int f_steps, .int f_waits, .int f_endKind, .int f_endNumber, .int f_endClass, .int f_endRule, .int (nI (f + 1)), .ref r_classOf, .ref r_methodOf, .ref r_at, .ref r_depth, .ref r_places, .int f_starts, .ref r_startClass, .ref r_startFrames])), (r_places, .inl (g 2, 1600, .inr (.inl d_places))), (r_depth, .inl (g 0, 40, .inl d_depth))] sz) := by
  refine ofV (by decide +kernel) (Nat.le_of_ble_eq_true rfl) ?_
  intro p e s m args below meth c A Q ls H locs G hsz hP hD hS hl hret
  subst hsz
  have hl : lv_has ls 2 [(0, .ref h0), (1, .int w9)] := hl
  refine lv_aload_n G.1 G.2.1 d_Ru_pushReference_0 rfl (lv_at hl 0 rfl) ?_
  refine lv_ldc2 (v := (4294967296)) G.1 G.2.1 G.2.2.2.2.2.2.1 (G.2.2.2.2.2.1 _ q1965) d_Ru_pushReference_1 ?_
  refine lv_iload_n G.1 G.2.1 d_Ru_pushReference_4 rfl (lv_at hl 1 rfl) ?_
  refine lv_i2l G.1 G.2.1 d_Ru_pushReference_5 rfl ?_
  refine lv_lor G.1 G.2.1 d_Ru_pushReference_6 ?_
  refine kEv (wr := []) G (kV (As := [.long ((4294967296) ||| w9.toInt64)]) (rest := []) G hP hD hS [0, 1, 2] rfl rfl (c_Ru_push l D g h0 ((4294967296) ||| w9.toInt64) f_callClass f_callSign r_callNumbers f_mode f_steps f_waits f_endKind f_endNumber f_endClass f_endRule r_classOf r_methodOf r_at r_depth r_places f_starts r_startClass r_startFrames d_places d_depth f e9 H.size hf hd he) w_Ru_push q1960 rfl rfl ⟨Nat.le_of_ble_eq_true rfl, Nat.le_of_ble_eq_true rfl⟩ (fun _ h => absurd h List.not_mem_nil) 0 (ci := 7) rfl rfl rfl hl.1 rfl (Nat.le_of_ble_eq_true rfl) rfl ⟨Nat.le_of_ble_eq_true rfl, (Nat.le_of_ble_eq_true rfl)⟩ d_Ru_pushReference_7) hP hD hS [0, 1, 2] [] rfl rfl rfl rfl (fun u_2 H locs hw hP hD hS hzH => ?_)
  have hw : True := hw
  have hP : va_P D CL [(h0, .inr (7, [.int f_callClass, .int f_callSign, .ref r_callNumbers, .int f_mode, .int f_steps, .int f_waits, .int f_endKind, .int f_endNumber, .int f_endClass, .int f_endRule, .int (nI (f + 1)), .ref r_classOf, .ref r_methodOf, .ref r_at, .ref r_depth, .ref r_places, .int f_starts, .ref r_startClass, .ref r_startFrames])), (r_places, .inl (g 2, 1600, .inr (.inl (vp_updL d_places (f * 40 + 20 + e9) ((4294967296) ||| w9.toInt64))))), (r_depth, .inl (g 0, 40, .inl (upd d_depth f (nI (e9 + 1)))))] H := hP
  have hD : va_D A [(h0, .inr (7, [.int f_callClass, .int f_callSign, .ref r_callNumbers, .int f_mode, .int f_steps, .int f_waits, .int f_endKind, .int f_endNumber, .int f_endClass, .int f_endRule, .int (nI (f + 1)), .ref r_classOf, .ref r_methodOf, .ref r_at, .ref r_depth, .ref r_places, .int f_starts, .ref r_startClass, .ref r_startFrames])), (r_places, .inl (g 2, 1600, .inr (.inl (vp_updL d_places (f * 40 + 20 + e9) ((4294967296) ||| w9.toInt64))))), (r_depth, .inl (g 0, 40, .inl (upd d_depth f (nI (e9 + 1)))))] := hD
  refine hret (vp_updL d_places (f * 40 + 20 + e9) ((4294967296) ||| w9.toInt64)) _ _ _ _ _ ls (show True from trivial) (hP.sub [0, 1, 2] rfl) (hD.sub [0, 1, 2] (by decide) rfl) hS (Nat.le_of_ble_eq_true rfl) (Nat.le_of_ble_eq_true rfl) d_Ru_pushReference_10
def y_Na_letter : MethodName := ⟨"ClassWorks$Names", "letter", "(II)I"⟩
abbrev b_Na_letter : ByteArray := prog_7_method_6_code
theorem q1505 : Cond.code y_Na_length b_Na_length 2 (some .int) ∈ lw_ok := lw_okmem (List.mem_of_getElem? (i := 1505) (by decide +kernel)) rfl
theorem q1503 : Cond.instanceMethod y_Na_length ∈ lw_ok := lw_okmem (List.mem_of_getElem? (i := 1503) (by decide +kernel)) rfl
theorem q1504 : Cond.selects y_Na_length.cls y_Na_length y_Na_length ∈ lw_ok := lw_okmem (List.mem_of_getElem? (i := 1504) (by decide +kernel)) rfl
theorem w_Na_length : CWv y_Na_length b_Na_length 2 (some .int) 1 ∧ Cond.instanceMethod y_Na_length ∈ lw_ok ∧ Cond.selects y_Na_length.cls y_Na_length y_Na_length ∈ lw_ok := ⟨⟨q1505, q330, by decide +kernel, by decide +kernel, by decide +kernel⟩, q1503, q1504⟩
theorem q1502 : Cond.methodLink "ClassWorks$Names" 110 y_Na_length ∈ lw_ok := lw_okmem (List.mem_of_getElem? (i := 1502) (by decide +kernel)) rfl
theorem d_Na_letter_0 : decode b_Na_letter 0 = .ok (.iload_n 2, 1) := by decide +kernel
theorem d_Na_letter_1 : decode b_Na_letter 1 = .ok (.ifCond .lt 12, 3) := by decide +kernel
theorem d_Na_letter_4 : decode b_Na_letter 4 = .ok (.iload_n 2, 1) := by decide +kernel
theorem d_Na_letter_5 : decode b_Na_letter 5 = .ok (.aload_n 0, 1) := by decide +kernel
theorem d_Na_letter_6 : decode b_Na_letter 6 = .ok (.iload_n 1, 1) := by decide +kernel
theorem d_Na_letter_7 : decode b_Na_letter 7 = .ok (.invokevirtual 110, 3) := by decide +kernel
theorem d_Na_letter_10 : decode b_Na_letter 10 = .ok (.if_icmp .lt 7, 3) := by decide +kernel
theorem d_Na_letter_13 : decode b_Na_letter 13 = .ok (.iconst (-1), 1) := by decide +kernel
theorem d_Na_letter_14 : decode b_Na_letter 14 = .ok (.goto 22, 3) := by decide +kernel
theorem d_Na_letter_17 : decode b_Na_letter 17 = .ok (.aload_n 0, 1) := by decide +kernel
theorem d_Na_letter_18 : decode b_Na_letter 18 = .ok (.getfield 14, 3) := by decide +kernel
theorem d_Na_letter_21 : decode b_Na_letter 21 = .ok (.getfield 101, 3) := by decide +kernel
theorem d_Na_letter_24 : decode b_Na_letter 24 = .ok (.aload_n 0, 1) := by decide +kernel
theorem d_Na_letter_25 : decode b_Na_letter 25 = .ok (.getfield 20, 3) := by decide +kernel
theorem d_Na_letter_28 : decode b_Na_letter 28 = .ok (.getfield 101, 3) := by decide +kernel
theorem d_Na_letter_31 : decode b_Na_letter 31 = .ok (.iload_n 1, 1) := by decide +kernel
theorem d_Na_letter_32 : decode b_Na_letter 32 = .ok (.iaload, 1) := by decide +kernel
theorem d_Na_letter_33 : decode b_Na_letter 33 = .ok (.iload_n 2, 1) := by decide +kernel
theorem d_Na_letter_34 : decode b_Na_letter 34 = .ok (.iadd, 1) := by decide +kernel
theorem d_Na_letter_35 : decode b_Na_letter 35 = .ok (.iaload, 1) := by decide +kernel
theorem d_Na_letter_36 : decode b_Na_letter 36 = .ok (.ireturn, 1) := by decide +kernel
abbrev rm_Na_letter : Room := { frames := 1, cells := 0, slots := 0, locals := 21 }
set_option maxHeartbeats 4000000 in
set_option maxRecDepth 100000 in
/-- letter(id, i) -/
theorem c_Na_letter (l : Launch) (D : va_G) (g : Nat → ClassId) (h0 : Nat) (w : Nat) (i9 : Int32) (a1 : Nat) (a2 : Nat) (a3 : Nat) (a4 : Nat) (a5 : Nat) (a6 : Nat) (a7 : Nat) (a8 : Nat) (a9 : Nat) (mk : Int32) (stt : Int32) (b1 : Nat) (L : Nat) (n1 : Nat) (fl : Nat → Int32) (b2 : Nat) (k : Nat) (n2 : Nat) (fs : Nat → Int32) (b3 : Nat) (n3 : Nat) (fz : Nat → Int32) (b4 : Nat) (n4 : Nat) (fn : Nat → Int32) (fh : Nat → Int32) (sz : Nat) (hI : NI k L fs fz fn fh) (hL1 : L ≤ n1) (hk2 : k ≤ n2) (hk3 : k ≤ n3) (hk4 : k ≤ n4) (hn1 : n1 < 2 ^ 24) (hn2 : n2 < 2 ^ 24) (hn3 : n3 < 2 ^ 24) (hn4 : n4 < 2 ^ 24) (hw : w < k) : Met l y_Na_letter (mw y_Na_letter b_Na_letter 3 (some .int)) (rm_Na_letter) (PC g D [] [.ref h0, .int (nI w), .int i9] sz [(h0, .inr (5, [.ref a1, .ref a2, .ref a3, .ref a4, .ref a5, .ref a6, .ref a7, .ref a8, .ref a9, .int mk, .int stt])), (a1, .inr (3, [.ref b1, .int (nI L)])), (b1, .inl (g 0, n1, .inl fl)), (a2, .inr (3, [.ref b2, .int (nI k)])), (b2, .inl (g 0, n2, .inl fs)), (a3, .inr (3, [.ref b3, .int (nI k)])), (b3, .inl (g 0, n3, .inl fz)), (a4, .inr (3, [.ref b4, .int (nI k)])), (b4, .inl (g 0, n4, .inl fn)), (a5, .inl (g 0, 256, .inl fh))]) (va_Qi (fun (r : Int32) (u : Unit) => True) (QW D (va_A [(h0, .inr (5, [.ref a1, .ref a2, .ref a3, .ref a4, .ref a5, .ref a6, .ref a7, .ref a8, .ref a9, .int mk, .int stt])), (a1, .inr (3, [.ref b1, .int (nI L)])), (b1, .inl (g 0, n1, .inl fl)), (a2, .inr (3, [.ref b2, .int (nI k)])), (b2, .inl (g 0, n2, .inl fs)), (a3, .inr (3, [.ref b3, .int (nI k)])), (b3, .inl (g 0, n3, .inl fz)), (a4, .inr (3, [.ref b4, .int (nI k)])), (b4, .inl (g 0, n4, .inl fn)), (a5, .inl (g 0, 256, .inl fh))] sz) (fun u : Unit => [(h0, .inr (5, [.ref a1, .ref a2, .ref a3, .ref a4, .ref a5, .ref a6, .ref a7, .ref a8, .ref a9, .int mk, .int stt])), (a1, .inr (3, [.ref b1, .int (nI L)])), (b1, .inl (g 0, n1, .inl fl)), (a2, .inr (3, [.ref b2, .int (nI k)])), (b2, .inl (g 0, n2, .inl fs)), (a3, .inr (3, [.ref b3, .int (nI k)])), (b3, .inl (g 0, n3, .inl fz)), (a4, .inr (3, [.ref b4, .int (nI k)])), (b4, .inl (g 0, n4, .inl fn)), (a5, .inl (g 0, 256, .inl fh))])) (va_A [(h0, .inr (5, [.ref a1, .ref a2, .ref a3, .ref a4, .ref a5, .ref a6, .ref a7, .ref a8, .ref a9, .int mk, .int stt])), (a1, .inr (3, [.ref b1, .int (nI L)])), (b1, .inl (g 0, n1, .inl fl)), (a2, .inr (3, [.ref b2, .int (nI k)])), (b2, .inl (g 0, n2, .inl fs)), (a3, .inr (3, [.ref b3, .int (nI k)])), (b3, .inl (g 0, n3, .inl fz)), (a4, .inr (3, [.ref b4, .int (nI k)])), (b4, .inl (g 0, n4, .inl fn)), (a5, .inl (g 0, 256, .inl fh))] sz)) 0 0 (va_A [(h0, .inr (5, [.ref a1, .ref a2, .ref a3, .ref a4, .ref a5, .ref a6, .ref a7, .ref a8, .ref a9, .int mk, .int stt])), (a1, .inr (3, [.ref b1, .int (nI L)])), (b1, .inl (g 0, n1, .inl fl)), (a2, .inr (3, [.ref b2, .int (nI k)])), (b2, .inl (g 0, n2, .inl fs)), (a3, .inr (3, [.ref b3, .int (nI k)])), (b3, .inl (g 0, n3, .inl fz)), (a4, .inr (3, [.ref b4, .int (nI k)])), (b4, .inl (g 0, n4, .inl fn)), (a5, .inl (g 0, 256, .inl fh))] sz) := by
  refine ofI (by decide +kernel) (Nat.le_of_ble_eq_true rfl) ?_
  intro p e s m args below meth c A Q ls H locs G hsz hP hD hS hl hret
  subst hsz
  have hl : lv_has ls 3 [(0, .ref h0), (1, .int (nI w)), (2, .int i9)] := hl
  refine lv_iload_n G.1 G.2.1 d_Na_letter_0 rfl (lv_at hl 2 rfl) ?_
  refine lv_if_lt (tgt := 13) G.1 G.2.1 d_Na_letter_1 (by decide) (fun c1 => ?_) (fun c1 => ?_)
  · skip
    refine lv_iconst (v := (-1)) G.1 G.2.1 d_Na_letter_13 (by decide) ?_
    refine lv_goto (tgt := 36) G.1 G.2.1 d_Na_letter_14 (by decide) ?_
    have hP : va_P D CL [(h0, .inr (5, [.ref a1, .ref a2, .ref a3, .ref a4, .ref a5, .ref a6, .ref a7, .ref a8, .ref a9, .int mk, .int stt])), (a1, .inr (3, [.ref b1, .int (nI L)])), (b1, .inl (g 0, n1, .inl fl)), (a2, .inr (3, [.ref b2, .int (nI k)])), (b2, .inl (g 0, n2, .inl fs)), (a3, .inr (3, [.ref b3, .int (nI k)])), (b3, .inl (g 0, n3, .inl fz)), (a4, .inr (3, [.ref b4, .int (nI k)])), (b4, .inl (g 0, n4, .inl fn)), (a5, .inl (g 0, 256, .inl fh))] H := hP.sub [0, 1, 2, 3, 4, 5, 6, 7, 8, 9] rfl
    have hD : va_D A [(h0, .inr (5, [.ref a1, .ref a2, .ref a3, .ref a4, .ref a5, .ref a6, .ref a7, .ref a8, .ref a9, .int mk, .int stt])), (a1, .inr (3, [.ref b1, .int (nI L)])), (b1, .inl (g 0, n1, .inl fl)), (a2, .inr (3, [.ref b2, .int (nI k)])), (b2, .inl (g 0, n2, .inl fs)), (a3, .inr (3, [.ref b3, .int (nI k)])), (b3, .inl (g 0, n3, .inl fz)), (a4, .inr (3, [.ref b4, .int (nI k)])), (b4, .inl (g 0, n4, .inl fn)), (a5, .inl (g 0, 256, .inl fh))] := hD.sub [0, 1, 2, 3, 4, 5, 6, 7, 8, 9] (by decide) rfl
    refine hret (-1) () _ _ _ _ _ ls trivial hP hD hS (Nat.le_of_ble_eq_true rfl) (Nat.le_of_ble_eq_true rfl) d_Na_letter_36
  · skip
    refine lv_iload_n G.1 G.2.1 d_Na_letter_4 rfl (lv_at hl 2 rfl) ?_
    refine lv_aload_n G.1 G.2.1 d_Na_letter_5 rfl (lv_at hl 0 rfl) ?_
    refine lv_iload_n G.1 G.2.1 d_Na_letter_6 rfl (lv_at hl 1 rfl) ?_
    refine kEi (wr := []) G (kV (As := [.int (nI w)]) (rest := [.int i9]) G hP hD hS [0, 1, 2, 3, 4, 5, 6, 7, 8, 9] rfl rfl (c_Na_length_g l D g h0 a1 a2 a3 a4 a5 a6 a7 a8 a9 b1 b2 b3 b4 n1 n2 n3 n4 mk stt k L fl fs fz fn fh w H.size hI hL1 hk2 hk3 hk4 hn1 hn2 hn3 hn4 hw) w_Na_length q1502 rfl rfl ⟨Nat.le_of_ble_eq_true rfl, Nat.le_of_ble_eq_true rfl⟩ (fun _ h => absurd h List.not_mem_nil) 0 (ci := 5) rfl rfl rfl hl.1 rfl (Nat.le_of_ble_eq_true rfl) rfl ⟨Nat.le_of_ble_eq_true rfl, (Nat.le_of_ble_eq_true rfl)⟩ d_Na_letter_7) hP hD hS [0, 1, 2, 3, 4, 5, 6, 7, 8, 9] [] rfl rfl rfl rfl (fun r_1 u_2 H locs hwq hP hD hS hzH => ?_)
    have hwR : r_1 = fz w := hwq
    have hP : va_P D CL [(h0, .inr (5, [.ref a1, .ref a2, .ref a3, .ref a4, .ref a5, .ref a6, .ref a7, .ref a8, .ref a9, .int mk, .int stt])), (a1, .inr (3, [.ref b1, .int (nI L)])), (b1, .inl (g 0, n1, .inl fl)), (a2, .inr (3, [.ref b2, .int (nI k)])), (b2, .inl (g 0, n2, .inl fs)), (a3, .inr (3, [.ref b3, .int (nI k)])), (b3, .inl (g 0, n3, .inl fz)), (a4, .inr (3, [.ref b4, .int (nI k)])), (b4, .inl (g 0, n4, .inl fn)), (a5, .inl (g 0, 256, .inl fh))] H := hP
    have hD : va_D A [(h0, .inr (5, [.ref a1, .ref a2, .ref a3, .ref a4, .ref a5, .ref a6, .ref a7, .ref a8, .ref a9, .int mk, .int stt])), (a1, .inr (3, [.ref b1, .int (nI L)])), (b1, .inl (g 0, n1, .inl fl)), (a2, .inr (3, [.ref b2, .int (nI k)])), (b2, .inl (g 0, n2, .inl fs)), (a3, .inr (3, [.ref b3, .int (nI k)])), (b3, .inl (g 0, n3, .inl fz)), (a4, .inr (3, [.ref b4, .int (nI k)])), (b4, .inl (g 0, n4, .inl fn)), (a5, .inl (g 0, 256, .inl fh))] := hD
    obtain ⟨a, b, ha, hb, hab, hb2⟩ := hI.1 w hw
    refine tpi (w := nI b) (hwR.trans hb) ?_
    refine lv_icmp_lt (tgt := 17) G.1 G.2.1 d_Na_letter_10 (by decide) (fun c10 => ?_) (fun c10 => ?_)
    · skip
      obtain ⟨j, hj, hjn⟩ := i_lowb (by omega) c1 c10
      refine lv_aload_n G.1 G.2.1 d_Na_letter_17 rfl (lv_at hl 0 rfl) ?_
      refine kg (ci := 5) G iNa hP 0 rfl rfl 0 (by decide) q504 rfl rfl d_Na_letter_18 ?_
      refine kg (ci := 3) G iIn hP 1 rfl rfl 0 (by decide) q381 rfl rfl d_Na_letter_21 ?_
      refine lv_aload_n G.1 G.2.1 d_Na_letter_24 rfl (lv_at hl 0 rfl) ?_
      refine W.eq (g2 := F0 m 25 ls [.ref h0, .ref b1]) rfl ?_
      refine kg (ci := 5) G iNa hP 0 rfl rfl 1 (by decide) q505 rfl rfl d_Na_letter_25 ?_
      refine kg (ci := 3) G iIn hP 3 rfl rfl 0 (by decide) q381 rfl rfl d_Na_letter_28 ?_
      refine lv_iload_n G.1 G.2.1 d_Na_letter_31 rfl (lv_at hl 1 rfl) ?_
      refine kiald G hP 4 0 rfl rfl (by omega) (by omega) d_Na_letter_32 ?_
      refine tpi (w := nI a) ha ?_
      refine lv_iload_n G.1 G.2.1 d_Na_letter_33 rfl (lv_at hl 2 rfl) ?_
      refine tpi (w := nI j) hj ?_
      refine lv_iadd G.1 G.2.1 d_Na_letter_34 ?_
      refine tpi (w := nI (a + j)) (nI_add _ _) ?_
      refine kiald G hP 2 0 rfl rfl (by omega) (by omega) d_Na_letter_35 ?_
      have hP : va_P D CL [(h0, .inr (5, [.ref a1, .ref a2, .ref a3, .ref a4, .ref a5, .ref a6, .ref a7, .ref a8, .ref a9, .int mk, .int stt])), (a1, .inr (3, [.ref b1, .int (nI L)])), (b1, .inl (g 0, n1, .inl fl)), (a2, .inr (3, [.ref b2, .int (nI k)])), (b2, .inl (g 0, n2, .inl fs)), (a3, .inr (3, [.ref b3, .int (nI k)])), (b3, .inl (g 0, n3, .inl fz)), (a4, .inr (3, [.ref b4, .int (nI k)])), (b4, .inl (g 0, n4, .inl fn)), (a5, .inl (g 0, 256, .inl fh))] H := hP.sub [0, 1, 2, 3, 4, 5, 6, 7, 8, 9] rfl
      have hD : va_D A [(h0, .inr (5, [.ref a1, .ref a2, .ref a3, .ref a4, .ref a5, .ref a6, .ref a7, .ref a8, .ref a9, .int mk, .int stt])), (a1, .inr (3, [.ref b1, .int (nI L)])), (b1, .inl (g 0, n1, .inl fl)), (a2, .inr (3, [.ref b2, .int (nI k)])), (b2, .inl (g 0, n2, .inl fs)), (a3, .inr (3, [.ref b3, .int (nI k)])), (b3, .inl (g 0, n3, .inl fz)), (a4, .inr (3, [.ref b4, .int (nI k)])), (b4, .inl (g 0, n4, .inl fn)), (a5, .inl (g 0, 256, .inl fh))] := hD.sub [0, 1, 2, 3, 4, 5, 6, 7, 8, 9] (by decide) rfl
      refine hret (fl (a + j)) () _ _ _ _ _ ls trivial hP hD hS (Nat.le_of_ble_eq_true rfl) (Nat.le_of_ble_eq_true rfl) d_Na_letter_36
    · skip
      refine lv_iconst (v := (-1)) G.1 G.2.1 d_Na_letter_13 (by decide) ?_
      refine lv_goto (tgt := 36) G.1 G.2.1 d_Na_letter_14 (by decide) ?_
      have hP : va_P D CL [(h0, .inr (5, [.ref a1, .ref a2, .ref a3, .ref a4, .ref a5, .ref a6, .ref a7, .ref a8, .ref a9, .int mk, .int stt])), (a1, .inr (3, [.ref b1, .int (nI L)])), (b1, .inl (g 0, n1, .inl fl)), (a2, .inr (3, [.ref b2, .int (nI k)])), (b2, .inl (g 0, n2, .inl fs)), (a3, .inr (3, [.ref b3, .int (nI k)])), (b3, .inl (g 0, n3, .inl fz)), (a4, .inr (3, [.ref b4, .int (nI k)])), (b4, .inl (g 0, n4, .inl fn)), (a5, .inl (g 0, 256, .inl fh))] H := hP.sub [0, 1, 2, 3, 4, 5, 6, 7, 8, 9] rfl
      have hD : va_D A [(h0, .inr (5, [.ref a1, .ref a2, .ref a3, .ref a4, .ref a5, .ref a6, .ref a7, .ref a8, .ref a9, .int mk, .int stt])), (a1, .inr (3, [.ref b1, .int (nI L)])), (b1, .inl (g 0, n1, .inl fl)), (a2, .inr (3, [.ref b2, .int (nI k)])), (b2, .inl (g 0, n2, .inl fs)), (a3, .inr (3, [.ref b3, .int (nI k)])), (b3, .inl (g 0, n3, .inl fz)), (a4, .inr (3, [.ref b4, .int (nI k)])), (b4, .inl (g 0, n4, .inl fn)), (a5, .inl (g 0, 256, .inl fh))] := hD.sub [0, 1, 2, 3, 4, 5, 6, 7, 8, 9] (by decide) rfl
      refine hret (-1) () _ _ _ _ _ ls trivial hP hD hS (Nat.le_of_ble_eq_true rfl) (Nat.le_of_ble_eq_true rfl) d_Na_letter_36
