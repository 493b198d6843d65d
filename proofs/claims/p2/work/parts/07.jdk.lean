/-- the first i places are v -/
def fa_fl (f : Nat → Int32) (v : Int32) (i : Nat) : Nat → Int32 := fun j => if j < i then v else f j
theorem fa_fl_succ (f : Nat → Int32) (v : Int32) (i : Nat) : upd (fa_fl f v i) i v = fa_fl f v (i + 1) := by
  funext j
  simp only [upd, fa_fl]
  by_cases h : j = i
  · subst h; simp
  · by_cases h2 : j < i
    · rw [if_neg h, if_pos h2, if_pos (by omega)]
    · rw [if_neg h, if_neg h2, if_neg (by omega)]
theorem fa_fl_0 (f : Nat → Int32) (v : Int32) : fa_fl f v 0 = f := by funext j; simp [fa_fl]
def y_Js_coder : MethodName := ⟨"java/lang/String", "coder", "()B"⟩
abbrev b_Js_coder : ByteArray := prog_22_method_152_code
theorem q421 : Cond.fieldLink "java/lang/String" 38 "java/lang/String" "COMPACT_STRINGS" "Z" ∈ lw_ok := lw_okmem (List.mem_of_getElem? (i := 421) (by decide +kernel)) rfl
theorem q4297 : Cond.fieldLink "java/lang/String" 15 "java/lang/String" "coder" "B" ∈ lw_ok := lw_okmem (List.mem_of_getElem? (i := 4297) (by decide +kernel)) rfl
theorem d_Js_coder_0 : decode b_Js_coder 0 = .ok (.getstatic 38, 3) := by decide +kernel
theorem d_Js_coder_3 : decode b_Js_coder 3 = .ok (.ifCond .eq 10, 3) := by decide +kernel
theorem d_Js_coder_6 : decode b_Js_coder 6 = .ok (.aload_n 0, 1) := by decide +kernel
theorem d_Js_coder_7 : decode b_Js_coder 7 = .ok (.getfield 15, 3) := by decide +kernel
theorem d_Js_coder_10 : decode b_Js_coder 10 = .ok (.goto 4, 3) := by decide +kernel
theorem d_Js_coder_14 : decode b_Js_coder 14 = .ok (.ireturn, 1) := by decide +kernel
abbrev rm_Js_coder : Room := { frames := 0, cells := 0, slots := 0, locals := 0 }
set_option maxHeartbeats 4000000 in
set_option maxRecDepth 100000 in
/-- coder(): Latin 1 -/
theorem c_Js_coder (l : Launch) (D : va_G) (g : Nat → ClassId) (x : SL) (sz : Nat)  : Met l y_Js_coder (mw y_Js_coder b_Js_coder 1 (some (.byte))) (rm_Js_coder) (PC g D [x] [.ref (sk x)] sz []) (va_Qi (fun (r : Int32) (u : Unit) => r = nI 0) (QW D (va_A [] sz) (fun u : Unit => [])) (va_A [] sz)) 0 0 (va_A [] sz) := by
  refine ofZ (by decide +kernel) (Nat.le_of_ble_eq_true rfl) ?_
  intro p e s m args below meth c A Q ls H locs G hsz hP hD hS hl hret
  subst hsz
  have hl : lv_has ls 1 [(0, .ref (sk x))] := hl
  refine va_gets (C := "java/lang/String") (n := "COMPACT_STRINGS") (d := "Z") G.1 G.2.1 G.2.2.2.2.2.2.2.2.2.2.1.sc.1 hS G.2.2.2.2.2.2.1 (G.2.2.2.2.2.1 _ q421) (fun _ h => h) d_Js_coder_0 ?_
  refine lv_if_eq (tgt := 13) G.1 G.2.1 d_Js_coder_3 (by decide) (fun c3 => absurd c3 (by decide)) (fun c3 => ?_)
  refine lv_aload_n G.1 G.2.1 d_Js_coder_6 rfl (lv_at hl 0 rfl) ?_
  refine vk_getf (o := "java/lang/String") (n := "coder") (d := "B") G.1 G.2.1 (G.2.2.2.2.2.2.2.2.2.2.1.2 x List.mem_cons_self).2.2.1 hS G.2.2.2.2.2.2.1 (G.2.2.2.2.2.1 _ q4297) (fun _ h => h) d_Js_coder_7 ?_
  refine tpi (w := nI 0) rfl ?_
  refine lv_goto (tgt := 14) G.1 G.2.1 d_Js_coder_10 (by decide) ?_
  refine hret (nI 0) () _ _ _ _ _ ls (by decide) rfl (hP.sub [] rfl) (hD.sub [] (by decide) rfl) hS (Nat.le_of_ble_eq_true rfl) (Nat.le_of_ble_eq_true rfl) d_Js_coder_14
def y_Js_isLatin1 : MethodName := ⟨"java/lang/String", "isLatin1", "()Z"⟩
abbrev b_Js_isLatin1 : ByteArray := prog_22_method_154_code
theorem d_Js_isLatin1_0 : decode b_Js_isLatin1 0 = .ok (.getstatic 38, 3) := by decide +kernel
theorem d_Js_isLatin1_3 : decode b_Js_isLatin1 3 = .ok (.ifCond .eq 14, 3) := by decide +kernel
theorem d_Js_isLatin1_6 : decode b_Js_isLatin1 6 = .ok (.aload_n 0, 1) := by decide +kernel
theorem d_Js_isLatin1_7 : decode b_Js_isLatin1 7 = .ok (.getfield 15, 3) := by decide +kernel
theorem d_Js_isLatin1_10 : decode b_Js_isLatin1 10 = .ok (.ifCond .ne 7, 3) := by decide +kernel
theorem d_Js_isLatin1_13 : decode b_Js_isLatin1 13 = .ok (.iconst 1, 1) := by decide +kernel
theorem d_Js_isLatin1_14 : decode b_Js_isLatin1 14 = .ok (.goto 4, 3) := by decide +kernel
theorem d_Js_isLatin1_18 : decode b_Js_isLatin1 18 = .ok (.ireturn, 1) := by decide +kernel
abbrev rm_Js_isLatin1 : Room := { frames := 0, cells := 0, slots := 0, locals := 0 }
set_option maxHeartbeats 4000000 in
set_option maxRecDepth 100000 in
theorem c_Js_isLatin1 (l : Launch) (D : va_G) (g : Nat → ClassId) (x : SL) (sz : Nat)  : Met l y_Js_isLatin1 (mw y_Js_isLatin1 b_Js_isLatin1 1 (some (.boolean))) (rm_Js_isLatin1) (PC g D [x] [.ref (sk x)] sz []) (va_Qi (fun (r : Int32) (u : Unit) => r = nI 1) (QW D (va_A [] sz) (fun u : Unit => [])) (va_A [] sz)) 0 0 (va_A [] sz) := by
  refine ofZ (by decide +kernel) (Nat.le_of_ble_eq_true rfl) ?_
  intro p e s m args below meth c A Q ls H locs G hsz hP hD hS hl hret
  subst hsz
  have hl : lv_has ls 1 [(0, .ref (sk x))] := hl
  refine va_gets (C := "java/lang/String") (n := "COMPACT_STRINGS") (d := "Z") G.1 G.2.1 G.2.2.2.2.2.2.2.2.2.2.1.sc.1 hS G.2.2.2.2.2.2.1 (G.2.2.2.2.2.1 _ q421) (fun _ h => h) d_Js_isLatin1_0 ?_
  refine lv_if_eq (tgt := 17) G.1 G.2.1 d_Js_isLatin1_3 (by decide) (fun c3 => absurd c3 (by decide)) (fun c3 => ?_)
  refine lv_aload_n G.1 G.2.1 d_Js_isLatin1_6 rfl (lv_at hl 0 rfl) ?_
  refine vk_getf (o := "java/lang/String") (n := "coder") (d := "B") G.1 G.2.1 (G.2.2.2.2.2.2.2.2.2.2.1.2 x List.mem_cons_self).2.2.1 hS G.2.2.2.2.2.2.1 (G.2.2.2.2.2.1 _ q4297) (fun _ h => h) d_Js_isLatin1_7 ?_
  refine tpi (w := nI 0) rfl ?_
  refine lv_if_ne (tgt := 17) G.1 G.2.1 d_Js_isLatin1_10 (by decide) (fun c10 => absurd c10 (by decide)) (fun c10 => ?_)
  refine lv_iconst (v := nI 1) G.1 G.2.1 d_Js_isLatin1_13 (by decide) ?_
  refine lv_goto (tgt := 18) G.1 G.2.1 d_Js_isLatin1_14 (by decide) ?_
  refine hret (nI 1) () _ _ _ _ _ ls (by decide) rfl (hP.sub [] rfl) (hD.sub [] (by decide) rfl) hS (Nat.le_of_ble_eq_true rfl) (Nat.le_of_ble_eq_true rfl) d_Js_isLatin1_18
def y_Js_length : MethodName := ⟨"java/lang/String", "length", "()I"⟩
abbrev b_Js_length : ByteArray := prog_22_method_54_code
theorem q4296 : Cond.fieldLink "java/lang/String" 9 "java/lang/String" "value" "[B" ∈ lw_ok := lw_okmem (List.mem_of_getElem? (i := 4296) (by decide +kernel)) rfl
theorem q420 : Cond.code y_Js_coder b_Js_coder 1 (some (.byte)) ∈ lw_ok := lw_okmem (List.mem_of_getElem? (i := 420) (by decide +kernel)) rfl
theorem q333 : Cond.initialized "java/lang/String" ∈ lw_ok := lw_okmem (List.mem_of_getElem? (i := 333) (by decide +kernel)) rfl
theorem q418 : Cond.instanceMethod y_Js_coder ∈ lw_ok := lw_okmem (List.mem_of_getElem? (i := 418) (by decide +kernel)) rfl
theorem q419 : Cond.selects y_Js_coder.cls y_Js_coder y_Js_coder ∈ lw_ok := lw_okmem (List.mem_of_getElem? (i := 419) (by decide +kernel)) rfl
theorem w_Js_coder : CWv y_Js_coder b_Js_coder 1 (some (.byte)) 0 ∧ Cond.instanceMethod y_Js_coder ∈ lw_ok ∧ Cond.selects y_Js_coder.cls y_Js_coder y_Js_coder ∈ lw_ok := ⟨⟨q420, q333, by decide +kernel, by decide +kernel, by decide +kernel⟩, q418, q419⟩
theorem q417 : Cond.methodLink "java/lang/String" 335 y_Js_coder ∈ lw_ok := lw_okmem (List.mem_of_getElem? (i := 417) (by decide +kernel)) rfl
theorem d_Js_length_0 : decode b_Js_length 0 = .ok (.aload_n 0, 1) := by decide +kernel
theorem d_Js_length_1 : decode b_Js_length 1 = .ok (.getfield 9, 3) := by decide +kernel
theorem d_Js_length_4 : decode b_Js_length 4 = .ok (.arraylength, 1) := by decide +kernel
theorem d_Js_length_5 : decode b_Js_length 5 = .ok (.aload_n 0, 1) := by decide +kernel
theorem d_Js_length_6 : decode b_Js_length 6 = .ok (.invokevirtual 335, 3) := by decide +kernel
theorem d_Js_length_9 : decode b_Js_length 9 = .ok (.ishr, 1) := by decide +kernel
theorem d_Js_length_10 : decode b_Js_length 10 = .ok (.ireturn, 1) := by decide +kernel
abbrev rm_Js_length : Room := { frames := 1, cells := 0, slots := 0, locals := 20 }
set_option maxHeartbeats 4000000 in
set_option maxRecDepth 100000 in
/-- length() -/
theorem c_Js_length (l : Launch) (D : va_G) (g : Nat → ClassId) (x : SL) (sz : Nat)  : Met l y_Js_length (mw y_Js_length b_Js_length 1 (some .int)) (rm_Js_length) (PC g D [x] [.ref (sk x)] sz []) (va_Qi (fun (r : Int32) (u : Unit) => r = nI (sb x).length) (QW D (va_A [] sz) (fun u : Unit => [])) (va_A [] sz)) 0 0 (va_A [] sz) := by
  refine ofI (by decide +kernel) (Nat.le_of_ble_eq_true rfl) ?_
  intro p e s m args below meth c A Q ls H locs G hsz hP hD hS hl hret
  subst hsz
  have hl : lv_has ls 1 [(0, .ref (sk x))] := hl
  refine lv_aload_n G.1 G.2.1 d_Js_length_0 rfl (lv_at hl 0 rfl) ?_
  refine vk_getf (o := "java/lang/String") (n := "value") (d := "[B") G.1 G.2.1 (G.2.2.2.2.2.2.2.2.2.2.1.2 x List.mem_cons_self).2.2.2.1 hS G.2.2.2.2.2.2.1 (G.2.2.2.2.2.1 _ q4296) (fun _ h => h) d_Js_length_1 ?_
  refine va_tlen (v := nI ((sb x).length)) G.1 G.2.1 (G.2.2.2.2.2.2.2.2.2.2.1.2 x List.mem_cons_self).2.2.2.2 hS rfl d_Js_length_4 ?_
  refine lv_aload_n G.1 G.2.1 d_Js_length_5 rfl (lv_at hl 0 rfl) ?_
  refine kEi (wr := []) G (kVr (As := []) (rest := [.int (nI ((sb x).length))]) G hP hD hS [] rfl rfl (c_Js_coder l D g x H.size ) w_Js_coder q417 rfl rfl ⟨Nat.le_of_ble_eq_true rfl, Nat.le_of_ble_eq_true rfl⟩ (fun _ h => h) (S1.recv (G.2.2.2.2.2.2.2.2.2.2.1.2 x List.mem_cons_self) hS) hl.1 rfl (Nat.le_of_ble_eq_true rfl) rfl ⟨Nat.le_of_ble_eq_true rfl, (Nat.le_of_ble_eq_true rfl)⟩ d_Js_length_6) hP hD hS [] [] rfl rfl rfl rfl (fun r_1 u_2 H locs hw hP hD hS hzH => ?_)
  have hw : r_1 = nI 0 := hw
  have hP : va_P D CL [] H := hP
  have hD : va_D A [] := hD
  subst hw
  refine lv_ishr G.1 G.2.1 d_Js_length_9 ?_
  refine hret ((nI ((sb x).length)) >>> ((nI 0) &&& 31)) () _ _ _ _ _ ls (sb_shr0 _) (hP.sub [] rfl) (hD.sub [] (by decide) rfl) hS (Nat.le_of_ble_eq_true rfl) (Nat.le_of_ble_eq_true rfl) d_Js_length_10
def y_Jp_checkIndex : MethodName := ⟨"jdk/internal/util/Preconditions", "checkIndex", "(IILjava/util/function/BiFunction;)I"⟩
abbrev b_Jp_checkIndex : ByteArray := prog_28_method_11_code
theorem d_Jp_checkIndex_0 : decode b_Jp_checkIndex 0 = .ok (.iload_n 0, 1) := by decide +kernel
theorem d_Jp_checkIndex_1 : decode b_Jp_checkIndex 1 = .ok (.ifCond .lt 8, 3) := by decide +kernel
theorem d_Jp_checkIndex_4 : decode b_Jp_checkIndex 4 = .ok (.iload_n 0, 1) := by decide +kernel
theorem d_Jp_checkIndex_5 : decode b_Jp_checkIndex 5 = .ok (.iload_n 1, 1) := by decide +kernel
theorem d_Jp_checkIndex_6 : decode b_Jp_checkIndex 6 = .ok (.if_icmp .lt 10, 3) := by decide +kernel
theorem d_Jp_checkIndex_16 : decode b_Jp_checkIndex 16 = .ok (.iload_n 0, 1) := by decide +kernel
theorem d_Jp_checkIndex_17 : decode b_Jp_checkIndex 17 = .ok (.ireturn, 1) := by decide +kernel
abbrev rm_Jp_checkIndex_r : Room := { frames := 0, cells := 0, slots := 0, locals := 0 }
set_option maxHeartbeats 4000000 in
set_option maxRecDepth 100000 in
theorem c_Jp_checkIndex_r (l : Launch) (D : va_G) (g : Nat → ClassId) (i n r9 : Nat) (sz : Nat) (hi : i < n) (hn : n < 2 ^ 30) : Met l y_Jp_checkIndex (mw y_Jp_checkIndex b_Jp_checkIndex 3 (some .int)) (rm_Jp_checkIndex_r) (PC g D [] [.int (nI i), .int (nI n), .ref r9] sz []) (va_Qi (fun (r : Int32) (u : Unit) => r = nI i) (QW D (va_A [] sz) (fun u : Unit => [])) (va_A [] sz)) 0 0 (va_A [] sz) := by
  refine ofI (by decide +kernel) (Nat.le_of_ble_eq_true rfl) ?_
  intro p e s m args below meth c A Q ls H locs G hsz hP hD hS hl hret
  subst hsz
  have hl : lv_has ls 3 [(0, .int (nI i)), (1, .int (nI n)), (2, .ref r9)] := hl
  refine lv_iload_n G.1 G.2.1 d_Jp_checkIndex_0 rfl (lv_at hl 0 rfl) ?_
  refine lv_if_lt (tgt := 9) G.1 G.2.1 d_Jp_checkIndex_1 (by decide) (fun c1 => absurd c1 (nI_pos (by omega))) (fun c1 => ?_)
  refine lv_iload_n G.1 G.2.1 d_Jp_checkIndex_4 rfl (lv_at hl 0 rfl) ?_
  refine lv_iload_n G.1 G.2.1 d_Jp_checkIndex_5 rfl (lv_at hl 1 rfl) ?_
  refine lv_icmp_lt (tgt := 16) G.1 G.2.1 d_Jp_checkIndex_6 (by decide) (fun c6 => ?_) (fun c6 => absurd c6 (fun h => h ((nI_ltI (by omega) (by omega)).mpr (by omega))))
  have c6 : i < n := (nI_ltI (by omega) (by omega)).mp c6
  refine lv_iload_n G.1 G.2.1 d_Jp_checkIndex_16 rfl (lv_at hl 0 rfl) ?_
  refine hret (nI i) () _ _ _ _ _ ls rfl (hP.sub [] rfl) (hD.sub [] (by decide) rfl) hS (Nat.le_of_ble_eq_true rfl) (Nat.le_of_ble_eq_true rfl) d_Jp_checkIndex_17
abbrev rm_Jp_checkIndex_n : Room := { frames := 0, cells := 0, slots := 0, locals := 0 }
set_option maxHeartbeats 4000000 in
set_option maxRecDepth 100000 in
theorem c_Jp_checkIndex_n (l : Launch) (D : va_G) (g : Nat → ClassId) (i n : Nat) (sz : Nat) (hi : i < n) (hn : n < 2 ^ 30) : Met l y_Jp_checkIndex (mw y_Jp_checkIndex b_Jp_checkIndex 3 (some .int)) (rm_Jp_checkIndex_n) (PC g D [] [.int (nI i), .int (nI n), .null] sz []) (va_Qi (fun (r : Int32) (u : Unit) => r = nI i) (QW D (va_A [] sz) (fun u : Unit => [])) (va_A [] sz)) 0 0 (va_A [] sz) := by
  refine ofI (by decide +kernel) (Nat.le_of_ble_eq_true rfl) ?_
  intro p e s m args below meth c A Q ls H locs G hsz hP hD hS hl hret
  subst hsz
  have hl : lv_has ls 3 [(0, .int (nI i)), (1, .int (nI n)), (2, .null)] := hl
  refine lv_iload_n G.1 G.2.1 d_Jp_checkIndex_0 rfl (lv_at hl 0 rfl) ?_
  refine lv_if_lt (tgt := 9) G.1 G.2.1 d_Jp_checkIndex_1 (by decide) (fun c1 => absurd c1 (nI_pos (by omega))) (fun c1 => ?_)
  refine lv_iload_n G.1 G.2.1 d_Jp_checkIndex_4 rfl (lv_at hl 0 rfl) ?_
  refine lv_iload_n G.1 G.2.1 d_Jp_checkIndex_5 rfl (lv_at hl 1 rfl) ?_
  refine lv_icmp_lt (tgt := 16) G.1 G.2.1 d_Jp_checkIndex_6 (by decide) (fun c6 => ?_) (fun c6 => absurd c6 (fun h => h ((nI_ltI (by omega) (by omega)).mpr (by omega))))
  have c6 : i < n := (nI_ltI (by omega) (by omega)).mp c6
  refine lv_iload_n G.1 G.2.1 d_Jp_checkIndex_16 rfl (lv_at hl 0 rfl) ?_
  refine hret (nI i) () _ _ _ _ _ ls rfl (hP.sub [] rfl) (hD.sub [] (by decide) rfl) hS (Nat.le_of_ble_eq_true rfl) (Nat.le_of_ble_eq_true rfl) d_Jp_checkIndex_17
def y_Js_checkIndex : MethodName := ⟨"java/lang/String", "checkIndex", "(II)V"⟩
abbrev b_Js_checkIndex : ByteArray := prog_22_method_155_code
theorem q437 : Cond.fieldLink "java/lang/String" 1053 "jdk/internal/util/Preconditions" "SIOOBE_FORMATTER" "Ljava/util/function/BiFunction;" ∈ lw_ok := lw_okmem (List.mem_of_getElem? (i := 437) (by decide +kernel)) rfl
theorem q441 : Cond.code y_Jp_checkIndex b_Jp_checkIndex 3 (some .int) ∈ lw_ok := lw_okmem (List.mem_of_getElem? (i := 441) (by decide +kernel)) rfl
theorem q335 : Cond.initialized "jdk/internal/util/Preconditions" ∈ lw_ok := lw_okmem (List.mem_of_getElem? (i := 335) (by decide +kernel)) rfl
theorem q440 : Cond.static y_Jp_checkIndex ∈ lw_ok := lw_okmem (List.mem_of_getElem? (i := 440) (by decide +kernel)) rfl
theorem w_Jp_checkIndex : CWv y_Jp_checkIndex b_Jp_checkIndex 3 (some .int) 3 ∧ Cond.static y_Jp_checkIndex ∈ lw_ok := ⟨⟨q441, q335, by decide +kernel, by decide +kernel, by decide +kernel⟩, q440⟩
theorem q439 : Cond.methodLink "java/lang/String" 1059 y_Jp_checkIndex ∈ lw_ok := lw_okmem (List.mem_of_getElem? (i := 439) (by decide +kernel)) rfl
theorem d_Js_checkIndex_0 : decode b_Js_checkIndex 0 = .ok (.iload_n 0, 1) := by decide +kernel
theorem d_Js_checkIndex_1 : decode b_Js_checkIndex 1 = .ok (.iload_n 1, 1) := by decide +kernel
theorem d_Js_checkIndex_2 : decode b_Js_checkIndex 2 = .ok (.getstatic 1053, 3) := by decide +kernel
theorem d_Js_checkIndex_5 : decode b_Js_checkIndex 5 = .ok (.invokestatic 1059, 3) := by decide +kernel
theorem d_Js_checkIndex_8 : decode b_Js_checkIndex 8 = .ok (.pop, 1) := by decide +kernel
theorem d_Js_checkIndex_9 : decode b_Js_checkIndex 9 = .ok (.return_, 1) := by decide +kernel
abbrev rm_Js_checkIndex : Room := { frames := 1, cells := 0, slots := 0, locals := 22 }
set_option maxHeartbeats 4000000 in
set_option maxRecDepth 100000 in
theorem c_Js_checkIndex (l : Launch) (D : va_G) (g : Nat → ClassId) (x : SL) (i n : Nat) (sz : Nat) (hi : i < n) (hn : n < 2 ^ 30) : Met l y_Js_checkIndex (mw y_Js_checkIndex b_Js_checkIndex 2 (none)) (rm_Js_checkIndex) (PC g D [x] [.int (nI i), .int (nI n)] sz []) (va_Qv (fun u : Unit => True) (QW D (va_A [] sz) (fun u : Unit => [])) (va_A [] sz)) 0 0 (va_A [] sz) := by
  refine ofV (by decide +kernel) (Nat.le_of_ble_eq_true rfl) ?_
  intro p e s m args below meth c A Q ls H locs G hsz hP hD hS hl hret
  subst hsz
  have hl : lv_has ls 2 [(0, .int (nI i)), (1, .int (nI n))] := hl
  refine lv_iload_n G.1 G.2.1 d_Js_checkIndex_0 rfl (lv_at hl 0 rfl) ?_
  refine lv_iload_n G.1 G.2.1 d_Js_checkIndex_1 rfl (lv_at hl 1 rfl) ?_
  rcases G.2.2.2.2.2.2.2.2.2.2.1.sc.2.1 with hz9 | ⟨t9, hz9⟩
  · skip
    refine va_gets (C := "jdk/internal/util/Preconditions") (n := "SIOOBE_FORMATTER") (d := "Ljava/util/function/BiFunction;") G.1 G.2.1 hz9 hS G.2.2.2.2.2.2.1 (G.2.2.2.2.2.1 _ q437) (fun _ h => h) d_Js_checkIndex_2 ?_
    refine kEi (wr := []) G (kS (As := [.int (nI i), .int (nI n), .null]) (rest := []) G hP hD hS [] rfl rfl (c_Jp_checkIndex_n l D g i n H.size hi hn) w_Jp_checkIndex q439 rfl rfl ⟨Nat.le_of_ble_eq_true rfl, Nat.le_of_ble_eq_true rfl⟩ (fun _ h => absurd h List.not_mem_nil) hl.1 rfl (Nat.le_of_ble_eq_true rfl) rfl ⟨Nat.le_of_ble_eq_true rfl, (Nat.le_of_ble_eq_true rfl)⟩ d_Js_checkIndex_5) hP hD hS [] [] rfl rfl rfl rfl (fun r_1 u_2 H locs hw hP hD hS hzH => ?_)
    have hw : r_1 = nI i := hw
    have hP : va_P D CL [] H := hP
    have hD : va_D A [] := hD
    refine lv_pop G.1 G.2.1 d_Js_checkIndex_8 rfl ?_
    refine hret () _ _ _ _ _ ls trivial (hP.sub [] rfl) (hD.sub [] (by decide) rfl) hS (Nat.le_of_ble_eq_true rfl) (Nat.le_of_ble_eq_true rfl) d_Js_checkIndex_9
  · skip
    refine va_gets (C := "jdk/internal/util/Preconditions") (n := "SIOOBE_FORMATTER") (d := "Ljava/util/function/BiFunction;") G.1 G.2.1 hz9 hS G.2.2.2.2.2.2.1 (G.2.2.2.2.2.1 _ q437) (fun _ h => h) d_Js_checkIndex_2 ?_
    refine kEi (wr := []) G (kS (As := [.int (nI i), .int (nI n), .ref t9]) (rest := []) G hP hD hS [] rfl rfl (c_Jp_checkIndex_r l D g i n t9 H.size hi hn) w_Jp_checkIndex q439 rfl rfl ⟨Nat.le_of_ble_eq_true rfl, Nat.le_of_ble_eq_true rfl⟩ (fun _ h => absurd h List.not_mem_nil) hl.1 rfl (Nat.le_of_ble_eq_true rfl) rfl ⟨Nat.le_of_ble_eq_true rfl, (Nat.le_of_ble_eq_true rfl)⟩ d_Js_checkIndex_5) hP hD hS [] [] rfl rfl rfl rfl (fun r_3 u_4 H locs hw hP hD hS hzH => ?_)
    have hw : r_3 = nI i := hw
    have hP : va_P D CL [] H := hP
    have hD : va_D A [] := hD
    refine lv_pop G.1 G.2.1 d_Js_checkIndex_8 rfl ?_
    refine hret () _ _ _ _ _ ls trivial (hP.sub [] rfl) (hD.sub [] (by decide) rfl) hS (Nat.le_of_ble_eq_true rfl) (Nat.le_of_ble_eq_true rfl) d_Js_checkIndex_9
def y_Jl_charAt : MethodName := ⟨"java/lang/StringLatin1", "charAt", "([BI)C"⟩
abbrev b_Jl_charAt : ByteArray := prog_23_method_2_code
theorem q436 : Cond.code y_Js_checkIndex b_Js_checkIndex 2 (none) ∈ lw_ok := lw_okmem (List.mem_of_getElem? (i := 436) (by decide +kernel)) rfl
theorem q435 : Cond.static y_Js_checkIndex ∈ lw_ok := lw_okmem (List.mem_of_getElem? (i := 435) (by decide +kernel)) rfl
theorem w_Js_checkIndex : CWv y_Js_checkIndex b_Js_checkIndex 2 (none) 2 ∧ Cond.static y_Js_checkIndex ∈ lw_ok := ⟨⟨q436, q333, by decide +kernel, by decide +kernel, by decide +kernel⟩, q435⟩
theorem q434 : Cond.methodLink "java/lang/StringLatin1" 9 y_Js_checkIndex ∈ lw_ok := lw_okmem (List.mem_of_getElem? (i := 434) (by decide +kernel)) rfl
theorem d_Jl_charAt_0 : decode b_Jl_charAt 0 = .ok (.iload_n 1, 1) := by decide +kernel
theorem d_Jl_charAt_1 : decode b_Jl_charAt 1 = .ok (.aload_n 0, 1) := by decide +kernel
theorem d_Jl_charAt_2 : decode b_Jl_charAt 2 = .ok (.arraylength, 1) := by decide +kernel
theorem d_Jl_charAt_3 : decode b_Jl_charAt 3 = .ok (.invokestatic 9, 3) := by decide +kernel
theorem d_Jl_charAt_6 : decode b_Jl_charAt 6 = .ok (.aload_n 0, 1) := by decide +kernel
theorem d_Jl_charAt_7 : decode b_Jl_charAt 7 = .ok (.iload_n 1, 1) := by decide +kernel
theorem d_Jl_charAt_8 : decode b_Jl_charAt 8 = .ok (.baload, 1) := by decide +kernel
theorem d_Jl_charAt_9 : decode b_Jl_charAt 9 = .ok (.sipush 255, 3) := by decide +kernel
theorem d_Jl_charAt_12 : decode b_Jl_charAt 12 = .ok (.iand, 1) := by decide +kernel
theorem d_Jl_charAt_13 : decode b_Jl_charAt 13 = .ok (.i2c, 1) := by decide +kernel
theorem d_Jl_charAt_14 : decode b_Jl_charAt 14 = .ok (.ireturn, 1) := by decide +kernel
abbrev rm_Jl_charAt : Room := { frames := 2, cells := 0, slots := 0, locals := 43 }
set_option maxHeartbeats 4000000 in
set_option maxRecDepth 100000 in
theorem c_Jl_charAt (l : Launch) (D : va_G) (g : Nat → ClassId) (x : SL) (i : Nat) (sz : Nat) (hi : i < (sb x).length) (hx : (sb x).length < 2 ^ 30) : Met l y_Jl_charAt (mw y_Jl_charAt b_Jl_charAt 2 (some (.char))) (rm_Jl_charAt) (PC g D [x] [.ref (sv x), .int (nI i)] sz []) (va_Qi (fun (r : Int32) (u : Unit) => r = (sb x).getD i 0 &&& 255) (QW D (va_A [] sz) (fun u : Unit => [])) (va_A [] sz)) 0 0 (va_A [] sz) := by
  refine ofZ (by decide +kernel) (Nat.le_of_ble_eq_true rfl) ?_
  intro p e s m args below meth c A Q ls H locs G hsz hP hD hS hl hret
  subst hsz
  have hl : lv_has ls 2 [(0, .ref (sv x)), (1, .int (nI i))] := hl
  refine lv_iload_n G.1 G.2.1 d_Jl_charAt_0 rfl (lv_at hl 1 rfl) ?_
  refine lv_aload_n G.1 G.2.1 d_Jl_charAt_1 rfl (lv_at hl 0 rfl) ?_
  refine va_tlen (v := nI ((sb x).length)) G.1 G.2.1 (G.2.2.2.2.2.2.2.2.2.2.1.2 x List.mem_cons_self).2.2.2.2 hS rfl d_Jl_charAt_2 ?_
  refine kEv (wr := []) G (kS (As := [.int (nI i), .int (nI ((sb x).length))]) (rest := []) G hP hD hS [] rfl rfl (c_Js_checkIndex l D g x i ((sb x).length) H.size hi hx) w_Js_checkIndex q434 rfl rfl ⟨Nat.le_of_ble_eq_true rfl, Nat.le_of_ble_eq_true rfl⟩ (fun _ h => h) hl.1 rfl (Nat.le_of_ble_eq_true rfl) rfl ⟨Nat.le_of_ble_eq_true rfl, (Nat.le_of_ble_eq_true rfl)⟩ d_Jl_charAt_3) hP hD hS [] [] rfl rfl rfl rfl (fun u_2 H locs hw hP hD hS hzH => ?_)
  have hw : True := hw
  have hP : va_P D CL [] H := hP
  have hD : va_D A [] := hD
  refine lv_aload_n G.1 G.2.1 d_Jl_charAt_6 rfl (lv_at hl 0 rfl) ?_
  refine lv_iload_n G.1 G.2.1 d_Jl_charAt_7 rfl (lv_at hl 1 rfl) ?_
  refine va_tb (v := .int ((sb x).getD i 0)) G.1 G.2.1 (G.2.2.2.2.2.2.2.2.2.2.1.2 x List.mem_cons_self).2.2.2.2 hS (nI_inn (by omega) (by omega)) (by rw [nI_clamp (by omega)]) d_Jl_charAt_8 ?_
  refine lv_sipush (v := nI 255) G.1 G.2.1 d_Jl_charAt_9 (by decide) ?_
  refine lv_iand G.1 G.2.1 d_Jl_charAt_12 ?_
  refine lv_i2c G.1 G.2.1 d_Jl_charAt_13 rfl ?_
  refine hret (((((sb x).getD i 0) &&& (nI 255)).toUInt32 % 65536).toInt32) () _ _ _ _ _ ls (by show narrow .char (.int ((((sb x).getD i 0) &&& 255).toUInt32 % 65536).toInt32) = .int ((((sb x).getD i 0) &&& 255).toUInt32 % 65536).toInt32; rw [sc_c2]; exact sc_nar _) (sc_c2 _) (hP.sub [] rfl) (hD.sub [] (by decide) rfl) hS (Nat.le_of_ble_eq_true rfl) (Nat.le_of_ble_eq_true rfl) d_Jl_charAt_14
def y_Js_charAt : MethodName := ⟨"java/lang/String", "charAt", "(I)C"⟩
abbrev b_Js_charAt : ByteArray := prog_22_method_56_code
theorem q430 : Cond.code y_Js_isLatin1 b_Js_isLatin1 1 (some (.boolean)) ∈ lw_ok := lw_okmem (List.mem_of_getElem? (i := 430) (by decide +kernel)) rfl
theorem q428 : Cond.instanceMethod y_Js_isLatin1 ∈ lw_ok := lw_okmem (List.mem_of_getElem? (i := 428) (by decide +kernel)) rfl
theorem q429 : Cond.selects y_Js_isLatin1.cls y_Js_isLatin1 y_Js_isLatin1 ∈ lw_ok := lw_okmem (List.mem_of_getElem? (i := 429) (by decide +kernel)) rfl
theorem w_Js_isLatin1 : CWv y_Js_isLatin1 b_Js_isLatin1 1 (some (.boolean)) 0 ∧ Cond.instanceMethod y_Js_isLatin1 ∈ lw_ok ∧ Cond.selects y_Js_isLatin1.cls y_Js_isLatin1 y_Js_isLatin1 ∈ lw_ok := ⟨⟨q430, q333, by decide +kernel, by decide +kernel, by decide +kernel⟩, q428, q429⟩
theorem q427 : Cond.methodLink "java/lang/String" 492 y_Js_isLatin1 ∈ lw_ok := lw_okmem (List.mem_of_getElem? (i := 427) (by decide +kernel)) rfl
theorem q433 : Cond.code y_Jl_charAt b_Jl_charAt 2 (some (.char)) ∈ lw_ok := lw_okmem (List.mem_of_getElem? (i := 433) (by decide +kernel)) rfl
theorem q334 : Cond.initialized "java/lang/StringLatin1" ∈ lw_ok := lw_okmem (List.mem_of_getElem? (i := 334) (by decide +kernel)) rfl
theorem q432 : Cond.static y_Jl_charAt ∈ lw_ok := lw_okmem (List.mem_of_getElem? (i := 432) (by decide +kernel)) rfl
theorem w_Jl_charAt : CWv y_Jl_charAt b_Jl_charAt 2 (some (.char)) 2 ∧ Cond.static y_Jl_charAt ∈ lw_ok := ⟨⟨q433, q334, by decide +kernel, by decide +kernel, by decide +kernel⟩, q432⟩
theorem q431 : Cond.methodLink "java/lang/String" 495 y_Jl_charAt ∈ lw_ok := lw_okmem (List.mem_of_getElem? (i := 431) (by decide +kernel)) rfl
theorem d_Js_charAt_0 : decode b_Js_charAt 0 = .ok (.aload_n 0, 1) := by decide +kernel
theorem d_Js_charAt_1 : decode b_Js_charAt 1 = .ok (.invokevirtual 492, 3) := by decide +kernel
theorem d_Js_charAt_4 : decode b_Js_charAt 4 = .ok (.ifCond .eq 12, 3) := by decide +kernel
theorem d_Js_charAt_7 : decode b_Js_charAt 7 = .ok (.aload_n 0, 1) := by decide +kernel
theorem d_Js_charAt_8 : decode b_Js_charAt 8 = .ok (.getfield 9, 3) := by decide +kernel
theorem d_Js_charAt_11 : decode b_Js_charAt 11 = .ok (.iload_n 1, 1) := by decide +kernel
theorem d_Js_charAt_12 : decode b_Js_charAt 12 = .ok (.invokestatic 495, 3) := by decide +kernel
theorem d_Js_charAt_15 : decode b_Js_charAt 15 = .ok (.ireturn, 1) := by decide +kernel
abbrev rm_Js_charAt : Room := { frames := 3, cells := 0, slots := 0, locals := 64 }
set_option maxHeartbeats 4000000 in
set_option maxRecDepth 100000 in
/-- charAt(i) -/
theorem c_Js_charAt (l : Launch) (D : va_G) (g : Nat → ClassId) (x : SL) (i : Nat) (sz : Nat) (hi : i < (sb x).length) (hx : (sb x).length < 2 ^ 30) : Met l y_Js_charAt (mw y_Js_charAt b_Js_charAt 2 (some (.char))) (rm_Js_charAt) (PC g D [x] [.ref (sk x), .int (nI i)] sz []) (va_Qi (fun (r : Int32) (u : Unit) => r = (sb x).getD i 0 &&& 255) (QW D (va_A [] sz) (fun u : Unit => [])) (va_A [] sz)) 0 0 (va_A [] sz) := by
  refine ofZ (by decide +kernel) (Nat.le_of_ble_eq_true rfl) ?_
  intro p e s m args below meth c A Q ls H locs G hsz hP hD hS hl hret
  subst hsz
  have hl : lv_has ls 2 [(0, .ref (sk x)), (1, .int (nI i))] := hl
  refine lv_aload_n G.1 G.2.1 d_Js_charAt_0 rfl (lv_at hl 0 rfl) ?_
  refine kEi (wr := []) G (kVr (As := []) (rest := []) G hP hD hS [] rfl rfl (c_Js_isLatin1 l D g x H.size ) w_Js_isLatin1 q427 rfl rfl ⟨Nat.le_of_ble_eq_true rfl, Nat.le_of_ble_eq_true rfl⟩ (fun _ h => h) (S1.recv (G.2.2.2.2.2.2.2.2.2.2.1.2 x List.mem_cons_self) hS) hl.1 rfl (Nat.le_of_ble_eq_true rfl) rfl ⟨Nat.le_of_ble_eq_true rfl, (Nat.le_of_ble_eq_true rfl)⟩ d_Js_charAt_1) hP hD hS [] [] rfl rfl rfl rfl (fun r_1 u_2 H locs hw hP hD hS hzH => ?_)
  have hw : r_1 = nI 1 := hw
  have hP : va_P D CL [] H := hP
  have hD : va_D A [] := hD
  subst hw
  refine lv_if_eq (tgt := 16) G.1 G.2.1 d_Js_charAt_4 (by decide) (fun c4 => absurd c4 (by decide)) (fun c4 => ?_)
  refine lv_aload_n G.1 G.2.1 d_Js_charAt_7 rfl (lv_at hl 0 rfl) ?_
  refine vk_getf (o := "java/lang/String") (n := "value") (d := "[B") G.1 G.2.1 (G.2.2.2.2.2.2.2.2.2.2.1.2 x List.mem_cons_self).2.2.2.1 hS G.2.2.2.2.2.2.1 (G.2.2.2.2.2.1 _ q4296) (fun _ h => h) d_Js_charAt_8 ?_
  refine lv_iload_n G.1 G.2.1 d_Js_charAt_11 rfl (lv_at hl 1 rfl) ?_
  refine kEi (wr := []) G (kS (As := [.ref (sv x), .int (nI i)]) (rest := []) G hP hD hS [] rfl rfl (c_Jl_charAt l D g x i H.size hi hx) w_Jl_charAt q431 rfl rfl ⟨Nat.le_of_ble_eq_true rfl, Nat.le_of_ble_eq_true rfl⟩ (fun _ h => h) hl.1 rfl (Nat.le_of_ble_eq_true rfl) rfl ⟨Nat.le_of_ble_eq_true rfl, (Nat.le_of_ble_eq_true rfl)⟩ d_Js_charAt_12) hP hD hS [] [] rfl rfl rfl rfl (fun r_3 u_4 H locs hw hP hD hS hzH => ?_)
  have hw : r_3 = (sb x).getD i 0 &&& 255 := hw
  have hP : va_P D CL [] H := hP
  have hD : va_D A [] := hD
  refine hret r_3 () _ _ _ _ _ ls (by rw [hw]; exact sc_nar _) hw (hP.sub [] rfl) (hD.sub [] (by decide) rfl) hS (Nat.le_of_ble_eq_true rfl) (Nat.le_of_ble_eq_true rfl) d_Js_charAt_15
def y_Ja_fill_aIIV : MethodName := ⟨"java/util/Arrays", "fill", "([II)V"⟩
abbrev b_Ja_fill_aIIV : ByteArray := prog_27_method_103_code
theorem d_Ja_fill_aIIV_0 : decode b_Ja_fill_aIIV 0 = .ok (.iconst 0, 1) := by decide +kernel
theorem d_Ja_fill_aIIV_1 : decode b_Ja_fill_aIIV 1 = .ok (.istore_n 2, 1) := by decide +kernel
theorem d_Ja_fill_aIIV_2 : decode b_Ja_fill_aIIV 2 = .ok (.aload_n 0, 1) := by decide +kernel
theorem d_Ja_fill_aIIV_3 : decode b_Ja_fill_aIIV 3 = .ok (.arraylength, 1) := by decide +kernel
theorem d_Ja_fill_aIIV_4 : decode b_Ja_fill_aIIV 4 = .ok (.istore_n 3, 1) := by decide +kernel
theorem d_Ja_fill_aIIV_5 : decode b_Ja_fill_aIIV 5 = .ok (.iload_n 2, 1) := by decide +kernel
theorem d_Ja_fill_aIIV_6 : decode b_Ja_fill_aIIV 6 = .ok (.iload_n 3, 1) := by decide +kernel
theorem d_Ja_fill_aIIV_7 : decode b_Ja_fill_aIIV 7 = .ok (.if_icmp .ge 13, 3) := by decide +kernel
theorem d_Ja_fill_aIIV_10 : decode b_Ja_fill_aIIV 10 = .ok (.aload_n 0, 1) := by decide +kernel
theorem d_Ja_fill_aIIV_11 : decode b_Ja_fill_aIIV 11 = .ok (.iload_n 2, 1) := by decide +kernel
theorem d_Ja_fill_aIIV_12 : decode b_Ja_fill_aIIV 12 = .ok (.iload_n 1, 1) := by decide +kernel
theorem d_Ja_fill_aIIV_13 : decode b_Ja_fill_aIIV 13 = .ok (.iastore, 1) := by decide +kernel
theorem d_Ja_fill_aIIV_14 : decode b_Ja_fill_aIIV 14 = .ok (.iinc 2 1, 3) := by decide +kernel
theorem d_Ja_fill_aIIV_17 : decode b_Ja_fill_aIIV 17 = .ok (.goto (-12), 3) := by decide +kernel
theorem d_Ja_fill_aIIV_20 : decode b_Ja_fill_aIIV 20 = .ok (.return_, 1) := by decide +kernel
abbrev rm_Ja_fill_aIIV : Room := { frames := 0, cells := 0, slots := 0, locals := 0 }
set_option maxHeartbeats 4000000 in
set_option maxRecDepth 100000 in
/-- fill: every place -/
theorem c_Ja_fill_aIIV (l : Launch) (D : va_G) (g : Nat → ClassId) (q n : Nat) (f : Nat → Int32) (v : Int32) (sz : Nat) (hn : n < 2 ^ 30) : Met l y_Ja_fill_aIIV (mw y_Ja_fill_aIIV b_Ja_fill_aIIV 4 (none)) (rm_Ja_fill_aIIV) (PC g D [] [.ref q, .int v] sz [(q, .inl (g 0, n, .inl f))]) (va_Qv (fun u : Unit => True) (QW D (va_A [(q, .inl (g 0, n, .inl f))] sz) (fun u : Unit => [(q, .inl (g 0, n, .inl (fa_fl f v n)))])) (va_A [(q, .inl (g 0, n, .inl f))] sz)) 0 0 (va_A [(q, .inl (g 0, n, .inl f))] sz) := by
  refine ofV (by decide +kernel) (Nat.le_of_ble_eq_true rfl) ?_
  intro p e s m args below meth c A Q ls H locs G hsz hP hD hS hl hret
  subst hsz
  have hl : lv_has ls 4 [(0, .ref q), (1, .int v)] := hl
  refine lv_iconst (v := nI 0) G.1 G.2.1 d_Ja_fill_aIIV_0 (by decide) ?_
  refine lv_istore_n (lv' := [(2, .int (nI 0)), (0, .ref q), (1, .int v)]) G.1 G.2.1 d_Ja_fill_aIIV_1 rfl hl (by decide) rfl (fun ls hl => ?_)
  refine lv_aload_n G.1 G.2.1 d_Ja_fill_aIIV_2 rfl (lv_at hl 1 rfl) ?_
  refine kalen G hP 0 0 rfl rfl d_Ja_fill_aIIV_3 ?_
  refine tpi (w := nI n) rfl ?_
  refine lv_istore_n (lv' := [(3, .int (nI n)), (2, .int (nI 0)), (0, .ref q), (1, .int v)]) G.1 G.2.1 d_Ja_fill_aIIV_4 rfl hl (by decide) rfl (fun ls hl => ?_)
  have L_1 : ∀ (k_L_1 : Nat) (i : Nat), (n - i) < k_L_1 → (i ≤ n) → ∀ (H : Heap) (locs : List Loc), va_P D CL [(q, .inl (g 0, n, .inl (fa_fl f v i)))] H → va_D A [(q, .inl (g 0, n, .inl (fa_fl f v i)))] → va_S A s.heap H locs → ∀ ls, lv_has ls 4 [(0, .ref q), (1, .int v), (2, .int (nI i)), (3, .int (nI n))] → W p l e rm_Ja_fill_aIIV s m args below meth c H locs 0 0 Q (F0 m 5 ls []) := by
    intro k_L_1
    induction k_L_1 with
    | zero => intro i hk_L_1; exact absurd hk_L_1 (Nat.not_lt_zero _)
    | succ k_L_1 ih_L_1 =>
      intro i hk_L_1 hi H locs hP hD hS ls hl
      refine lv_iload_n G.1 G.2.1 d_Ja_fill_aIIV_5 rfl (lv_at hl 2 rfl) ?_
      refine lv_iload_n G.1 G.2.1 d_Ja_fill_aIIV_6 rfl (lv_at hl 3 rfl) ?_
      refine lv_icmp_ge (tgt := 20) G.1 G.2.1 d_Ja_fill_aIIV_7 (by decide) (fun c7 => ?_) (fun c7 => ?_)
      · skip
        have c7 : n ≤ i := (nI_leI (by omega) (by omega)).mp c7
        have hin : n = i := by omega
        subst hin
        refine hret () _ _ _ _ _ ls trivial (hP.sub [0] rfl) (hD.sub [0] (by decide) rfl) hS (Nat.le_of_ble_eq_true rfl) (Nat.le_of_ble_eq_true rfl) d_Ja_fill_aIIV_20
      · skip
        have c7 : ¬ (n ≤ i) := fun h => c7 ((nI_leI (by omega) (by omega)).mpr h)
        refine lv_aload_n G.1 G.2.1 d_Ja_fill_aIIV_10 rfl (lv_at hl 0 rfl) ?_
        refine lv_iload_n G.1 G.2.1 d_Ja_fill_aIIV_11 rfl (lv_at hl 2 rfl) ?_
        refine lv_iload_n G.1 G.2.1 d_Ja_fill_aIIV_12 rfl (lv_at hl 1 rfl) ?_
        refine kiast G hP hD hS 0 0 rfl rfl (by omega) (by omega) d_Ja_fill_aIIV_13 (fun H locs hP hD hS => ?_)
        have hP : va_P D CL [(q, .inl (g 0, n, .inl (upd (fa_fl f v i) i v)))] H := hP
        have hD : va_D A [(q, .inl (g 0, n, .inl (upd (fa_fl f v i) i v)))] := hD
        rw [fa_fl_succ] at hP hD
        have hP : va_P D CL [(q, .inl (g 0, n, .inl (fa_fl f v (i + 1))))] H := hP
        have hD : va_D A [(q, .inl (g 0, n, .inl (fa_fl f v (i + 1))))] := hD
        refine W.eq (g2 := F0 m 14 ls []) rfl ?_
        refine lv_iinc (v := nI (i + 1)) (lv' := [(2, .int (nI (i + 1))), (0, .ref q), (1, .int v), (3, .int (nI n))]) G.1 G.2.1 d_Ja_fill_aIIV_14 hl (k := 2) rfl (show (nI i) + Int32.ofInt 1 = nI (i + 1) from nI_1 _) (by decide) rfl (fun ls hl => ?_)
        refine lv_goto (tgt := 5) G.1 G.2.1 d_Ja_fill_aIIV_17 (by decide) ?_
        exact ih_L_1 (i + 1) (by omega) (by omega) _ _ (hP.sub [0] rfl) (hD.sub [0] (by decide) rfl) hS ls (lv_sub hl [1, 2, 0, 3] rfl)
  exact L_1 (_ + 1) 0 (Nat.lt_succ_self _) (Nat.zero_le _) _ _ (hP.sub [0] rfl) (hD.sub [0] (by decide) rfl) hS ls (lv_sub hl [2, 3, 1, 0] rfl)
