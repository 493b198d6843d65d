def y_Na_nameOf : MethodName := ⟨"ClassWorks$Names", "nameOf", "(I)I"⟩
abbrev b_Na_nameOf : ByteArray := prog_7_method_10_code
theorem q509 : Cond.fieldLink "ClassWorks$Names" 33 "ClassWorks$Names" "signs" "LClassWorks$Ints;" ∈ lw_ok := lw_okmem (List.mem_of_getElem? (i := 509) (by decide +kernel)) rfl
theorem d_Na_nameOf_0 : decode b_Na_nameOf 0 = .ok (.aload_n 0, 1) := by decide +kernel
theorem d_Na_nameOf_1 : decode b_Na_nameOf 1 = .ok (.getfield 33, 3) := by decide +kernel
theorem d_Na_nameOf_4 : decode b_Na_nameOf 4 = .ok (.getfield 101, 3) := by decide +kernel
theorem d_Na_nameOf_7 : decode b_Na_nameOf 7 = .ok (.iload_n 1, 1) := by decide +kernel
theorem d_Na_nameOf_8 : decode b_Na_nameOf 8 = .ok (.iconst 1, 1) := by decide +kernel
theorem d_Na_nameOf_9 : decode b_Na_nameOf 9 = .ok (.iadd, 1) := by decide +kernel
theorem d_Na_nameOf_10 : decode b_Na_nameOf 10 = .ok (.iaload, 1) := by decide +kernel
theorem d_Na_nameOf_11 : decode b_Na_nameOf 11 = .ok (.ireturn, 1) := by decide +kernel
abbrev rm_Na_nameOf : Room := { frames := 0, cells := 0, slots := 0, locals := 0 }
set_option maxHeartbeats 4000000 in
set_option maxRecDepth 100000 in
/-- nameOf -/
theorem c_Na_nameOf (l : Launch) (D : va_G) (g : Nat → ClassId) (h0 : Nat) (sg : Nat) (a1 : Nat) (a2 : Nat) (a3 : Nat) (a4 : Nat) (a5 : Nat) (a6 : Nat) (a7 : Nat) (a8 : Nat) (a9 : Nat) (mk : Int32) (stt : Int32) (b6 : Nat) (ks : Nat) (n6 : Nat) (fg : Nat → Int32) (sz : Nat) (hs : sg + 4 ≤ n6) (hn6 : n6 < 2 ^ 24) : Met l y_Na_nameOf (mw y_Na_nameOf b_Na_nameOf 2 (some .int)) (rm_Na_nameOf) (PC g D [] [.ref h0, .int (nI sg)] sz [(h0, .inr (5, [.ref a1, .ref a2, .ref a3, .ref a4, .ref a5, .ref a6, .ref a7, .ref a8, .ref a9, .int mk, .int stt])), (a6, .inr (3, [.ref b6, .int (nI ks)])), (b6, .inl (g 0, n6, .inl fg))]) (va_Qi (fun (r : Int32) (u : Unit) => r = fg (sg + 1)) (QW D (va_A [(h0, .inr (5, [.ref a1, .ref a2, .ref a3, .ref a4, .ref a5, .ref a6, .ref a7, .ref a8, .ref a9, .int mk, .int stt])), (a6, .inr (3, [.ref b6, .int (nI ks)])), (b6, .inl (g 0, n6, .inl fg))] sz) (fun u : Unit => [(h0, .inr (5, [.ref a1, .ref a2, .ref a3, .ref a4, .ref a5, .ref a6, .ref a7, .ref a8, .ref a9, .int mk, .int stt])), (a6, .inr (3, [.ref b6, .int (nI ks)])), (b6, .inl (g 0, n6, .inl fg))])) (va_A [(h0, .inr (5, [.ref a1, .ref a2, .ref a3, .ref a4, .ref a5, .ref a6, .ref a7, .ref a8, .ref a9, .int mk, .int stt])), (a6, .inr (3, [.ref b6, .int (nI ks)])), (b6, .inl (g 0, n6, .inl fg))] sz)) 0 0 (va_A [(h0, .inr (5, [.ref a1, .ref a2, .ref a3, .ref a4, .ref a5, .ref a6, .ref a7, .ref a8, .ref a9, .int mk, .int stt])), (a6, .inr (3, [.ref b6, .int (nI ks)])), (b6, .inl (g 0, n6, .inl fg))] sz) := by
  refine ofI (by decide +kernel) (Nat.le_of_ble_eq_true rfl) ?_
  intro p e s m args below meth c A Q ls H locs G hsz hP hD hS hl hret
  subst hsz
  have hl : lv_has ls 2 [(0, .ref h0), (1, .int (nI sg))] := hl
  refine lv_aload_n G.1 G.2.1 d_Na_nameOf_0 rfl (lv_at hl 0 rfl) ?_
  refine kg (ci := 5) G iNa hP 0 rfl rfl 5 (by decide) q509 rfl rfl d_Na_nameOf_1 ?_
  refine kg (ci := 3) G iIn hP 1 rfl rfl 0 (by decide) q381 rfl rfl d_Na_nameOf_4 ?_
  refine lv_iload_n G.1 G.2.1 d_Na_nameOf_7 rfl (lv_at hl 1 rfl) ?_
  refine lv_iconst (v := nI 1) G.1 G.2.1 d_Na_nameOf_8 (by decide) ?_
  refine lv_iadd G.1 G.2.1 d_Na_nameOf_9 ?_
  refine tpi (w := nI (sg + 1)) (nI_add _ _) ?_
  refine kiald G hP 2 0 rfl rfl (by omega) (by omega) d_Na_nameOf_10 ?_
  refine hret (fg (sg + 1)) () _ _ _ _ _ ls rfl (hP.sub [0, 1, 2] rfl) (hD.sub [0, 1, 2] (by decide) rfl) hS (Nat.le_of_ble_eq_true rfl) (Nat.le_of_ble_eq_true rfl) d_Na_nameOf_11
def y_Na_resultOf : MethodName := ⟨"ClassWorks$Names", "resultOf", "(I)I"⟩
abbrev b_Na_resultOf : ByteArray := prog_7_method_11_code
theorem d_Na_resultOf_0 : decode b_Na_resultOf 0 = .ok (.aload_n 0, 1) := by decide +kernel
theorem d_Na_resultOf_1 : decode b_Na_resultOf 1 = .ok (.getfield 33, 3) := by decide +kernel
theorem d_Na_resultOf_4 : decode b_Na_resultOf 4 = .ok (.getfield 101, 3) := by decide +kernel
theorem d_Na_resultOf_7 : decode b_Na_resultOf 7 = .ok (.iload_n 1, 1) := by decide +kernel
theorem d_Na_resultOf_8 : decode b_Na_resultOf 8 = .ok (.iconst 2, 1) := by decide +kernel
theorem d_Na_resultOf_9 : decode b_Na_resultOf 9 = .ok (.iadd, 1) := by decide +kernel
theorem d_Na_resultOf_10 : decode b_Na_resultOf 10 = .ok (.iaload, 1) := by decide +kernel
theorem d_Na_resultOf_11 : decode b_Na_resultOf 11 = .ok (.ireturn, 1) := by decide +kernel
abbrev rm_Na_resultOf : Room := { frames := 0, cells := 0, slots := 0, locals := 0 }
set_option maxHeartbeats 4000000 in
set_option maxRecDepth 100000 in
/-- resultOf -/
theorem c_Na_resultOf (l : Launch) (D : va_G) (g : Nat → ClassId) (h0 : Nat) (sg : Nat) (a1 : Nat) (a2 : Nat) (a3 : Nat) (a4 : Nat) (a5 : Nat) (a6 : Nat) (a7 : Nat) (a8 : Nat) (a9 : Nat) (mk : Int32) (stt : Int32) (b6 : Nat) (ks : Nat) (n6 : Nat) (fg : Nat → Int32) (sz : Nat) (hs : sg + 4 ≤ n6) (hn6 : n6 < 2 ^ 24) : Met l y_Na_resultOf (mw y_Na_resultOf b_Na_resultOf 2 (some .int)) (rm_Na_resultOf) (PC g D [] [.ref h0, .int (nI sg)] sz [(h0, .inr (5, [.ref a1, .ref a2, .ref a3, .ref a4, .ref a5, .ref a6, .ref a7, .ref a8, .ref a9, .int mk, .int stt])), (a6, .inr (3, [.ref b6, .int (nI ks)])), (b6, .inl (g 0, n6, .inl fg))]) (va_Qi (fun (r : Int32) (u : Unit) => r = fg (sg + 2)) (QW D (va_A [(h0, .inr (5, [.ref a1, .ref a2, .ref a3, .ref a4, .ref a5, .ref a6, .ref a7, .ref a8, .ref a9, .int mk, .int stt])), (a6, .inr (3, [.ref b6, .int (nI ks)])), (b6, .inl (g 0, n6, .inl fg))] sz) (fun u : Unit => [(h0, .inr (5, [.ref a1, .ref a2, .ref a3, .ref a4, .ref a5, .ref a6, .ref a7, .ref a8, .ref a9, .int mk, .int stt])), (a6, .inr (3, [.ref b6, .int (nI ks)])), (b6, .inl (g 0, n6, .inl fg))])) (va_A [(h0, .inr (5, [.ref a1, .ref a2, .ref a3, .ref a4, .ref a5, .ref a6, .ref a7, .ref a8, .ref a9, .int mk, .int stt])), (a6, .inr (3, [.ref b6, .int (nI ks)])), (b6, .inl (g 0, n6, .inl fg))] sz)) 0 0 (va_A [(h0, .inr (5, [.ref a1, .ref a2, .ref a3, .ref a4, .ref a5, .ref a6, .ref a7, .ref a8, .ref a9, .int mk, .int stt])), (a6, .inr (3, [.ref b6, .int (nI ks)])), (b6, .inl (g 0, n6, .inl fg))] sz) := by
  refine ofI (by decide +kernel) (Nat.le_of_ble_eq_true rfl) ?_
  intro p e s m args below meth c A Q ls H locs G hsz hP hD hS hl hret
  subst hsz
  have hl : lv_has ls 2 [(0, .ref h0), (1, .int (nI sg))] := hl
  refine lv_aload_n G.1 G.2.1 d_Na_resultOf_0 rfl (lv_at hl 0 rfl) ?_
  refine kg (ci := 5) G iNa hP 0 rfl rfl 5 (by decide) q509 rfl rfl d_Na_resultOf_1 ?_
  refine kg (ci := 3) G iIn hP 1 rfl rfl 0 (by decide) q381 rfl rfl d_Na_resultOf_4 ?_
  refine lv_iload_n G.1 G.2.1 d_Na_resultOf_7 rfl (lv_at hl 1 rfl) ?_
  refine lv_iconst (v := nI 2) G.1 G.2.1 d_Na_resultOf_8 (by decide) ?_
  refine lv_iadd G.1 G.2.1 d_Na_resultOf_9 ?_
  refine tpi (w := nI (sg + 2)) (nI_add _ _) ?_
  refine kiald G hP 2 0 rfl rfl (by omega) (by omega) d_Na_resultOf_10 ?_
  refine hret (fg (sg + 2)) () _ _ _ _ _ ls rfl (hP.sub [0, 1, 2] rfl) (hD.sub [0, 1, 2] (by decide) rfl) hS (Nat.le_of_ble_eq_true rfl) (Nat.le_of_ble_eq_true rfl) d_Na_resultOf_11
def y_Na_argumentsOf : MethodName := ⟨"ClassWorks$Names", "argumentsOf", "(I)I"⟩
abbrev b_Na_argumentsOf : ByteArray := prog_7_method_12_code
theorem d_Na_argumentsOf_0 : decode b_Na_argumentsOf 0 = .ok (.aload_n 0, 1) := by decide +kernel
theorem d_Na_argumentsOf_1 : decode b_Na_argumentsOf 1 = .ok (.getfield 33, 3) := by decide +kernel
theorem d_Na_argumentsOf_4 : decode b_Na_argumentsOf 4 = .ok (.getfield 101, 3) := by decide +kernel
theorem d_Na_argumentsOf_7 : decode b_Na_argumentsOf 7 = .ok (.iload_n 1, 1) := by decide +kernel
theorem d_Na_argumentsOf_8 : decode b_Na_argumentsOf 8 = .ok (.iconst 3, 1) := by decide +kernel
theorem d_Na_argumentsOf_9 : decode b_Na_argumentsOf 9 = .ok (.iadd, 1) := by decide +kernel
theorem d_Na_argumentsOf_10 : decode b_Na_argumentsOf 10 = .ok (.iaload, 1) := by decide +kernel
theorem d_Na_argumentsOf_11 : decode b_Na_argumentsOf 11 = .ok (.ireturn, 1) := by decide +kernel
abbrev rm_Na_argumentsOf : Room := { frames := 0, cells := 0, slots := 0, locals := 0 }
set_option maxHeartbeats 4000000 in
set_option maxRecDepth 100000 in
/-- argumentsOf -/
theorem c_Na_argumentsOf (l : Launch) (D : va_G) (g : Nat → ClassId) (h0 : Nat) (sg : Nat) (a1 : Nat) (a2 : Nat) (a3 : Nat) (a4 : Nat) (a5 : Nat) (a6 : Nat) (a7 : Nat) (a8 : Nat) (a9 : Nat) (mk : Int32) (stt : Int32) (b6 : Nat) (ks : Nat) (n6 : Nat) (fg : Nat → Int32) (sz : Nat) (hs : sg + 4 ≤ n6) (hn6 : n6 < 2 ^ 24) : Met l y_Na_argumentsOf (mw y_Na_argumentsOf b_Na_argumentsOf 2 (some .int)) (rm_Na_argumentsOf) (PC g D [] [.ref h0, .int (nI sg)] sz [(h0, .inr (5, [.ref a1, .ref a2, .ref a3, .ref a4, .ref a5, .ref a6, .ref a7, .ref a8, .ref a9, .int mk, .int stt])), (a6, .inr (3, [.ref b6, .int (nI ks)])), (b6, .inl (g 0, n6, .inl fg))]) (va_Qi (fun (r : Int32) (u : Unit) => r = fg (sg + 3)) (QW D (va_A [(h0, .inr (5, [.ref a1, .ref a2, .ref a3, .ref a4, .ref a5, .ref a6, .ref a7, .ref a8, .ref a9, .int mk, .int stt])), (a6, .inr (3, [.ref b6, .int (nI ks)])), (b6, .inl (g 0, n6, .inl fg))] sz) (fun u : Unit => [(h0, .inr (5, [.ref a1, .ref a2, .ref a3, .ref a4, .ref a5, .ref a6, .ref a7, .ref a8, .ref a9, .int mk, .int stt])), (a6, .inr (3, [.ref b6, .int (nI ks)])), (b6, .inl (g 0, n6, .inl fg))])) (va_A [(h0, .inr (5, [.ref a1, .ref a2, .ref a3, .ref a4, .ref a5, .ref a6, .ref a7, .ref a8, .ref a9, .int mk, .int stt])), (a6, .inr (3, [.ref b6, .int (nI ks)])), (b6, .inl (g 0, n6, .inl fg))] sz)) 0 0 (va_A [(h0, .inr (5, [.ref a1, .ref a2, .ref a3, .ref a4, .ref a5, .ref a6, .ref a7, .ref a8, .ref a9, .int mk, .int stt])), (a6, .inr (3, [.ref b6, .int (nI ks)])), (b6, .inl (g 0, n6, .inl fg))] sz) := by
  refine ofI (by decide +kernel) (Nat.le_of_ble_eq_true rfl) ?_
  intro p e s m args below meth c A Q ls H locs G hsz hP hD hS hl hret
  subst hsz
  have hl : lv_has ls 2 [(0, .ref h0), (1, .int (nI sg))] := hl
  refine lv_aload_n G.1 G.2.1 d_Na_argumentsOf_0 rfl (lv_at hl 0 rfl) ?_
  refine kg (ci := 5) G iNa hP 0 rfl rfl 5 (by decide) q509 rfl rfl d_Na_argumentsOf_1 ?_
  refine kg (ci := 3) G iIn hP 1 rfl rfl 0 (by decide) q381 rfl rfl d_Na_argumentsOf_4 ?_
  refine lv_iload_n G.1 G.2.1 d_Na_argumentsOf_7 rfl (lv_at hl 1 rfl) ?_
  refine lv_iconst (v := nI 3) G.1 G.2.1 d_Na_argumentsOf_8 (by decide) ?_
  refine lv_iadd G.1 G.2.1 d_Na_argumentsOf_9 ?_
  refine tpi (w := nI (sg + 3)) (nI_add _ _) ?_
  refine kiald G hP 2 0 rfl rfl (by omega) (by omega) d_Na_argumentsOf_10 ?_
  refine hret (fg (sg + 3)) () _ _ _ _ _ ls rfl (hP.sub [0, 1, 2] rfl) (hD.sub [0, 1, 2] (by decide) rfl) hS (Nat.le_of_ble_eq_true rfl) (Nat.le_of_ble_eq_true rfl) d_Na_argumentsOf_11
def y_Na_typeOf : MethodName := ⟨"ClassWorks$Names", "typeOf", "(II)I"⟩
abbrev b_Na_typeOf : ByteArray := prog_7_method_13_code
theorem d_Na_typeOf_0 : decode b_Na_typeOf 0 = .ok (.aload_n 0, 1) := by decide +kernel
theorem d_Na_typeOf_1 : decode b_Na_typeOf 1 = .ok (.getfield 33, 3) := by decide +kernel
theorem d_Na_typeOf_4 : decode b_Na_typeOf 4 = .ok (.getfield 101, 3) := by decide +kernel
theorem d_Na_typeOf_7 : decode b_Na_typeOf 7 = .ok (.iload_n 1, 1) := by decide +kernel
theorem d_Na_typeOf_8 : decode b_Na_typeOf 8 = .ok (.iconst 4, 1) := by decide +kernel
theorem d_Na_typeOf_9 : decode b_Na_typeOf 9 = .ok (.iadd, 1) := by decide +kernel
theorem d_Na_typeOf_10 : decode b_Na_typeOf 10 = .ok (.iload_n 2, 1) := by decide +kernel
theorem d_Na_typeOf_11 : decode b_Na_typeOf 11 = .ok (.iadd, 1) := by decide +kernel
theorem d_Na_typeOf_12 : decode b_Na_typeOf 12 = .ok (.iaload, 1) := by decide +kernel
theorem d_Na_typeOf_13 : decode b_Na_typeOf 13 = .ok (.ireturn, 1) := by decide +kernel
abbrev rm_Na_typeOf : Room := { frames := 0, cells := 0, slots := 0, locals := 0 }
set_option maxHeartbeats 4000000 in
set_option maxRecDepth 100000 in
/-- typeOf -/
theorem c_Na_typeOf (l : Launch) (D : va_G) (g : Nat → ClassId) (h0 : Nat) (sg : Nat) (i9 : Nat) (a1 : Nat) (a2 : Nat) (a3 : Nat) (a4 : Nat) (a5 : Nat) (a6 : Nat) (a7 : Nat) (a8 : Nat) (a9 : Nat) (mk : Int32) (stt : Int32) (b6 : Nat) (ks : Nat) (n6 : Nat) (fg : Nat → Int32) (sz : Nat) (hs : sg + 4 + i9 < n6) (hn6 : n6 < 2 ^ 24) : Met l y_Na_typeOf (mw y_Na_typeOf b_Na_typeOf 3 (some .int)) (rm_Na_typeOf) (PC g D [] [.ref h0, .int (nI sg), .int (nI i9)] sz [(h0, .inr (5, [.ref a1, .ref a2, .ref a3, .ref a4, .ref a5, .ref a6, .ref a7, .ref a8, .ref a9, .int mk, .int stt])), (a6, .inr (3, [.ref b6, .int (nI ks)])), (b6, .inl (g 0, n6, .inl fg))]) (va_Qi (fun (r : Int32) (u : Unit) => r = fg (sg + 4 + i9)) (QW D (va_A [(h0, .inr (5, [.ref a1, .ref a2, .ref a3, .ref a4, .ref a5, .ref a6, .ref a7, .ref a8, .ref a9, .int mk, .int stt])), (a6, .inr (3, [.ref b6, .int (nI ks)])), (b6, .inl (g 0, n6, .inl fg))] sz) (fun u : Unit => [(h0, .inr (5, [.ref a1, .ref a2, .ref a3, .ref a4, .ref a5, .ref a6, .ref a7, .ref a8, .ref a9, .int mk, .int stt])), (a6, .inr (3, [.ref b6, .int (nI ks)])), (b6, .inl (g 0, n6, .inl fg))])) (va_A [(h0, .inr (5, [.ref a1, .ref a2, .ref a3, .ref a4, .ref a5, .ref a6, .ref a7, .ref a8, .ref a9, .int mk, .int stt])), (a6, .inr (3, [.ref b6, .int (nI ks)])), (b6, .inl (g 0, n6, .inl fg))] sz)) 0 0 (va_A [(h0, .inr (5, [.ref a1, .ref a2, .ref a3, .ref a4, .ref a5, .ref a6, .ref a7, .ref a8, .ref a9, .int mk, .int stt])), (a6, .inr (3, [.ref b6, .int (nI ks)])), (b6, .inl (g 0, n6, .inl fg))] sz) := by
  refine ofI (by decide +kernel) (Nat.le_of_ble_eq_true rfl) ?_
  intro p e s m args below meth c A Q ls H locs G hsz hP hD hS hl hret
  subst hsz
  have hl : lv_has ls 3 [(0, .ref h0), (1, .int (nI sg)), (2, .int (nI i9))] := hl
  refine lv_aload_n G.1 G.2.1 d_Na_typeOf_0 rfl (lv_at hl 0 rfl) ?_
  refine kg (ci := 5) G iNa hP 0 rfl rfl 5 (by decide) q509 rfl rfl d_Na_typeOf_1 ?_
  refine kg (ci := 3) G iIn hP 1 rfl rfl 0 (by decide) q381 rfl rfl d_Na_typeOf_4 ?_
  refine lv_iload_n G.1 G.2.1 d_Na_typeOf_7 rfl (lv_at hl 1 rfl) ?_
  refine lv_iconst (v := nI 4) G.1 G.2.1 d_Na_typeOf_8 (by decide) ?_
  refine lv_iadd G.1 G.2.1 d_Na_typeOf_9 ?_
  refine tpi (w := nI (sg + 4)) (nI_add _ _) ?_
  refine lv_iload_n G.1 G.2.1 d_Na_typeOf_10 rfl (lv_at hl 2 rfl) ?_
  refine lv_iadd G.1 G.2.1 d_Na_typeOf_11 ?_
  refine tpi (w := nI (sg + 4 + i9)) (nI_add _ _) ?_
  refine kiald G hP 2 0 rfl rfl (by omega) (by omega) d_Na_typeOf_12 ?_
  refine hret (fg (sg + 4 + i9)) () _ _ _ _ _ ls rfl (hP.sub [0, 1, 2] rfl) (hD.sub [0, 1, 2] (by decide) rfl) hS (Nat.le_of_ble_eq_true rfl) (Nat.le_of_ble_eq_true rfl) d_Na_typeOf_13
def y_Na_operation : MethodName := ⟨"ClassWorks$Names", "operation", "(I)I"⟩
abbrev b_Na_operation : ByteArray := prog_7_method_7_code
theorem q511 : Cond.fieldLink "ClassWorks$Names" 39 "ClassWorks$Names" "operationOf" "[I" ∈ lw_ok := lw_okmem (List.mem_of_getElem? (i := 511) (by decide +kernel)) rfl
theorem d_Na_operation_0 : decode b_Na_operation 0 = .ok (.iload_n 1, 1) := by decide +kernel
theorem d_Na_operation_1 : decode b_Na_operation 1 = .ok (.sipush 128, 3) := by decide +kernel
theorem d_Na_operation_4 : decode b_Na_operation 4 = .ok (.if_icmp .ge 12, 3) := by decide +kernel
theorem d_Na_operation_7 : decode b_Na_operation 7 = .ok (.aload_n 0, 1) := by decide +kernel
theorem d_Na_operation_8 : decode b_Na_operation 8 = .ok (.getfield 39, 3) := by decide +kernel
theorem d_Na_operation_11 : decode b_Na_operation 11 = .ok (.iload_n 1, 1) := by decide +kernel
theorem d_Na_operation_12 : decode b_Na_operation 12 = .ok (.iaload, 1) := by decide +kernel
theorem d_Na_operation_13 : decode b_Na_operation 13 = .ok (.goto 4, 3) := by decide +kernel
theorem d_Na_operation_16 : decode b_Na_operation 16 = .ok (.iconst (-1), 1) := by decide +kernel
theorem d_Na_operation_17 : decode b_Na_operation 17 = .ok (.ireturn, 1) := by decide +kernel
abbrev rm_Na_operation : Room := { frames := 0, cells := 0, slots := 0, locals := 0 }
set_option maxHeartbeats 4000000 in
set_option maxRecDepth 100000 in
/-- operation(id) -/
theorem c_Na_operation (l : Launch) (D : va_G) (g : Nat → ClassId) (h0 : Nat) (id : Nat) (a1 : Nat) (a2 : Nat) (a3 : Nat) (a4 : Nat) (a5 : Nat) (a6 : Nat) (a7 : Nat) (a8 : Nat) (a9 : Nat) (mk : Int32) (stt : Int32) (fo : Nat → Int32) (sz : Nat) (hid : id < 2 ^ 24) : Met l y_Na_operation (mw y_Na_operation b_Na_operation 2 (some .int)) (rm_Na_operation) (PC g D [] [.ref h0, .int (nI id)] sz [(h0, .inr (5, [.ref a1, .ref a2, .ref a3, .ref a4, .ref a5, .ref a6, .ref a7, .ref a8, .ref a9, .int mk, .int stt])), (a8, .inl (g 0, 128, .inl fo))]) (va_Qi (fun (r : Int32) (u : Unit) => (id < 128 ∧ r = fo id) ∨ (¬ id < 128 ∧ r = -1)) (QW D (va_A [(h0, .inr (5, [.ref a1, .ref a2, .ref a3, .ref a4, .ref a5, .ref a6, .ref a7, .ref a8, .ref a9, .int mk, .int stt])), (a8, .inl (g 0, 128, .inl fo))] sz) (fun u : Unit => [(h0, .inr (5, [.ref a1, .ref a2, .ref a3, .ref a4, .ref a5, .ref a6, .ref a7, .ref a8, .ref a9, .int mk, .int stt])), (a8, .inl (g 0, 128, .inl fo))])) (va_A [(h0, .inr (5, [.ref a1, .ref a2, .ref a3, .ref a4, .ref a5, .ref a6, .ref a7, .ref a8, .ref a9, .int mk, .int stt])), (a8, .inl (g 0, 128, .inl fo))] sz)) 0 0 (va_A [(h0, .inr (5, [.ref a1, .ref a2, .ref a3, .ref a4, .ref a5, .ref a6, .ref a7, .ref a8, .ref a9, .int mk, .int stt])), (a8, .inl (g 0, 128, .inl fo))] sz) := by
  refine ofI (by decide +kernel) (Nat.le_of_ble_eq_true rfl) ?_
  intro p e s m args below meth c A Q ls H locs G hsz hP hD hS hl hret
  subst hsz
  have hl : lv_has ls 2 [(0, .ref h0), (1, .int (nI id))] := hl
  refine lv_iload_n G.1 G.2.1 d_Na_operation_0 rfl (lv_at hl 1 rfl) ?_
  refine lv_sipush (v := nI 128) G.1 G.2.1 d_Na_operation_1 (by decide) ?_
  refine lv_icmp_ge (tgt := 16) G.1 G.2.1 d_Na_operation_4 (by decide) (fun c4 => ?_) (fun c4 => ?_)
  · skip
    have c4 : 128 ≤ id := (nI_leI (by omega) (by omega)).mp c4
    refine lv_iconst (v := (-1)) G.1 G.2.1 d_Na_operation_16 (by decide) ?_
    refine hret (-1) () _ _ _ _ _ ls (Or.inr ⟨by omega, rfl⟩) (hP.sub [0, 1] rfl) (hD.sub [0, 1] (by decide) rfl) hS (Nat.le_of_ble_eq_true rfl) (Nat.le_of_ble_eq_true rfl) d_Na_operation_17
  · skip
    have c4 : ¬ (128 ≤ id) := fun h => c4 ((nI_leI (by omega) (by omega)).mpr h)
    refine lv_aload_n G.1 G.2.1 d_Na_operation_7 rfl (lv_at hl 0 rfl) ?_
    refine kg (ci := 5) G iNa hP 0 rfl rfl 7 (by decide) q511 rfl rfl d_Na_operation_8 ?_
    refine lv_iload_n G.1 G.2.1 d_Na_operation_11 rfl (lv_at hl 1 rfl) ?_
    refine kiald G hP 1 0 rfl rfl (by omega) (by omega) d_Na_operation_12 ?_
    refine lv_goto (tgt := 17) G.1 G.2.1 d_Na_operation_13 (by decide) ?_
    refine hret (fo id) () _ _ _ _ _ ls (Or.inl ⟨by omega, rfl⟩) (hP.sub [0, 1] rfl) (hD.sub [0, 1] (by decide) rfl) hS (Nat.le_of_ble_eq_true rfl) (Nat.le_of_ble_eq_true rfl) d_Na_operation_17
def y_Na_isSameSign : MethodName := ⟨"ClassWorks$Names", "isSameSign", "(III[II)Z"⟩
abbrev b_Na_isSameSign : ByteArray := prog_7_method_9_code
theorem d_Na_isSameSign_0 : decode b_Na_isSameSign 0 = .ok (.aload_n 0, 1) := by decide +kernel
theorem d_Na_isSameSign_1 : decode b_Na_isSameSign 1 = .ok (.getfield 33, 3) := by decide +kernel
theorem d_Na_isSameSign_4 : decode b_Na_isSameSign 4 = .ok (.getfield 101, 3) := by decide +kernel
theorem d_Na_isSameSign_7 : decode b_Na_isSameSign 7 = .ok (.iload_n 1, 1) := by decide +kernel
theorem d_Na_isSameSign_8 : decode b_Na_isSameSign 8 = .ok (.iconst 1, 1) := by decide +kernel
theorem d_Na_isSameSign_9 : decode b_Na_isSameSign 9 = .ok (.iadd, 1) := by decide +kernel
theorem d_Na_isSameSign_10 : decode b_Na_isSameSign 10 = .ok (.iaload, 1) := by decide +kernel
theorem d_Na_isSameSign_11 : decode b_Na_isSameSign 11 = .ok (.iload_n 2, 1) := by decide +kernel
theorem d_Na_isSameSign_12 : decode b_Na_isSameSign 12 = .ok (.if_icmp .ne 34, 3) := by decide +kernel
theorem d_Na_isSameSign_15 : decode b_Na_isSameSign 15 = .ok (.aload_n 0, 1) := by decide +kernel
theorem d_Na_isSameSign_16 : decode b_Na_isSameSign 16 = .ok (.getfield 33, 3) := by decide +kernel
theorem d_Na_isSameSign_19 : decode b_Na_isSameSign 19 = .ok (.getfield 101, 3) := by decide +kernel
theorem d_Na_isSameSign_22 : decode b_Na_isSameSign 22 = .ok (.iload_n 1, 1) := by decide +kernel
theorem d_Na_isSameSign_23 : decode b_Na_isSameSign 23 = .ok (.iconst 2, 1) := by decide +kernel
theorem d_Na_isSameSign_24 : decode b_Na_isSameSign 24 = .ok (.iadd, 1) := by decide +kernel
theorem d_Na_isSameSign_25 : decode b_Na_isSameSign 25 = .ok (.iaload, 1) := by decide +kernel
theorem d_Na_isSameSign_26 : decode b_Na_isSameSign 26 = .ok (.iload 5, 2) := by decide +kernel
theorem d_Na_isSameSign_28 : decode b_Na_isSameSign 28 = .ok (.if_icmp .ne 18, 3) := by decide +kernel
theorem d_Na_isSameSign_31 : decode b_Na_isSameSign 31 = .ok (.aload_n 0, 1) := by decide +kernel
theorem d_Na_isSameSign_32 : decode b_Na_isSameSign 32 = .ok (.getfield 33, 3) := by decide +kernel
theorem d_Na_isSameSign_35 : decode b_Na_isSameSign 35 = .ok (.getfield 101, 3) := by decide +kernel
theorem d_Na_isSameSign_38 : decode b_Na_isSameSign 38 = .ok (.iload_n 1, 1) := by decide +kernel
theorem d_Na_isSameSign_39 : decode b_Na_isSameSign 39 = .ok (.iconst 3, 1) := by decide +kernel
theorem d_Na_isSameSign_40 : decode b_Na_isSameSign 40 = .ok (.iadd, 1) := by decide +kernel
theorem d_Na_isSameSign_41 : decode b_Na_isSameSign 41 = .ok (.iaload, 1) := by decide +kernel
theorem d_Na_isSameSign_42 : decode b_Na_isSameSign 42 = .ok (.iload_n 3, 1) := by decide +kernel
theorem d_Na_isSameSign_43 : decode b_Na_isSameSign 43 = .ok (.if_icmp .eq 5, 3) := by decide +kernel
theorem d_Na_isSameSign_46 : decode b_Na_isSameSign 46 = .ok (.iconst 0, 1) := by decide +kernel
theorem d_Na_isSameSign_47 : decode b_Na_isSameSign 47 = .ok (.ireturn, 1) := by decide +kernel
theorem d_Na_isSameSign_48 : decode b_Na_isSameSign 48 = .ok (.iconst 0, 1) := by decide +kernel
theorem d_Na_isSameSign_49 : decode b_Na_isSameSign 49 = .ok (.istore 6, 2) := by decide +kernel
theorem d_Na_isSameSign_51 : decode b_Na_isSameSign 51 = .ok (.iload 6, 2) := by decide +kernel
theorem d_Na_isSameSign_53 : decode b_Na_isSameSign 53 = .ok (.iload_n 3, 1) := by decide +kernel
theorem d_Na_isSameSign_54 : decode b_Na_isSameSign 54 = .ok (.if_icmp .ge 33, 3) := by decide +kernel
theorem d_Na_isSameSign_57 : decode b_Na_isSameSign 57 = .ok (.aload_n 0, 1) := by decide +kernel
theorem d_Na_isSameSign_58 : decode b_Na_isSameSign 58 = .ok (.getfield 33, 3) := by decide +kernel
theorem d_Na_isSameSign_61 : decode b_Na_isSameSign 61 = .ok (.getfield 101, 3) := by decide +kernel
theorem d_Na_isSameSign_64 : decode b_Na_isSameSign 64 = .ok (.iload_n 1, 1) := by decide +kernel
theorem d_Na_isSameSign_65 : decode b_Na_isSameSign 65 = .ok (.iconst 4, 1) := by decide +kernel
theorem d_Na_isSameSign_66 : decode b_Na_isSameSign 66 = .ok (.iadd, 1) := by decide +kernel
theorem d_Na_isSameSign_67 : decode b_Na_isSameSign 67 = .ok (.iload 6, 2) := by decide +kernel
theorem d_Na_isSameSign_69 : decode b_Na_isSameSign 69 = .ok (.iadd, 1) := by decide +kernel
theorem d_Na_isSameSign_70 : decode b_Na_isSameSign 70 = .ok (.iaload, 1) := by decide +kernel
theorem d_Na_isSameSign_71 : decode b_Na_isSameSign 71 = .ok (.aload 4, 2) := by decide +kernel
theorem d_Na_isSameSign_73 : decode b_Na_isSameSign 73 = .ok (.iload 6, 2) := by decide +kernel
theorem d_Na_isSameSign_75 : decode b_Na_isSameSign 75 = .ok (.iaload, 1) := by decide +kernel
theorem d_Na_isSameSign_76 : decode b_Na_isSameSign 76 = .ok (.if_icmp .eq 5, 3) := by decide +kernel
theorem d_Na_isSameSign_79 : decode b_Na_isSameSign 79 = .ok (.iconst 0, 1) := by decide +kernel
theorem d_Na_isSameSign_80 : decode b_Na_isSameSign 80 = .ok (.ireturn, 1) := by decide +kernel
theorem d_Na_isSameSign_81 : decode b_Na_isSameSign 81 = .ok (.iinc 6 1, 3) := by decide +kernel
theorem d_Na_isSameSign_84 : decode b_Na_isSameSign 84 = .ok (.goto (-33), 3) := by decide +kernel
theorem d_Na_isSameSign_87 : decode b_Na_isSameSign 87 = .ok (.iconst 1, 1) := by decide +kernel
theorem d_Na_isSameSign_88 : decode b_Na_isSameSign 88 = .ok (.ireturn, 1) := by decide +kernel
abbrev rm_Na_isSameSign : Room := { frames := 0, cells := 0, slots := 0, locals := 0 }
set_option maxHeartbeats 4000000 in
set_option maxRecDepth 100000 in
/-- isSameSign -/
theorem c_Na_isSameSign (l : Launch) (D : va_G) (g : Nat → ClassId) (h0 : Nat) (sg : Nat) (nm : Int32) (n9 : Nat) (tx : Nat) (rs : Int32) (a1 : Nat) (a2 : Nat) (a3 : Nat) (a4 : Nat) (a5 : Nat) (a6 : Nat) (a7 : Nat) (a8 : Nat) (a9 : Nat) (mk : Int32) (stt : Int32) (b6 : Nat) (ks : Nat) (n6 : Nat) (fg : Nat → Int32) (N : Nat) (ft : Nat → Int32) (t9 : Nat) (sz : Nat) (hs : sg + 4 ≤ n6) (ht : fg (sg + 3) = nI t9) (ht2 : sg + 4 + t9 ≤ n6) (hn6 : n6 < 2 ^ 24) (hN : n9 ≤ N) (hN2 : N < 2 ^ 24) : Met l y_Na_isSameSign (mw y_Na_isSameSign b_Na_isSameSign 7 (some (.boolean))) (rm_Na_isSameSign) (PC g D [] [.ref h0, .int (nI sg), .int nm, .int (nI n9), .ref tx, .int rs] sz [(h0, .inr (5, [.ref a1, .ref a2, .ref a3, .ref a4, .ref a5, .ref a6, .ref a7, .ref a8, .ref a9, .int mk, .int stt])), (a6, .inr (3, [.ref b6, .int (nI ks)])), (b6, .inl (g 0, n6, .inl fg)), (tx, .inl (g 0, N, .inl ft))]) (va_Qi (fun (r : Int32) (u : Unit) => r = 0 ∨ r = 1) (QW D (va_A [(h0, .inr (5, [.ref a1, .ref a2, .ref a3, .ref a4, .ref a5, .ref a6, .ref a7, .ref a8, .ref a9, .int mk, .int stt])), (a6, .inr (3, [.ref b6, .int (nI ks)])), (b6, .inl (g 0, n6, .inl fg)), (tx, .inl (g 0, N, .inl ft))] sz) (fun u : Unit => [(h0, .inr (5, [.ref a1, .ref a2, .ref a3, .ref a4, .ref a5, .ref a6, .ref a7, .ref a8, .ref a9, .int mk, .int stt])), (a6, .inr (3, [.ref b6, .int (nI ks)])), (b6, .inl (g 0, n6, .inl fg)), (tx, .inl (g 0, N, .inl ft))])) (va_A [(h0, .inr (5, [.ref a1, .ref a2, .ref a3, .ref a4, .ref a5, .ref a6, .ref a7, .ref a8, .ref a9, .int mk, .int stt])), (a6, .inr (3, [.ref b6, .int (nI ks)])), (b6, .inl (g 0, n6, .inl fg)), (tx, .inl (g 0, N, .inl ft))] sz)) 0 0 (va_A [(h0, .inr (5, [.ref a1, .ref a2, .ref a3, .ref a4, .ref a5, .ref a6, .ref a7, .ref a8, .ref a9, .int mk, .int stt])), (a6, .inr (3, [.ref b6, .int (nI ks)])), (b6, .inl (g 0, n6, .inl fg)), (tx, .inl (g 0, N, .inl ft))] sz) := by
  refine ofZ (by decide +kernel) (Nat.le_of_ble_eq_true rfl) ?_
  intro p e s m args below meth c A Q ls H locs G hsz hP hD hS hl hret
  subst hsz
  have hl : lv_has ls 7 [(0, .ref h0), (1, .int (nI sg)), (2, .int nm), (3, .int (nI n9)), (4, .ref tx), (5, .int rs)] := hl
  refine lv_aload_n G.1 G.2.1 d_Na_isSameSign_0 rfl (lv_at hl 0 rfl) ?_
  refine kg (ci := 5) G iNa hP 0 rfl rfl 5 (by decide) q509 rfl rfl d_Na_isSameSign_1 ?_
  refine kg (ci := 3) G iIn hP 1 rfl rfl 0 (by decide) q381 rfl rfl d_Na_isSameSign_4 ?_
  refine lv_iload_n G.1 G.2.1 d_Na_isSameSign_7 rfl (lv_at hl 1 rfl) ?_
  refine lv_iconst (v := nI 1) G.1 G.2.1 d_Na_isSameSign_8 (by decide) ?_
  refine lv_iadd G.1 G.2.1 d_Na_isSameSign_9 ?_
  refine tpi (w := nI (sg + 1)) (nI_add _ _) ?_
  refine kiald G hP 2 0 rfl rfl (by omega) (by omega) d_Na_isSameSign_10 ?_
  refine lv_iload_n G.1 G.2.1 d_Na_isSameSign_11 rfl (lv_at hl 2 rfl) ?_
  refine lv_icmp_ne (tgt := 46) G.1 G.2.1 d_Na_isSameSign_12 (by decide) (fun c12 => ?_) (fun c12 => ?_)
  · skip
    refine lv_iconst (v := nI 0) G.1 G.2.1 d_Na_isSameSign_46 (by decide) ?_
    refine hret (nI 0) () _ _ _ _ _ ls (by decide) (Or.inl rfl) (hP.sub [0, 1, 2, 3] rfl) (hD.sub [0, 1, 2, 3] (by decide) rfl) hS (Nat.le_of_ble_eq_true rfl) (Nat.le_of_ble_eq_true rfl) d_Na_isSameSign_47
  · skip
    refine lv_aload_n G.1 G.2.1 d_Na_isSameSign_15 rfl (lv_at hl 0 rfl) ?_
    refine kg (ci := 5) G iNa hP 0 rfl rfl 5 (by decide) q509 rfl rfl d_Na_isSameSign_16 ?_
    refine W.eq (g2 := F0 m 19 ls [.ref a6]) rfl ?_
    refine kg (ci := 3) G iIn hP 1 rfl rfl 0 (by decide) q381 rfl rfl d_Na_isSameSign_19 ?_
    refine lv_iload_n G.1 G.2.1 d_Na_isSameSign_22 rfl (lv_at hl 1 rfl) ?_
    refine lv_iconst (v := nI 2) G.1 G.2.1 d_Na_isSameSign_23 (by decide) ?_
    refine lv_iadd G.1 G.2.1 d_Na_isSameSign_24 ?_
    refine tpi (w := nI (sg + 2)) (nI_add _ _) ?_
    refine kiald G hP 2 0 rfl rfl (by omega) (by omega) d_Na_isSameSign_25 ?_
    refine lv_iload G.1 G.2.1 d_Na_isSameSign_26 (lv_at hl 5 rfl) ?_
    refine lv_icmp_ne (tgt := 46) G.1 G.2.1 d_Na_isSameSign_28 (by decide) (fun c28 => ?_) (fun c28 => ?_)
    · skip
      refine lv_iconst (v := nI 0) G.1 G.2.1 d_Na_isSameSign_46 (by decide) ?_
      refine hret (nI 0) () _ _ _ _ _ ls (by decide) (Or.inl rfl) (hP.sub [0, 1, 2, 3] rfl) (hD.sub [0, 1, 2, 3] (by decide) rfl) hS (Nat.le_of_ble_eq_true rfl) (Nat.le_of_ble_eq_true rfl) d_Na_isSameSign_47
    · skip
      refine lv_aload_n G.1 G.2.1 d_Na_isSameSign_31 rfl (lv_at hl 0 rfl) ?_
      refine kg (ci := 5) G iNa hP 0 rfl rfl 5 (by decide) q509 rfl rfl d_Na_isSameSign_32 ?_
      refine kg (ci := 3) G iIn hP 1 rfl rfl 0 (by decide) q381 rfl rfl d_Na_isSameSign_35 ?_
      refine lv_iload_n G.1 G.2.1 d_Na_isSameSign_38 rfl (lv_at hl 1 rfl) ?_
      refine lv_iconst (v := nI 3) G.1 G.2.1 d_Na_isSameSign_39 (by decide) ?_
      refine W.eq (g2 := F0 m 40 ls [.int (nI 3), .int (nI sg), .ref b6]) rfl ?_
      refine lv_iadd G.1 G.2.1 d_Na_isSameSign_40 ?_
      refine tpi (w := nI (sg + 3)) (nI_add _ _) ?_
      refine kiald G hP 2 0 rfl rfl (by omega) (by omega) d_Na_isSameSign_41 ?_
      refine tpi (w := nI t9) ht ?_
      refine lv_iload_n G.1 G.2.1 d_Na_isSameSign_42 rfl (lv_at hl 3 rfl) ?_
      refine lv_icmp_eq (tgt := 48) G.1 G.2.1 d_Na_isSameSign_43 (by decide) (fun c43 => ?_) (fun c43 => ?_)
      · skip
        have c43 : t9 = n9 := (nI_eq (by omega) (by omega)).mp c43
        refine lv_iconst (v := nI 0) G.1 G.2.1 d_Na_isSameSign_48 (by decide) ?_
        refine lv_istore (lv' := [(6, .int (nI 0)), (0, .ref h0), (1, .int (nI sg)), (2, .int nm), (3, .int (nI n9)), (4, .ref tx), (5, .int rs)]) G.1 G.2.1 d_Na_isSameSign_49 hl (by decide) rfl (fun ls hl => ?_)
        have L_1 : ∀ (k_L_1 : Nat) (i : Nat), (n9 - i) < k_L_1 → (i ≤ n9) → ∀ (H : Heap) (locs : List Loc), va_P D CL [(h0, .inr (5, [.ref a1, .ref a2, .ref a3, .ref a4, .ref a5, .ref a6, .ref a7, .ref a8, .ref a9, .int mk, .int stt])), (a6, .inr (3, [.ref b6, .int (nI ks)])), (b6, .inl (g 0, n6, .inl fg)), (tx, .inl (g 0, N, .inl ft))] H → va_D A [(h0, .inr (5, [.ref a1, .ref a2, .ref a3, .ref a4, .ref a5, .ref a6, .ref a7, .ref a8, .ref a9, .int mk, .int stt])), (a6, .inr (3, [.ref b6, .int (nI ks)])), (b6, .inl (g 0, n6, .inl fg)), (tx, .inl (g 0, N, .inl ft))] → va_S A s.heap H locs → ∀ ls, lv_has ls 7 [(0, .ref h0), (1, .int (nI sg)), (2, .int nm), (3, .int (nI n9)), (4, .ref tx), (5, .int rs), (6, .int (nI i))] → W p l e rm_Na_isSameSign s m args below meth c H locs 0 0 Q (F0 m 51 ls []) := by
          intro k_L_1
          induction k_L_1 with
          | zero => intro i hk_L_1; exact absurd hk_L_1 (Nat.not_lt_zero _)
          | succ k_L_1 ih_L_1 =>
            intro i hk_L_1 hi H locs hP hD hS ls hl
            refine lv_iload G.1 G.2.1 d_Na_isSameSign_51 (lv_at hl 6 rfl) ?_
            refine lv_iload_n G.1 G.2.1 d_Na_isSameSign_53 rfl (lv_at hl 3 rfl) ?_
            refine lv_icmp_ge (tgt := 87) G.1 G.2.1 d_Na_isSameSign_54 (by decide) (fun c54 => ?_) (fun c54 => ?_)
            · skip
              have c54 : n9 ≤ i := (nI_leI (by omega) (by omega)).mp c54
              refine lv_iconst (v := nI 1) G.1 G.2.1 d_Na_isSameSign_87 (by decide) ?_
              refine hret (nI 1) () _ _ _ _ _ ls (by decide) (Or.inr rfl) (hP.sub [0, 1, 2, 3] rfl) (hD.sub [0, 1, 2, 3] (by decide) rfl) hS (Nat.le_of_ble_eq_true rfl) (Nat.le_of_ble_eq_true rfl) d_Na_isSameSign_88
            · skip
              have c54 : ¬ (n9 ≤ i) := fun h => c54 ((nI_leI (by omega) (by omega)).mpr h)
              refine lv_aload_n G.1 G.2.1 d_Na_isSameSign_57 rfl (lv_at hl 0 rfl) ?_
              refine kg (ci := 5) G iNa hP 0 rfl rfl 5 (by decide) q509 rfl rfl d_Na_isSameSign_58 ?_
              refine kg (ci := 3) G iIn hP 1 rfl rfl 0 (by decide) q381 rfl rfl d_Na_isSameSign_61 ?_
              refine lv_iload_n G.1 G.2.1 d_Na_isSameSign_64 rfl (lv_at hl 1 rfl) ?_
              refine W.eq (g2 := F0 m 65 ls [.int (nI sg), .ref b6]) rfl ?_
              refine lv_iconst (v := nI 4) G.1 G.2.1 d_Na_isSameSign_65 (by decide) ?_
              refine lv_iadd G.1 G.2.1 d_Na_isSameSign_66 ?_
              refine tpi (w := nI (sg + 4)) (nI_add _ _) ?_
              refine lv_iload G.1 G.2.1 d_Na_isSameSign_67 (lv_at hl 6 rfl) ?_
              refine lv_iadd G.1 G.2.1 d_Na_isSameSign_69 ?_
              refine tpi (w := nI (sg + 4 + i)) (nI_add _ _) ?_
              refine kiald G hP 2 0 rfl rfl (by omega) (by omega) d_Na_isSameSign_70 ?_
              refine lv_aload G.1 G.2.1 d_Na_isSameSign_71 (lv_at hl 4 rfl) ?_
              refine lv_iload G.1 G.2.1 d_Na_isSameSign_73 (lv_at hl 6 rfl) ?_
              refine kiald G hP 3 0 rfl rfl (by omega) (by omega) d_Na_isSameSign_75 ?_
              refine lv_icmp_eq (tgt := 81) G.1 G.2.1 d_Na_isSameSign_76 (by decide) (fun c76 => ?_) (fun c76 => ?_)
              · skip
                refine lv_iinc (v := nI (i + 1)) (lv' := [(6, .int (nI (i + 1))), (0, .ref h0), (1, .int (nI sg)), (2, .int nm), (3, .int (nI n9)), (4, .ref tx), (5, .int rs)]) G.1 G.2.1 d_Na_isSameSign_81 hl (k := 6) rfl (show (nI i) + Int32.ofInt 1 = nI (i + 1) from nI_1 _) (by decide) rfl (fun ls hl => ?_)
                refine lv_goto (tgt := 51) G.1 G.2.1 d_Na_isSameSign_84 (by decide) ?_
                exact ih_L_1 (i + 1) (by omega) (by omega) _ _ (hP.sub [0, 1, 2, 3] rfl) (hD.sub [0, 1, 2, 3] (by decide) rfl) hS ls (lv_sub hl [1, 2, 3, 4, 5, 6, 0] rfl)
              · skip
                refine lv_iconst (v := nI 0) G.1 G.2.1 d_Na_isSameSign_79 (by decide) ?_
                refine hret (nI 0) () _ _ _ _ _ ls (by decide) (Or.inl rfl) (hP.sub [0, 1, 2, 3] rfl) (hD.sub [0, 1, 2, 3] (by decide) rfl) hS (Nat.le_of_ble_eq_true rfl) (Nat.le_of_ble_eq_true rfl) d_Na_isSameSign_80
        exact L_1 (_ + 1) 0 (Nat.lt_succ_self _) (Nat.zero_le _) _ _ (hP.sub [0, 1, 2, 3] rfl) (hD.sub [0, 1, 2, 3] (by decide) rfl) hS ls (lv_sub hl [1, 2, 3, 4, 5, 6, 0] rfl)
      · skip
        have c43 : ¬ (t9 = n9) := fun h => c43 ((nI_eq (by omega) (by omega)).mpr h)
        refine lv_iconst (v := nI 0) G.1 G.2.1 d_Na_isSameSign_46 (by decide) ?_
        refine hret (nI 0) () _ _ _ _ _ ls (by decide) (Or.inl rfl) (hP.sub [0, 1, 2, 3] rfl) (hD.sub [0, 1, 2, 3] (by decide) rfl) hS (Nat.le_of_ble_eq_true rfl) (Nat.le_of_ble_eq_true rfl) d_Na_isSameSign_47
