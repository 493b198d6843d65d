theorem cv_sub (z : Nat) : nI z - nI 1 = cv z := by
  cases z with
  | zero => decide
  | succ z => exact (pk_sub (by omega)).trans (congrArg nI (by omega))
/-- names of classes: 0, or one more than the class's number -/
def WN (sn cnt : Nat) (dn : Nat → Int32) : Prop := ∀ j, j < sn → ∃ z : Nat, dn j = nI z ∧ z ≤ cnt

def y_Wd_of : MethodName := ⟨"ClassWorks$World", "of", "(II)I"⟩
abbrev b_Wd_of : ByteArray := prog_11_method_7_code
theorem q831 : Cond.fieldLink "ClassWorks$World" 28 "ClassWorks$World" "rows" "[I" ∈ lw_ok := lw_okmem (List.mem_of_getElem? (i := 831) (by decide +kernel)) rfl
theorem d_Wd_of_0 : decode b_Wd_of 0 = .ok (.aload_n 0, 1) := by decide +kernel
theorem d_Wd_of_1 : decode b_Wd_of 1 = .ok (.getfield 28, 3) := by decide +kernel
theorem d_Wd_of_4 : decode b_Wd_of 4 = .ok (.iload_n 1, 1) := by decide +kernel
theorem d_Wd_of_5 : decode b_Wd_of 5 = .ok (.bipush 19, 2) := by decide +kernel
theorem d_Wd_of_7 : decode b_Wd_of 7 = .ok (.imul, 1) := by decide +kernel
theorem d_Wd_of_8 : decode b_Wd_of 8 = .ok (.iload_n 2, 1) := by decide +kernel
theorem d_Wd_of_9 : decode b_Wd_of 9 = .ok (.iadd, 1) := by decide +kernel
theorem d_Wd_of_10 : decode b_Wd_of 10 = .ok (.iaload, 1) := by decide +kernel
theorem d_Wd_of_11 : decode b_Wd_of 11 = .ok (.ireturn, 1) := by decide +kernel
abbrev rm_Wd_of : Room := { frames := 0, cells := 0, slots := 0, locals := 0 }
set_option maxHeartbeats 4000000 in
set_option maxRecDepth 100000 in
/-- of -/
theorem c_Wd_of (l : Launch) (D : va_G) (g : Nat → ClassId) (h0 : Nat) (c9 : Nat) (k9 : Nat) (r_names : Nat) (f_used : Int32) (f_count : Int32) (f_wrongClass : Int32) (f_wrongMethod : Int32) (f_wrongAt : Int32) (r_rows : Nat) (r_above : Nat) (r_fields : Nat) (r_methods : Nat) (r_codes : Nat) (r_handlers : Nat) (r_extra : Nat) (r_orders : Nat) (r_classNamed : Nat) (f_breaks : Int32) (r_marks : Nat) (d_rows : Nat → Int32) (sz : Nat) (hc : c9 < 51) (hk : k9 < 19) : Met l y_Wd_of (mw y_Wd_of b_Wd_of 3 (some .int)) (rm_Wd_of) (PC g D [] [.ref h0, .int (nI c9), .int (nI k9)] sz [(h0, .inr (9, [.ref r_names, .int f_used, .int f_count, .int f_wrongClass, .int f_wrongMethod, .int f_wrongAt, .ref r_rows, .ref r_above, .ref r_fields, .ref r_methods, .ref r_codes, .ref r_handlers, .ref r_extra, .ref r_orders, .ref r_classNamed, .int f_breaks, .ref r_marks])), (r_rows, .inl (g 0, 969, .inl d_rows))]) (va_Qi (fun (r : Int32) (u : Unit) => r = d_rows (c9 * 19 + k9)) (QW D (va_A [(h0, .inr (9, [.ref r_names, .int f_used, .int f_count, .int f_wrongClass, .int f_wrongMethod, .int f_wrongAt, .ref r_rows, .ref r_above, .ref r_fields, .ref r_methods, .ref r_codes, .ref r_handlers, .ref r_extra, .ref r_orders, .ref r_classNamed, .int f_breaks, .ref r_marks])), (r_rows, .inl (g 0, 969, .inl d_rows))] sz) (fun u : Unit => [(h0, .inr (9, [.ref r_names, .int f_used, .int f_count, .int f_wrongClass, .int f_wrongMethod, .int f_wrongAt, .ref r_rows, .ref r_above, .ref r_fields, .ref r_methods, .ref r_codes, .ref r_handlers, .ref r_extra, .ref r_orders, .ref r_classNamed, .int f_breaks, .ref r_marks])), (r_rows, .inl (g 0, 969, .inl d_rows))])) (va_A [(h0, .inr (9, [.ref r_names, .int f_used, .int f_count, .int f_wrongClass, .int f_wrongMethod, .int f_wrongAt, .ref r_rows, .ref r_above, .ref r_fields, .ref r_methods, .ref r_codes, .ref r_handlers, .ref r_extra, .ref r_orders, .ref r_classNamed, .int f_breaks, .ref r_marks])), (r_rows, .inl (g 0, 969, .inl d_rows))] sz)) 0 0 (va_A [(h0, .inr (9, [.ref r_names, .int f_used, .int f_count, .int f_wrongClass, .int f_wrongMethod, .int f_wrongAt, .ref r_rows, .ref r_above, .ref r_fields, .ref r_methods, .ref r_codes, .ref r_handlers, .ref r_extra, .ref r_orders, .ref r_classNamed, .int f_breaks, .ref r_marks])), (r_rows, .inl (g 0, 969, .inl d_rows))] sz) := by
  refine ofI (by decide +kernel) (Nat.le_of_ble_eq_true rfl) ?_
  intro p e s m args below meth c A Q ls H locs G hsz hP hD hS hl hret
  subst hsz
  have hl : lv_has ls 3 [(0, .ref h0), (1, .int (nI c9)), (2, .int (nI k9))] := hl
  refine lv_aload_n G.1 G.2.1 d_Wd_of_0 rfl (lv_at hl 0 rfl) ?_
  refine kg (ci := 9) G iWd hP 0 rfl rfl 6 (by decide) q831 rfl rfl d_Wd_of_1 ?_
  refine lv_iload_n G.1 G.2.1 d_Wd_of_4 rfl (lv_at hl 1 rfl) ?_
  refine lv_bipush (v := nI 19) G.1 G.2.1 d_Wd_of_5 (by decide) ?_
  refine lv_imul G.1 G.2.1 d_Wd_of_7 ?_
  refine tpi (w := nI (c9 * 19)) (pk_mul _ _) ?_
  refine lv_iload_n G.1 G.2.1 d_Wd_of_8 rfl (lv_at hl 2 rfl) ?_
  refine lv_iadd G.1 G.2.1 d_Wd_of_9 ?_
  refine tpi (w := nI (c9 * 19 + k9)) (nI_add _ _) ?_
  refine kiald G hP 1 0 rfl rfl (by omega) (by omega) d_Wd_of_10 ?_
  refine hret (d_rows (c9 * 19 + k9)) () _ _ _ _ _ ls rfl (hP.sub [0, 1] rfl) (hD.sub [0, 1] (by decide) rfl) hS (Nat.le_of_ble_eq_true rfl) (Nat.le_of_ble_eq_true rfl) d_Wd_of_11
def y_Wd_set : MethodName := ⟨"ClassWorks$World", "set", "(III)V"⟩
abbrev b_Wd_set : ByteArray := prog_11_method_8_code
theorem d_Wd_set_0 : decode b_Wd_set 0 = .ok (.aload_n 0, 1) := by decide +kernel
theorem d_Wd_set_1 : decode b_Wd_set 1 = .ok (.getfield 28, 3) := by decide +kernel
theorem d_Wd_set_4 : decode b_Wd_set 4 = .ok (.iload_n 1, 1) := by decide +kernel
theorem d_Wd_set_5 : decode b_Wd_set 5 = .ok (.bipush 19, 2) := by decide +kernel
theorem d_Wd_set_7 : decode b_Wd_set 7 = .ok (.imul, 1) := by decide +kernel
theorem d_Wd_set_8 : decode b_Wd_set 8 = .ok (.iload_n 2, 1) := by decide +kernel
theorem d_Wd_set_9 : decode b_Wd_set 9 = .ok (.iadd, 1) := by decide +kernel
theorem d_Wd_set_10 : decode b_Wd_set 10 = .ok (.iload_n 3, 1) := by decide +kernel
theorem d_Wd_set_11 : decode b_Wd_set 11 = .ok (.iastore, 1) := by decide +kernel
theorem d_Wd_set_12 : decode b_Wd_set 12 = .ok (.return_, 1) := by decide +kernel
abbrev rm_Wd_set : Room := { frames := 0, cells := 0, slots := 0, locals := 0 }
set_option maxHeartbeats 4000000 in
set_option maxRecDepth 100000 in
/-- set -/
theorem c_Wd_set (l : Launch) (D : va_G) (g : Nat → ClassId) (h0 : Nat) (c9 : Nat) (k9 : Nat) (v9 : Int32) (r_names : Nat) (f_used : Int32) (f_count : Int32) (f_wrongClass : Int32) (f_wrongMethod : Int32) (f_wrongAt : Int32) (r_rows : Nat) (r_above : Nat) (r_fields : Nat) (r_methods : Nat) (r_codes : Nat) (r_handlers : Nat) (r_extra : Nat) (r_orders : Nat) (r_classNamed : Nat) (f_breaks : Int32) (r_marks : Nat) (d_rows : Nat → Int32) (sz : Nat) (hc : c9 < 51) (hk : k9 < 19) : Met l y_Wd_set (mw y_Wd_set b_Wd_set 4 (none)) (rm_Wd_set) (PC g D [] [.ref h0, .int (nI c9), .int (nI k9), .int v9] sz [(h0, .inr (9, [.ref r_names, .int f_used, .int f_count, .int f_wrongClass, .int f_wrongMethod, .int f_wrongAt, .ref r_rows, .ref r_above, .ref r_fields, .ref r_methods, .ref r_codes, .ref r_handlers, .ref r_extra, .ref r_orders, .ref r_classNamed, .int f_breaks, .ref r_marks])), (r_rows, .inl (g 0, 969, .inl d_rows))]) (va_Qv (fun u : Unit => True) (QW D (va_A [(h0, .inr (9, [.ref r_names, .int f_used, .int f_count, .int f_wrongClass, .int f_wrongMethod, .int f_wrongAt, .ref r_rows, .ref r_above, .ref r_fields, .ref r_methods, .ref r_codes, .ref r_handlers, .ref r_extra, .ref r_orders, .ref r_classNamed, .int f_breaks, .ref r_marks])), (r_rows, .inl (g 0, 969, .inl d_rows))] sz) (fun u : Unit => [(h0, .inr (9, [.ref r_names, .int f_used, .int f_count, .int f_wrongClass, .int f_wrongMethod, .int f_wrongAt, .ref r_rows, .ref r_above, .ref r_fields, .ref r_methods, .ref r_codes, .ref r_handlers, .ref r_extra, .ref r_orders, .ref r_classNamed, .int f_breaks, .ref r_marks])), (r_rows, .inl (g 0, 969, .inl (upd d_rows (c9 * 19 + k9) v9)))])) (va_A [(h0, .inr (9, [.ref r_names, .int f_used, .int f_count, .int f_wrongClass, .int f_wrongMethod, .int f_wrongAt, .ref r_rows, .ref r_above, .ref r_fields, .ref r_methods, .ref r_codes, .ref r_handlers, .ref r_extra, .ref r_orders, .ref r_classNamed, .int f_breaks, .ref r_marks])), (r_rows, .inl (g 0, 969, .inl d_rows))] sz)) 0 0 (va_A [(h0, .inr (9, [.ref r_names, .int f_used, .int f_count, .int f_wrongClass, .int f_wrongMethod, .int f_wrongAt, .ref r_rows, .ref r_above, .ref r_fields, .ref r_methods, .ref r_codes, .ref r_handlers, .ref r_extra, .ref r_orders, .ref r_classNamed, .int f_breaks, .ref r_marks])), (r_rows, .inl (g 0, 969, .inl d_rows))] sz) := by
  refine ofV (by decide +kernel) (Nat.le_of_ble_eq_true rfl) ?_
  intro p e s m args below meth c A Q ls H locs G hsz hP hD hS hl hret
  subst hsz
  have hl : lv_has ls 4 [(0, .ref h0), (1, .int (nI c9)), (2, .int (nI k9)), (3, .int v9)] := hl
  refine lv_aload_n G.1 G.2.1 d_Wd_set_0 rfl (lv_at hl 0 rfl) ?_
  refine kg (ci := 9) G iWd hP 0 rfl rfl 6 (by decide) q831 rfl rfl d_Wd_set_1 ?_
  refine lv_iload_n G.1 G.2.1 d_Wd_set_4 rfl (lv_at hl 1 rfl) ?_
  refine lv_bipush (v := nI 19) G.1 G.2.1 d_Wd_set_5 (by decide) ?_
  refine lv_imul G.1 G.2.1 d_Wd_set_7 ?_
  refine tpi (w := nI (c9 * 19)) (pk_mul _ _) ?_
  refine lv_iload_n G.1 G.2.1 d_Wd_set_8 rfl (lv_at hl 2 rfl) ?_
  refine lv_iadd G.1 G.2.1 d_Wd_set_9 ?_
  refine tpi (w := nI (c9 * 19 + k9)) (nI_add _ _) ?_
  refine lv_iload_n G.1 G.2.1 d_Wd_set_10 rfl (lv_at hl 3 rfl) ?_
  refine kiast G hP hD hS 1 0 rfl rfl (by omega) (by omega) d_Wd_set_11 (fun H locs hP hD hS => ?_)
  have hP : va_P D CL [(h0, .inr (9, [.ref r_names, .int f_used, .int f_count, .int f_wrongClass, .int f_wrongMethod, .int f_wrongAt, .ref r_rows, .ref r_above, .ref r_fields, .ref r_methods, .ref r_codes, .ref r_handlers, .ref r_extra, .ref r_orders, .ref r_classNamed, .int f_breaks, .ref r_marks])), (r_rows, .inl (g 0, 969, .inl (upd d_rows (c9 * 19 + k9) v9)))] H := hP
  have hD : va_D A [(h0, .inr (9, [.ref r_names, .int f_used, .int f_count, .int f_wrongClass, .int f_wrongMethod, .int f_wrongAt, .ref r_rows, .ref r_above, .ref r_fields, .ref r_methods, .ref r_codes, .ref r_handlers, .ref r_extra, .ref r_orders, .ref r_classNamed, .int f_breaks, .ref r_marks])), (r_rows, .inl (g 0, 969, .inl (upd d_rows (c9 * 19 + k9) v9)))] := hD
  refine hret () _ _ _ _ _ ls trivial (hP.sub [0, 1] rfl) (hD.sub [0, 1] (by decide) rfl) hS (Nat.le_of_ble_eq_true rfl) (Nat.le_of_ble_eq_true rfl) d_Wd_set_12
def y_Wd_number : MethodName := ⟨"ClassWorks$World", "number", "(I)I"⟩
abbrev b_Wd_number : ByteArray := prog_11_method_9_code
theorem q860 : Cond.fieldLink "ClassWorks$World" 60 "ClassWorks$World" "classNamed" "LClassWorks$Ints;" ∈ lw_ok := lw_okmem (List.mem_of_getElem? (i := 860) (by decide +kernel)) rfl
theorem q391 : Cond.fieldLink "ClassWorks$World" 91 "ClassWorks$Ints" "size" "I" ∈ lw_ok := lw_okmem (List.mem_of_getElem? (i := 391) (by decide +kernel)) rfl
theorem q384 : Cond.fieldLink "ClassWorks$World" 98 "ClassWorks$Ints" "row" "[I" ∈ lw_ok := lw_okmem (List.mem_of_getElem? (i := 384) (by decide +kernel)) rfl
theorem d_Wd_number_0 : decode b_Wd_number 0 = .ok (.iload_n 1, 1) := by decide +kernel
theorem d_Wd_number_1 : decode b_Wd_number 1 = .ok (.ifCond .lt 28, 3) := by decide +kernel
theorem d_Wd_number_4 : decode b_Wd_number 4 = .ok (.iload_n 1, 1) := by decide +kernel
theorem d_Wd_number_5 : decode b_Wd_number 5 = .ok (.aload_n 0, 1) := by decide +kernel
theorem d_Wd_number_6 : decode b_Wd_number 6 = .ok (.getfield 60, 3) := by decide +kernel
theorem d_Wd_number_9 : decode b_Wd_number 9 = .ok (.getfield 91, 3) := by decide +kernel
theorem d_Wd_number_12 : decode b_Wd_number 12 = .ok (.if_icmp .ge 17, 3) := by decide +kernel
theorem d_Wd_number_15 : decode b_Wd_number 15 = .ok (.aload_n 0, 1) := by decide +kernel
theorem d_Wd_number_16 : decode b_Wd_number 16 = .ok (.getfield 60, 3) := by decide +kernel
theorem d_Wd_number_19 : decode b_Wd_number 19 = .ok (.getfield 98, 3) := by decide +kernel
theorem d_Wd_number_22 : decode b_Wd_number 22 = .ok (.iload_n 1, 1) := by decide +kernel
theorem d_Wd_number_23 : decode b_Wd_number 23 = .ok (.iaload, 1) := by decide +kernel
theorem d_Wd_number_24 : decode b_Wd_number 24 = .ok (.iconst 1, 1) := by decide +kernel
theorem d_Wd_number_25 : decode b_Wd_number 25 = .ok (.isub, 1) := by decide +kernel
theorem d_Wd_number_26 : decode b_Wd_number 26 = .ok (.goto 4, 3) := by decide +kernel
theorem d_Wd_number_29 : decode b_Wd_number 29 = .ok (.iconst (-1), 1) := by decide +kernel
theorem d_Wd_number_30 : decode b_Wd_number 30 = .ok (.ireturn, 1) := by decide +kernel
abbrev rm_Wd_number : Room := { frames := 0, cells := 0, slots := 0, locals := 0 }
set_option maxHeartbeats 4000000 in
set_option maxRecDepth 100000 in
/-- number -/
theorem c_Wd_number (l : Launch) (D : va_G) (g : Nat → ClassId) (h0 : Nat) (nm : Int32) (r_names : Nat) (f_used : Int32) (f_count : Int32) (f_wrongClass : Int32) (f_wrongMethod : Int32) (f_wrongAt : Int32) (r_rows : Nat) (r_above : Nat) (r_fields : Nat) (r_methods : Nat) (r_codes : Nat) (r_handlers : Nat) (r_extra : Nat) (r_orders : Nat) (r_classNamed : Nat) (f_breaks : Int32) (r_marks : Nat) (i_classNamed : Nat) (s_classNamed : Nat) (c_classNamed : Nat) (d_classNamed : Nat → Int32) (cnt : Nat) (sz : Nat) (hN : WN s_classNamed cnt d_classNamed) (hsn : s_classNamed ≤ c_classNamed) (hcn : c_classNamed < 2 ^ 24) : Met l y_Wd_number (mw y_Wd_number b_Wd_number 2 (some .int)) (rm_Wd_number) (PC g D [] [.ref h0, .int nm] sz [(h0, .inr (9, [.ref r_names, .int f_used, .int f_count, .int f_wrongClass, .int f_wrongMethod, .int f_wrongAt, .ref r_rows, .ref r_above, .ref r_fields, .ref r_methods, .ref r_codes, .ref r_handlers, .ref r_extra, .ref r_orders, .ref r_classNamed, .int f_breaks, .ref r_marks])), (r_classNamed, .inr (3, [.ref i_classNamed, .int (nI s_classNamed)])), (i_classNamed, .inl (g 0, c_classNamed, .inl d_classNamed))]) (va_Qi (fun (r : Int32) (u : Unit) => ∃ z : Nat, r = cv z ∧ z ≤ cnt) (QW D (va_A [(h0, .inr (9, [.ref r_names, .int f_used, .int f_count, .int f_wrongClass, .int f_wrongMethod, .int f_wrongAt, .ref r_rows, .ref r_above, .ref r_fields, .ref r_methods, .ref r_codes, .ref r_handlers, .ref r_extra, .ref r_orders, .ref r_classNamed, .int f_breaks, .ref r_marks])), (r_classNamed, .inr (3, [.ref i_classNamed, .int (nI s_classNamed)])), (i_classNamed, .inl (g 0, c_classNamed, .inl d_classNamed))] sz) (fun u : Unit => [(h0, .inr (9, [.ref r_names, .int f_used, .int f_count, .int f_wrongClass, .int f_wrongMethod, .int f_wrongAt, .ref r_rows, .ref r_above, .ref r_fields, .ref r_methods, .ref r_codes, .ref r_handlers, .ref r_extra, .ref r_orders, .ref r_classNamed, .int f_breaks, .ref r_marks])), (r_classNamed, .inr (3, [.ref i_classNamed, .int (nI s_classNamed)])), (i_classNamed, .inl (g 0, c_classNamed, .inl d_classNamed))])) (va_A [(h0, .inr (9, [.ref r_names, .int f_used, .int f_count, .int f_wrongClass, .int f_wrongMethod, .int f_wrongAt, .ref r_rows, .ref r_above, .ref r_fields, .ref r_methods, .ref r_codes, .ref r_handlers, .ref r_extra, .ref r_orders, .ref r_classNamed, .int f_breaks, .ref r_marks])), (r_classNamed, .inr (3, [.ref i_classNamed, .int (nI s_classNamed)])), (i_classNamed, .inl (g 0, c_classNamed, .inl d_classNamed))] sz)) 0 0 (va_A [(h0, .inr (9, [.ref r_names, .int f_used, .int f_count, .int f_wrongClass, .int f_wrongMethod, .int f_wrongAt, .ref r_rows, .ref r_above, .ref r_fields, .ref r_methods, .ref r_codes, .ref r_handlers, .ref r_extra, .ref r_orders, .ref r_classNamed, .int f_breaks, .ref r_marks])), (r_classNamed, .inr (3, [.ref i_classNamed, .int (nI s_classNamed)])), (i_classNamed, .inl (g 0, c_classNamed, .inl d_classNamed))] sz) := by
  refine ofI (by decide +kernel) (Nat.le_of_ble_eq_true rfl) ?_
  intro p e s m args below meth c A Q ls H locs G hsz hP hD hS hl hret
  subst hsz
  have hl : lv_has ls 2 [(0, .ref h0), (1, .int nm)] := hl
  refine lv_iload_n G.1 G.2.1 d_Wd_number_0 rfl (lv_at hl 1 rfl) ?_
  refine lv_if_lt (tgt := 29) G.1 G.2.1 d_Wd_number_1 (by decide) (fun c1 => ?_) (fun c1 => ?_)
  · skip
    refine lv_iconst (v := (-1)) G.1 G.2.1 d_Wd_number_29 (by decide) ?_
    refine hret (-1) () _ _ _ _ _ ls ⟨0, rfl, Nat.zero_le _⟩ (hP.sub [0, 1, 2] rfl) (hD.sub [0, 1, 2] (by decide) rfl) hS (Nat.le_of_ble_eq_true rfl) (Nat.le_of_ble_eq_true rfl) d_Wd_number_30
  · skip
    refine lv_iload_n G.1 G.2.1 d_Wd_number_4 rfl (lv_at hl 1 rfl) ?_
    refine lv_aload_n G.1 G.2.1 d_Wd_number_5 rfl (lv_at hl 0 rfl) ?_
    refine kg (ci := 9) G iWd hP 0 rfl rfl 14 (by decide) q860 rfl rfl d_Wd_number_6 ?_
    refine kg (ci := 3) G iIn hP 1 rfl rfl 1 (by decide) q391 rfl rfl d_Wd_number_9 ?_
    refine lv_icmp_ge (tgt := 29) G.1 G.2.1 d_Wd_number_12 (by decide) (fun c12 => ?_) (fun c12 => ?_)
    · skip
      refine lv_iconst (v := (-1)) G.1 G.2.1 d_Wd_number_29 (by decide) ?_
      refine hret (-1) () _ _ _ _ _ ls ⟨0, rfl, Nat.zero_le _⟩ (hP.sub [0, 1, 2] rfl) (hD.sub [0, 1, 2] (by decide) rfl) hS (Nat.le_of_ble_eq_true rfl) (Nat.le_of_ble_eq_true rfl) d_Wd_number_30
    · skip
      obtain ⟨j, hj, hjn⟩ := i_below (by omega) c1 c12
      obtain ⟨z, hz, hzc⟩ := hN j hjn
      refine lv_aload_n G.1 G.2.1 d_Wd_number_15 rfl (lv_at hl 0 rfl) ?_
      refine kg (ci := 9) G iWd hP 0 rfl rfl 14 (by decide) q860 rfl rfl d_Wd_number_16 ?_
      refine kg (ci := 3) G iIn hP 1 rfl rfl 0 (by decide) q384 rfl rfl d_Wd_number_19 ?_
      refine lv_iload_n G.1 G.2.1 d_Wd_number_22 rfl (lv_at hl 1 rfl) ?_
      refine tpi (w := nI j) hj ?_
      refine W.eq (g2 := F0 m 23 ls [.int (nI j), .ref i_classNamed]) rfl ?_
      refine kiald G hP 2 0 rfl rfl (by omega) (by omega) d_Wd_number_23 ?_
      refine tpi (w := nI z) hz ?_
      refine lv_iconst (v := nI 1) G.1 G.2.1 d_Wd_number_24 (by decide) ?_
      refine lv_isub G.1 G.2.1 d_Wd_number_25 ?_
      refine tpi (w := cv z) (cv_sub z) ?_
      refine lv_goto (tgt := 30) G.1 G.2.1 d_Wd_number_26 (by decide) ?_
      refine hret (cv z) () _ _ _ _ _ ls ⟨z, rfl, hzc⟩ (hP.sub [0, 1, 2] rfl) (hD.sub [0, 1, 2] (by decide) rfl) hS (Nat.le_of_ble_eq_true rfl) (Nat.le_of_ble_eq_true rfl) d_Wd_number_30
def y_Wd_toldParent : MethodName := ⟨"ClassWorks$World", "toldParent", "(I)I"⟩
abbrev b_Wd_toldParent : ByteArray := prog_11_method_10_code
theorem d_Wd_toldParent_0 : decode b_Wd_toldParent 0 = .ok (.aload_n 0, 1) := by decide +kernel
theorem d_Wd_toldParent_1 : decode b_Wd_toldParent 1 = .ok (.getfield 28, 3) := by decide +kernel
theorem d_Wd_toldParent_4 : decode b_Wd_toldParent 4 = .ok (.iload_n 1, 1) := by decide +kernel
theorem d_Wd_toldParent_5 : decode b_Wd_toldParent 5 = .ok (.bipush 19, 2) := by decide +kernel
theorem d_Wd_toldParent_7 : decode b_Wd_toldParent 7 = .ok (.imul, 1) := by decide +kernel
theorem d_Wd_toldParent_8 : decode b_Wd_toldParent 8 = .ok (.iconst 2, 1) := by decide +kernel
theorem d_Wd_toldParent_9 : decode b_Wd_toldParent 9 = .ok (.iadd, 1) := by decide +kernel
theorem d_Wd_toldParent_10 : decode b_Wd_toldParent 10 = .ok (.iaload, 1) := by decide +kernel
theorem d_Wd_toldParent_11 : decode b_Wd_toldParent 11 = .ok (.istore_n 2, 1) := by decide +kernel
theorem d_Wd_toldParent_12 : decode b_Wd_toldParent 12 = .ok (.iload_n 2, 1) := by decide +kernel
theorem d_Wd_toldParent_13 : decode b_Wd_toldParent 13 = .ok (.ifCond .lt 28, 3) := by decide +kernel
theorem d_Wd_toldParent_16 : decode b_Wd_toldParent 16 = .ok (.iload_n 2, 1) := by decide +kernel
theorem d_Wd_toldParent_17 : decode b_Wd_toldParent 17 = .ok (.aload_n 0, 1) := by decide +kernel
theorem d_Wd_toldParent_18 : decode b_Wd_toldParent 18 = .ok (.getfield 60, 3) := by decide +kernel
theorem d_Wd_toldParent_21 : decode b_Wd_toldParent 21 = .ok (.getfield 91, 3) := by decide +kernel
theorem d_Wd_toldParent_24 : decode b_Wd_toldParent 24 = .ok (.if_icmp .ge 17, 3) := by decide +kernel
theorem d_Wd_toldParent_27 : decode b_Wd_toldParent 27 = .ok (.aload_n 0, 1) := by decide +kernel
theorem d_Wd_toldParent_28 : decode b_Wd_toldParent 28 = .ok (.getfield 60, 3) := by decide +kernel
theorem d_Wd_toldParent_31 : decode b_Wd_toldParent 31 = .ok (.getfield 98, 3) := by decide +kernel
theorem d_Wd_toldParent_34 : decode b_Wd_toldParent 34 = .ok (.iload_n 2, 1) := by decide +kernel
theorem d_Wd_toldParent_35 : decode b_Wd_toldParent 35 = .ok (.iaload, 1) := by decide +kernel
theorem d_Wd_toldParent_36 : decode b_Wd_toldParent 36 = .ok (.iconst 1, 1) := by decide +kernel
theorem d_Wd_toldParent_37 : decode b_Wd_toldParent 37 = .ok (.isub, 1) := by decide +kernel
theorem d_Wd_toldParent_38 : decode b_Wd_toldParent 38 = .ok (.goto 4, 3) := by decide +kernel
theorem d_Wd_toldParent_41 : decode b_Wd_toldParent 41 = .ok (.iconst (-1), 1) := by decide +kernel
theorem d_Wd_toldParent_42 : decode b_Wd_toldParent 42 = .ok (.ireturn, 1) := by decide +kernel
abbrev rm_Wd_toldParent : Room := { frames := 0, cells := 0, slots := 0, locals := 0 }
set_option maxHeartbeats 4000000 in
set_option maxRecDepth 100000 in
/-- toldParent -/
theorem c_Wd_toldParent (l : Launch) (D : va_G) (g : Nat → ClassId) (h0 : Nat) (c9 : Nat) (r_names : Nat) (f_used : Int32) (f_count : Int32) (f_wrongClass : Int32) (f_wrongMethod : Int32) (f_wrongAt : Int32) (r_rows : Nat) (r_above : Nat) (r_fields : Nat) (r_methods : Nat) (r_codes : Nat) (r_handlers : Nat) (r_extra : Nat) (r_orders : Nat) (r_classNamed : Nat) (f_breaks : Int32) (r_marks : Nat) (d_rows : Nat → Int32) (i_classNamed : Nat) (s_classNamed : Nat) (c_classNamed : Nat) (d_classNamed : Nat → Int32) (cnt : Nat) (sz : Nat) (hN : WN s_classNamed cnt d_classNamed) (hsn : s_classNamed ≤ c_classNamed) (hcn : c_classNamed < 2 ^ 24) (hc : c9 < 51) : Met l y_Wd_toldParent (mw y_Wd_toldParent b_Wd_toldParent 3 (some .int)) (rm_Wd_toldParent) (PC g D [] [.ref h0, .int (nI c9)] sz [(h0, .inr (9, [.ref r_names, .int f_used, .int f_count, .int f_wrongClass, .int f_wrongMethod, .int f_wrongAt, .ref r_rows, .ref r_above, .ref r_fields, .ref r_methods, .ref r_codes, .ref r_handlers, .ref r_extra, .ref r_orders, .ref r_classNamed, .int f_breaks, .ref r_marks])), (r_rows, .inl (g 0, 969, .inl d_rows)), (r_classNamed, .inr (3, [.ref i_classNamed, .int (nI s_classNamed)])), (i_classNamed, .inl (g 0, c_classNamed, .inl d_classNamed))]) (va_Qi (fun (r : Int32) (u : Unit) => ∃ z : Nat, r = cv z ∧ z ≤ cnt) (QW D (va_A [(h0, .inr (9, [.ref r_names, .int f_used, .int f_count, .int f_wrongClass, .int f_wrongMethod, .int f_wrongAt, .ref r_rows, .ref r_above, .ref r_fields, .ref r_methods, .ref r_codes, .ref r_handlers, .ref r_extra, .ref r_orders, .ref r_classNamed, .int f_breaks, .ref r_marks])), (r_rows, .inl (g 0, 969, .inl d_rows)), (r_classNamed, .inr (3, [.ref i_classNamed, .int (nI s_classNamed)])), (i_classNamed, .inl (g 0, c_classNamed, .inl d_classNamed))] sz) (fun u : Unit => [(h0, .inr (9, [.ref r_names, .int f_used, .int f_count, .int f_wrongClass, .int f_wrongMethod, .int f_wrongAt, .ref r_rows, .ref r_above, .ref r_fields, .ref r_methods, .ref r_codes, .ref r_handlers, .ref r_extra, .ref r_orders, .ref r_classNamed, .int f_breaks, .ref r_marks])), (r_rows, .inl (g 0, 969, .inl d_rows)), (r_classNamed, .inr (3, [.ref i_classNamed, .int (nI s_classNamed)])), (i_classNamed, .inl (g 0, c_classNamed, .inl d_classNamed))])) (va_A [(h0, .inr (9, [.ref r_names, .int f_used, .int f_count, .int f_wrongClass, .int f_wrongMethod, .int f_wrongAt, .ref r_rows, .ref r_above, .ref r_fields, .ref r_methods, .ref r_codes, .ref r_handlers, .ref r_extra, .ref r_orders, .ref r_classNamed, .int f_breaks, .ref r_marks])), (r_rows, .inl (g 0, 969, .inl d_rows)), (r_classNamed, .inr (3, [.ref i_classNamed, .int (nI s_classNamed)])), (i_classNamed, .inl (g 0, c_classNamed, .inl d_classNamed))] sz)) 0 0 (va_A [(h0, .inr (9, [.ref r_names, .int f_used, .int f_count, .int f_wrongClass, .int f_wrongMethod, .int f_wrongAt, .ref r_rows, .ref r_above, .ref r_fields, .ref r_methods, .ref r_codes, .ref r_handlers, .ref r_extra, .ref r_orders, .ref r_classNamed, .int f_breaks, .ref r_marks])), (r_rows, .inl (g 0, 969, .inl d_rows)), (r_classNamed, .inr (3, [.ref i_classNamed, .int (nI s_classNamed)])), (i_classNamed, .inl (g 0, c_classNamed, .inl d_classNamed))] sz) := by
  refine ofI (by decide +kernel) (Nat.le_of_ble_eq_true rfl) ?_
  intro p e s m args below meth c A Q ls H locs G hsz hP hD hS hl hret
  subst hsz
  have hl : lv_has ls 3 [(0, .ref h0), (1, .int (nI c9))] := hl
  refine lv_aload_n G.1 G.2.1 d_Wd_toldParent_0 rfl (lv_at hl 0 rfl) ?_
  refine kg (ci := 9) G iWd hP 0 rfl rfl 6 (by decide) q831 rfl rfl d_Wd_toldParent_1 ?_
  refine lv_iload_n G.1 G.2.1 d_Wd_toldParent_4 rfl (lv_at hl 1 rfl) ?_
  refine lv_bipush (v := nI 19) G.1 G.2.1 d_Wd_toldParent_5 (by decide) ?_
  refine lv_imul G.1 G.2.1 d_Wd_toldParent_7 ?_
  refine tpi (w := nI (c9 * 19)) (pk_mul _ _) ?_
  refine lv_iconst (v := nI 2) G.1 G.2.1 d_Wd_toldParent_8 (by decide) ?_
  refine lv_iadd G.1 G.2.1 d_Wd_toldParent_9 ?_
  refine tpi (w := nI (c9 * 19 + 2)) (nI_add _ _) ?_
  refine kiald G hP 1 0 rfl rfl (by omega) (by omega) d_Wd_toldParent_10 ?_
  refine lv_istore_n (lv' := [(2, .int (d_rows (c9 * 19 + 2))), (0, .ref h0), (1, .int (nI c9))]) G.1 G.2.1 d_Wd_toldParent_11 rfl hl (by decide) rfl (fun ls hl => ?_)
  refine lv_iload_n G.1 G.2.1 d_Wd_toldParent_12 rfl (lv_at hl 0 rfl) ?_
  refine lv_if_lt (tgt := 41) G.1 G.2.1 d_Wd_toldParent_13 (by decide) (fun c13 => ?_) (fun c13 => ?_)
  · skip
    refine W.eq (g2 := F0 m 41 ls []) rfl ?_
    refine lv_iconst (v := (-1)) G.1 G.2.1 d_Wd_toldParent_41 (by decide) ?_
    refine hret (-1) () _ _ _ _ _ ls ⟨0, rfl, Nat.zero_le _⟩ (hP.sub [0, 1, 2, 3] rfl) (hD.sub [0, 1, 2, 3] (by decide) rfl) hS (Nat.le_of_ble_eq_true rfl) (Nat.le_of_ble_eq_true rfl) d_Wd_toldParent_42
  · skip
    refine W.eq (g2 := F0 m 16 ls []) rfl ?_
    refine lv_iload_n G.1 G.2.1 d_Wd_toldParent_16 rfl (lv_at hl 0 rfl) ?_
    refine lv_aload_n G.1 G.2.1 d_Wd_toldParent_17 rfl (lv_at hl 1 rfl) ?_
    refine kg (ci := 9) G iWd hP 0 rfl rfl 14 (by decide) q860 rfl rfl d_Wd_toldParent_18 ?_
    refine kg (ci := 3) G iIn hP 2 rfl rfl 1 (by decide) q391 rfl rfl d_Wd_toldParent_21 ?_
    refine lv_icmp_ge (tgt := 41) G.1 G.2.1 d_Wd_toldParent_24 (by decide) (fun c24 => ?_) (fun c24 => ?_)
    · skip
      refine lv_iconst (v := (-1)) G.1 G.2.1 d_Wd_toldParent_41 (by decide) ?_
      refine hret (-1) () _ _ _ _ _ ls ⟨0, rfl, Nat.zero_le _⟩ (hP.sub [0, 1, 2, 3] rfl) (hD.sub [0, 1, 2, 3] (by decide) rfl) hS (Nat.le_of_ble_eq_true rfl) (Nat.le_of_ble_eq_true rfl) d_Wd_toldParent_42
    · skip
      obtain ⟨j, hj, hjn⟩ := i_below (by omega) c13 c24
      obtain ⟨z, hz, hzc⟩ := hN j hjn
      refine lv_aload_n G.1 G.2.1 d_Wd_toldParent_27 rfl (lv_at hl 1 rfl) ?_
      refine kg (ci := 9) G iWd hP 0 rfl rfl 14 (by decide) q860 rfl rfl d_Wd_toldParent_28 ?_
      refine kg (ci := 3) G iIn hP 2 rfl rfl 0 (by decide) q384 rfl rfl d_Wd_toldParent_31 ?_
      refine lv_iload_n G.1 G.2.1 d_Wd_toldParent_34 rfl (lv_at hl 0 rfl) ?_
      refine tpi (w := nI j) hj ?_
      refine kiald G hP 3 0 rfl rfl (by omega) (by omega) d_Wd_toldParent_35 ?_
      refine tpi (w := nI z) hz ?_
      refine lv_iconst (v := nI 1) G.1 G.2.1 d_Wd_toldParent_36 (by decide) ?_
      refine lv_isub G.1 G.2.1 d_Wd_toldParent_37 ?_
      refine tpi (w := cv z) (cv_sub z) ?_
      refine W.eq (g2 := F0 m 38 ls [.int (cv z)]) rfl ?_
      refine lv_goto (tgt := 42) G.1 G.2.1 d_Wd_toldParent_38 (by decide) ?_
      refine hret (cv z) () _ _ _ _ _ ls ⟨z, rfl, hzc⟩ (hP.sub [0, 1, 2, 3] rfl) (hD.sub [0, 1, 2, 3] (by decide) rfl) hS (Nat.le_of_ble_eq_true rfl) (Nat.le_of_ble_eq_true rfl) d_Wd_toldParent_42
def y_Wd_up : MethodName := ⟨"ClassWorks$World", "up", "(I)I"⟩
abbrev b_Wd_up : ByteArray := prog_11_method_11_code
theorem d_Wd_up_0 : decode b_Wd_up 0 = .ok (.iload_n 1, 1) := by decide +kernel
theorem d_Wd_up_1 : decode b_Wd_up 1 = .ok (.bipush 19, 2) := by decide +kernel
theorem d_Wd_up_3 : decode b_Wd_up 3 = .ok (.imul, 1) := by decide +kernel
theorem d_Wd_up_4 : decode b_Wd_up 4 = .ok (.istore_n 2, 1) := by decide +kernel
theorem d_Wd_up_5 : decode b_Wd_up 5 = .ok (.aload_n 0, 1) := by decide +kernel
theorem d_Wd_up_6 : decode b_Wd_up 6 = .ok (.getfield 28, 3) := by decide +kernel
theorem d_Wd_up_9 : decode b_Wd_up 9 = .ok (.iload_n 2, 1) := by decide +kernel
theorem d_Wd_up_10 : decode b_Wd_up 10 = .ok (.iconst 1, 1) := by decide +kernel
theorem d_Wd_up_11 : decode b_Wd_up 11 = .ok (.iadd, 1) := by decide +kernel
theorem d_Wd_up_12 : decode b_Wd_up 12 = .ok (.iaload, 1) := by decide +kernel
theorem d_Wd_up_13 : decode b_Wd_up 13 = .ok (.iconst 4, 1) := by decide +kernel
theorem d_Wd_up_14 : decode b_Wd_up 14 = .ok (.iand, 1) := by decide +kernel
theorem d_Wd_up_15 : decode b_Wd_up 15 = .ok (.ifCond .eq 8, 3) := by decide +kernel
theorem d_Wd_up_18 : decode b_Wd_up 18 = .ok (.bipush 9, 2) := by decide +kernel
theorem d_Wd_up_20 : decode b_Wd_up 20 = .ok (.goto 11, 3) := by decide +kernel
theorem d_Wd_up_23 : decode b_Wd_up 23 = .ok (.aload_n 0, 1) := by decide +kernel
theorem d_Wd_up_24 : decode b_Wd_up 24 = .ok (.getfield 28, 3) := by decide +kernel
theorem d_Wd_up_27 : decode b_Wd_up 27 = .ok (.iload_n 2, 1) := by decide +kernel
theorem d_Wd_up_28 : decode b_Wd_up 28 = .ok (.iconst 2, 1) := by decide +kernel
theorem d_Wd_up_29 : decode b_Wd_up 29 = .ok (.iadd, 1) := by decide +kernel
theorem d_Wd_up_30 : decode b_Wd_up 30 = .ok (.iaload, 1) := by decide +kernel
theorem d_Wd_up_31 : decode b_Wd_up 31 = .ok (.istore_n 3, 1) := by decide +kernel
theorem d_Wd_up_32 : decode b_Wd_up 32 = .ok (.iload_n 3, 1) := by decide +kernel
theorem d_Wd_up_33 : decode b_Wd_up 33 = .ok (.ifCond .lt 28, 3) := by decide +kernel
theorem d_Wd_up_36 : decode b_Wd_up 36 = .ok (.iload_n 3, 1) := by decide +kernel
theorem d_Wd_up_37 : decode b_Wd_up 37 = .ok (.aload_n 0, 1) := by decide +kernel
theorem d_Wd_up_38 : decode b_Wd_up 38 = .ok (.getfield 60, 3) := by decide +kernel
theorem d_Wd_up_41 : decode b_Wd_up 41 = .ok (.getfield 91, 3) := by decide +kernel
theorem d_Wd_up_44 : decode b_Wd_up 44 = .ok (.if_icmp .ge 17, 3) := by decide +kernel
theorem d_Wd_up_47 : decode b_Wd_up 47 = .ok (.aload_n 0, 1) := by decide +kernel
theorem d_Wd_up_48 : decode b_Wd_up 48 = .ok (.getfield 60, 3) := by decide +kernel
theorem d_Wd_up_51 : decode b_Wd_up 51 = .ok (.getfield 98, 3) := by decide +kernel
theorem d_Wd_up_54 : decode b_Wd_up 54 = .ok (.iload_n 3, 1) := by decide +kernel
theorem d_Wd_up_55 : decode b_Wd_up 55 = .ok (.iaload, 1) := by decide +kernel
theorem d_Wd_up_56 : decode b_Wd_up 56 = .ok (.iconst 1, 1) := by decide +kernel
theorem d_Wd_up_57 : decode b_Wd_up 57 = .ok (.isub, 1) := by decide +kernel
theorem d_Wd_up_58 : decode b_Wd_up 58 = .ok (.goto 4, 3) := by decide +kernel
theorem d_Wd_up_61 : decode b_Wd_up 61 = .ok (.iconst (-1), 1) := by decide +kernel
theorem d_Wd_up_62 : decode b_Wd_up 62 = .ok (.ireturn, 1) := by decide +kernel
abbrev rm_Wd_up : Room := { frames := 0, cells := 0, slots := 0, locals := 0 }
set_option maxHeartbeats 4000000 in
set_option maxRecDepth 100000 in
/-- up -/
theorem c_Wd_up (l : Launch) (D : va_G) (g : Nat → ClassId) (h0 : Nat) (c9 : Nat) (r_names : Nat) (f_used : Int32) (f_count : Int32) (f_wrongClass : Int32) (f_wrongMethod : Int32) (f_wrongAt : Int32) (r_rows : Nat) (r_above : Nat) (r_fields : Nat) (r_methods : Nat) (r_codes : Nat) (r_handlers : Nat) (r_extra : Nat) (r_orders : Nat) (r_classNamed : Nat) (f_breaks : Int32) (r_marks : Nat) (d_rows : Nat → Int32) (i_classNamed : Nat) (s_classNamed : Nat) (c_classNamed : Nat) (d_classNamed : Nat → Int32) (cnt : Nat) (sz : Nat) (hN : WN s_classNamed cnt d_classNamed) (hsn : s_classNamed ≤ c_classNamed) (hcn : c_classNamed < 2 ^ 24) (hc : c9 < 51) : Met l y_Wd_up (mw y_Wd_up b_Wd_up 4 (some .int)) (rm_Wd_up) (PC g D [] [.ref h0, .int (nI c9)] sz [(h0, .inr (9, [.ref r_names, .int f_used, .int f_count, .int f_wrongClass, .int f_wrongMethod, .int f_wrongAt, .ref r_rows, .ref r_above, .ref r_fields, .ref r_methods, .ref r_codes, .ref r_handlers, .ref r_extra, .ref r_orders, .ref r_classNamed, .int f_breaks, .ref r_marks])), (r_rows, .inl (g 0, 969, .inl d_rows)), (r_classNamed, .inr (3, [.ref i_classNamed, .int (nI s_classNamed)])), (i_classNamed, .inl (g 0, c_classNamed, .inl d_classNamed))]) (va_Qi (fun (r : Int32) (u : Unit) => ∃ z : Nat, r = cv z ∧ z ≤ cnt) (QW D (va_A [(h0, .inr (9, [.ref r_names, .int f_used, .int f_count, .int f_wrongClass, .int f_wrongMethod, .int f_wrongAt, .ref r_rows, .ref r_above, .ref r_fields, .ref r_methods, .ref r_codes, .ref r_handlers, .ref r_extra, .ref r_orders, .ref r_classNamed, .int f_breaks, .ref r_marks])), (r_rows, .inl (g 0, 969, .inl d_rows)), (r_classNamed, .inr (3, [.ref i_classNamed, .int (nI s_classNamed)])), (i_classNamed, .inl (g 0, c_classNamed, .inl d_classNamed))] sz) (fun u : Unit => [(h0, .inr (9, [.ref r_names, .int f_used, .int f_count, .int f_wrongClass, .int f_wrongMethod, .int f_wrongAt, .ref r_rows, .ref r_above, .ref r_fields, .ref r_methods, .ref r_codes, .ref r_handlers, .ref r_extra, .ref r_orders, .ref r_classNamed, .int f_breaks, .ref r_marks])), (r_rows, .inl (g 0, 969, .inl d_rows)), (r_classNamed, .inr (3, [.ref i_classNamed, .int (nI s_classNamed)])), (i_classNamed, .inl (g 0, c_classNamed, .inl d_classNamed))])) (va_A [(h0, .inr (9, [.ref r_names, .int f_used, .int f_count, .int f_wrongClass, .int f_wrongMethod, .int f_wrongAt, .ref r_rows, .ref r_above, .ref r_fields, .ref r_methods, .ref r_codes, .ref r_handlers, .ref r_extra, .ref r_orders, .ref r_classNamed, .int f_breaks, .ref r_marks])), (r_rows, .inl (g 0, 969, .inl d_rows)), (r_classNamed, .inr (3, [.ref i_classNamed, .int (nI s_classNamed)])), (i_classNamed, .inl (g 0, c_classNamed, .inl d_classNamed))] sz)) 0 0 (va_A [(h0, .inr (9, [.ref r_names, .int f_used, .int f_count, .int f_wrongClass, .int f_wrongMethod, .int f_wrongAt, .ref r_rows, .ref r_above, .ref r_fields, .ref r_methods, .ref r_codes, .ref r_handlers, .ref r_extra, .ref r_orders, .ref r_classNamed, .int f_breaks, .ref r_marks])), (r_rows, .inl (g 0, 969, .inl d_rows)), (r_classNamed, .inr (3, [.ref i_classNamed, .int (nI s_classNamed)])), (i_classNamed, .inl (g 0, c_classNamed, .inl d_classNamed))] sz) := by
  refine ofI (by decide +kernel) (Nat.le_of_ble_eq_true rfl) ?_
  intro p e s m args below meth c A Q ls H locs G hsz hP hD hS hl hret
  subst hsz
  have hl : lv_has ls 4 [(0, .ref h0), (1, .int (nI c9))] := hl
  refine lv_iload_n G.1 G.2.1 d_Wd_up_0 rfl (lv_at hl 1 rfl) ?_
  refine lv_bipush (v := nI 19) G.1 G.2.1 d_Wd_up_1 (by decide) ?_
  refine lv_imul G.1 G.2.1 d_Wd_up_3 ?_
  refine tpi (w := nI (c9 * 19)) (pk_mul _ _) ?_
  refine lv_istore_n (lv' := [(2, .int (nI (c9 * 19))), (0, .ref h0), (1, .int (nI c9))]) G.1 G.2.1 d_Wd_up_4 rfl hl (by decide) rfl (fun ls hl => ?_)
  refine lv_aload_n G.1 G.2.1 d_Wd_up_5 rfl (lv_at hl 1 rfl) ?_
  refine kg (ci := 9) G iWd hP 0 rfl rfl 6 (by decide) q831 rfl rfl d_Wd_up_6 ?_
  refine lv_iload_n G.1 G.2.1 d_Wd_up_9 rfl (lv_at hl 0 rfl) ?_
  refine lv_iconst (v := nI 1) G.1 G.2.1 d_Wd_up_10 (by decide) ?_
  refine lv_iadd G.1 G.2.1 d_Wd_up_11 ?_
  refine tpi (w := nI (c9 * 19 + 1)) (nI_add _ _) ?_
  refine kiald G hP 1 0 rfl rfl (by omega) (by omega) d_Wd_up_12 ?_
  refine lv_iconst (v := nI 4) G.1 G.2.1 d_Wd_up_13 (by decide) ?_
  refine W.eq (g2 := F0 m 14 ls [.int (nI 4), .int (d_rows (c9 * 19 + 1))]) rfl ?_
  refine lv_iand G.1 G.2.1 d_Wd_up_14 ?_
  have J_1 : ∀ (pn : Int32), ∀ (H : Heap) (locs : List Loc), va_P D CL [(h0, .inr (9, [.ref r_names, .int f_used, .int f_count, .int f_wrongClass, .int f_wrongMethod, .int f_wrongAt, .ref r_rows, .ref r_above, .ref r_fields, .ref r_methods, .ref r_codes, .ref r_handlers, .ref r_extra, .ref r_orders, .ref r_classNamed, .int f_breaks, .ref r_marks])), (r_rows, .inl (g 0, 969, .inl d_rows)), (r_classNamed, .inr (3, [.ref i_classNamed, .int (nI s_classNamed)])), (i_classNamed, .inl (g 0, c_classNamed, .inl d_classNamed))] H → va_D A [(h0, .inr (9, [.ref r_names, .int f_used, .int f_count, .int f_wrongClass, .int f_wrongMethod, .int f_wrongAt, .ref r_rows, .ref r_above, .ref r_fields, .ref r_methods, .ref r_codes, .ref r_handlers, .ref r_extra, .ref r_orders, .ref r_classNamed, .int f_breaks, .ref r_marks])), (r_rows, .inl (g 0, 969, .inl d_rows)), (r_classNamed, .inr (3, [.ref i_classNamed, .int (nI s_classNamed)])), (i_classNamed, .inl (g 0, c_classNamed, .inl d_classNamed))] → va_S A s.heap H locs → ∀ ls, lv_has ls 4 [(2, .int (nI (c9 * 19))), (0, .ref h0), (1, .int (nI c9))] → W p l e rm_Wd_up s m args below meth c H locs 0 0 Q (F0 m 31 ls [.int pn]) := by
    intro pn  H locs hP hD hS ls hl
    refine lv_istore_n (lv' := [(3, .int pn), (2, .int (nI (c9 * 19))), (0, .ref h0), (1, .int (nI c9))]) G.1 G.2.1 d_Wd_up_31 rfl hl (by decide) rfl (fun ls hl => ?_)
    refine lv_iload_n G.1 G.2.1 d_Wd_up_32 rfl (lv_at hl 0 rfl) ?_
    refine lv_if_lt (tgt := 61) G.1 G.2.1 d_Wd_up_33 (by decide) (fun c33 => ?_) (fun c33 => ?_)
    · skip
      refine lv_iconst (v := (-1)) G.1 G.2.1 d_Wd_up_61 (by decide) ?_
      refine hret (-1) () _ _ _ _ _ ls ⟨0, rfl, Nat.zero_le _⟩ (hP.sub [0, 1, 2, 3] rfl) (hD.sub [0, 1, 2, 3] (by decide) rfl) hS (Nat.le_of_ble_eq_true rfl) (Nat.le_of_ble_eq_true rfl) d_Wd_up_62
    · skip
      refine lv_iload_n G.1 G.2.1 d_Wd_up_36 rfl (lv_at hl 0 rfl) ?_
      refine lv_aload_n G.1 G.2.1 d_Wd_up_37 rfl (lv_at hl 2 rfl) ?_
      refine kg (ci := 9) G iWd hP 0 rfl rfl 14 (by decide) q860 rfl rfl d_Wd_up_38 ?_
      refine kg (ci := 3) G iIn hP 2 rfl rfl 1 (by decide) q391 rfl rfl d_Wd_up_41 ?_
      refine lv_icmp_ge (tgt := 61) G.1 G.2.1 d_Wd_up_44 (by decide) (fun c44 => ?_) (fun c44 => ?_)
      · skip
        refine lv_iconst (v := (-1)) G.1 G.2.1 d_Wd_up_61 (by decide) ?_
        refine hret (-1) () _ _ _ _ _ ls ⟨0, rfl, Nat.zero_le _⟩ (hP.sub [0, 1, 2, 3] rfl) (hD.sub [0, 1, 2, 3] (by decide) rfl) hS (Nat.le_of_ble_eq_true rfl) (Nat.le_of_ble_eq_true rfl) d_Wd_up_62
      · skip
        obtain ⟨j, hj, hjn⟩ := i_below (by omega) c33 c44
        obtain ⟨z, hz, hzc⟩ := hN j hjn
        refine lv_aload_n G.1 G.2.1 d_Wd_up_47 rfl (lv_at hl 2 rfl) ?_
        refine kg (ci := 9) G iWd hP 0 rfl rfl 14 (by decide) q860 rfl rfl d_Wd_up_48 ?_
        refine kg (ci := 3) G iIn hP 2 rfl rfl 0 (by decide) q384 rfl rfl d_Wd_up_51 ?_
        refine W.eq (g2 := F0 m 54 ls [.ref i_classNamed]) rfl ?_
        refine lv_iload_n G.1 G.2.1 d_Wd_up_54 rfl (lv_at hl 0 rfl) ?_
        refine tpi (w := nI j) hj ?_
        refine kiald G hP 3 0 rfl rfl (by omega) (by omega) d_Wd_up_55 ?_
        refine tpi (w := nI z) hz ?_
        refine lv_iconst (v := nI 1) G.1 G.2.1 d_Wd_up_56 (by decide) ?_
        refine lv_isub G.1 G.2.1 d_Wd_up_57 ?_
        refine tpi (w := cv z) (cv_sub z) ?_
        refine lv_goto (tgt := 62) G.1 G.2.1 d_Wd_up_58 (by decide) ?_
        refine hret (cv z) () _ _ _ _ _ ls ⟨z, rfl, hzc⟩ (hP.sub [0, 1, 2, 3] rfl) (hD.sub [0, 1, 2, 3] (by decide) rfl) hS (Nat.le_of_ble_eq_true rfl) (Nat.le_of_ble_eq_true rfl) d_Wd_up_62
  refine lv_if_eq (tgt := 23) G.1 G.2.1 d_Wd_up_15 (by decide) (fun c15 => ?_) (fun c15 => ?_)
  · skip
    refine lv_aload_n G.1 G.2.1 d_Wd_up_23 rfl (lv_at hl 1 rfl) ?_
    refine kg (ci := 9) G iWd hP 0 rfl rfl 6 (by decide) q831 rfl rfl d_Wd_up_24 ?_
    refine lv_iload_n G.1 G.2.1 d_Wd_up_27 rfl (lv_at hl 0 rfl) ?_
    refine lv_iconst (v := nI 2) G.1 G.2.1 d_Wd_up_28 (by decide) ?_
    refine lv_iadd G.1 G.2.1 d_Wd_up_29 ?_
    refine tpi (w := nI (c9 * 19 + 2)) (nI_add _ _) ?_
    refine kiald G hP 1 0 rfl rfl (by omega) (by omega) d_Wd_up_30 ?_
    exact J_1 (d_rows (c9 * 19 + 2))  _ _ (hP.sub [0, 1, 2, 3] rfl) (hD.sub [0, 1, 2, 3] (by decide) rfl) hS ls (lv_sub hl [0, 1, 2] rfl)
  · skip
    refine lv_bipush (v := nI 9) G.1 G.2.1 d_Wd_up_18 (by decide) ?_
    refine lv_goto (tgt := 31) G.1 G.2.1 d_Wd_up_20 (by decide) ?_
    exact J_1 (nI 9)  _ _ (hP.sub [0, 1, 2, 3] rfl) (hD.sub [0, 1, 2, 3] (by decide) rfl) hS ls (lv_sub hl [0, 1, 2] rfl)
def y_Wd_face : MethodName := ⟨"ClassWorks$World", "face", "(II)I"⟩
abbrev b_Wd_face : ByteArray := prog_11_method_12_code
theorem d_Wd_face_0 : decode b_Wd_face 0 = .ok (.aload_n 0, 1) := by decide +kernel
theorem d_Wd_face_1 : decode b_Wd_face 1 = .ok (.getfield 28, 3) := by decide +kernel
theorem d_Wd_face_4 : decode b_Wd_face 4 = .ok (.iload_n 1, 1) := by decide +kernel
theorem d_Wd_face_5 : decode b_Wd_face 5 = .ok (.bipush 19, 2) := by decide +kernel
theorem d_Wd_face_7 : decode b_Wd_face 7 = .ok (.imul, 1) := by decide +kernel
theorem d_Wd_face_8 : decode b_Wd_face 8 = .ok (.iconst 4, 1) := by decide +kernel
theorem d_Wd_face_9 : decode b_Wd_face 9 = .ok (.iadd, 1) := by decide +kernel
theorem d_Wd_face_10 : decode b_Wd_face 10 = .ok (.iload_n 2, 1) := by decide +kernel
theorem d_Wd_face_11 : decode b_Wd_face 11 = .ok (.iadd, 1) := by decide +kernel
theorem d_Wd_face_12 : decode b_Wd_face 12 = .ok (.iaload, 1) := by decide +kernel
theorem d_Wd_face_13 : decode b_Wd_face 13 = .ok (.istore_n 3, 1) := by decide +kernel
theorem d_Wd_face_14 : decode b_Wd_face 14 = .ok (.iload_n 3, 1) := by decide +kernel
theorem d_Wd_face_15 : decode b_Wd_face 15 = .ok (.aload_n 0, 1) := by decide +kernel
theorem d_Wd_face_16 : decode b_Wd_face 16 = .ok (.getfield 60, 3) := by decide +kernel
theorem d_Wd_face_19 : decode b_Wd_face 19 = .ok (.getfield 91, 3) := by decide +kernel
theorem d_Wd_face_22 : decode b_Wd_face 22 = .ok (.if_icmp .ge 17, 3) := by decide +kernel
theorem d_Wd_face_25 : decode b_Wd_face 25 = .ok (.aload_n 0, 1) := by decide +kernel
theorem d_Wd_face_26 : decode b_Wd_face 26 = .ok (.getfield 60, 3) := by decide +kernel
theorem d_Wd_face_29 : decode b_Wd_face 29 = .ok (.getfield 98, 3) := by decide +kernel
theorem d_Wd_face_32 : decode b_Wd_face 32 = .ok (.iload_n 3, 1) := by decide +kernel
theorem d_Wd_face_33 : decode b_Wd_face 33 = .ok (.iaload, 1) := by decide +kernel
theorem d_Wd_face_34 : decode b_Wd_face 34 = .ok (.iconst 1, 1) := by decide +kernel
theorem d_Wd_face_35 : decode b_Wd_face 35 = .ok (.isub, 1) := by decide +kernel
theorem d_Wd_face_36 : decode b_Wd_face 36 = .ok (.goto 4, 3) := by decide +kernel
theorem d_Wd_face_39 : decode b_Wd_face 39 = .ok (.iconst (-1), 1) := by decide +kernel
theorem d_Wd_face_40 : decode b_Wd_face 40 = .ok (.ireturn, 1) := by decide +kernel
abbrev rm_Wd_face : Room := { frames := 0, cells := 0, slots := 0, locals := 0 }
set_option maxHeartbeats 4000000 in
set_option maxRecDepth 100000 in
/-- face -/
theorem c_Wd_face (l : Launch) (D : va_G) (g : Nat → ClassId) (h0 : Nat) (c9 : Nat) (i9 : Nat) (r_names : Nat) (f_used : Int32) (f_count : Int32) (f_wrongClass : Int32) (f_wrongMethod : Int32) (f_wrongAt : Int32) (r_rows : Nat) (r_above : Nat) (r_fields : Nat) (r_methods : Nat) (r_codes : Nat) (r_handlers : Nat) (r_extra : Nat) (r_orders : Nat) (r_classNamed : Nat) (f_breaks : Int32) (r_marks : Nat) (d_rows : Nat → Int32) (i_classNamed : Nat) (s_classNamed : Nat) (c_classNamed : Nat) (d_classNamed : Nat → Int32) (cnt j : Nat) (sz : Nat) (hN : WN s_classNamed cnt d_classNamed) (hsn : s_classNamed ≤ c_classNamed) (hcn : c_classNamed < 2 ^ 24) (hc : c9 < 51) (hi : i9 < 4) (hj : d_rows (c9 * 19 + 4 + i9) = nI j) (hj2 : j < 2 ^ 24) : Met l y_Wd_face (mw y_Wd_face b_Wd_face 4 (some .int)) (rm_Wd_face) (PC g D [] [.ref h0, .int (nI c9), .int (nI i9)] sz [(h0, .inr (9, [.ref r_names, .int f_used, .int f_count, .int f_wrongClass, .int f_wrongMethod, .int f_wrongAt, .ref r_rows, .ref r_above, .ref r_fields, .ref r_methods, .ref r_codes, .ref r_handlers, .ref r_extra, .ref r_orders, .ref r_classNamed, .int f_breaks, .ref r_marks])), (r_rows, .inl (g 0, 969, .inl d_rows)), (r_classNamed, .inr (3, [.ref i_classNamed, .int (nI s_classNamed)])), (i_classNamed, .inl (g 0, c_classNamed, .inl d_classNamed))]) (va_Qi (fun (r : Int32) (u : Unit) => ∃ z : Nat, r = cv z ∧ z ≤ cnt) (QW D (va_A [(h0, .inr (9, [.ref r_names, .int f_used, .int f_count, .int f_wrongClass, .int f_wrongMethod, .int f_wrongAt, .ref r_rows, .ref r_above, .ref r_fields, .ref r_methods, .ref r_codes, .ref r_handlers, .ref r_extra, .ref r_orders, .ref r_classNamed, .int f_breaks, .ref r_marks])), (r_rows, .inl (g 0, 969, .inl d_rows)), (r_classNamed, .inr (3, [.ref i_classNamed, .int (nI s_classNamed)])), (i_classNamed, .inl (g 0, c_classNamed, .inl d_classNamed))] sz) (fun u : Unit => [(h0, .inr (9, [.ref r_names, .int f_used, .int f_count, .int f_wrongClass, .int f_wrongMethod, .int f_wrongAt, .ref r_rows, .ref r_above, .ref r_fields, .ref r_methods, .ref r_codes, .ref r_handlers, .ref r_extra, .ref r_orders, .ref r_classNamed, .int f_breaks, .ref r_marks])), (r_rows, .inl (g 0, 969, .inl d_rows)), (r_classNamed, .inr (3, [.ref i_classNamed, .int (nI s_classNamed)])), (i_classNamed, .inl (g 0, c_classNamed, .inl d_classNamed))])) (va_A [(h0, .inr (9, [.ref r_names, .int f_used, .int f_count, .int f_wrongClass, .int f_wrongMethod, .int f_wrongAt, .ref r_rows, .ref r_above, .ref r_fields, .ref r_methods, .ref r_codes, .ref r_handlers, .ref r_extra, .ref r_orders, .ref r_classNamed, .int f_breaks, .ref r_marks])), (r_rows, .inl (g 0, 969, .inl d_rows)), (r_classNamed, .inr (3, [.ref i_classNamed, .int (nI s_classNamed)])), (i_classNamed, .inl (g 0, c_classNamed, .inl d_classNamed))] sz)) 0 0 (va_A [(h0, .inr (9, [.ref r_names, .int f_used, .int f_count, .int f_wrongClass, .int f_wrongMethod, .int f_wrongAt, .ref r_rows, .ref r_above, .ref r_fields, .ref r_methods, .ref r_codes, .ref r_handlers, .ref r_extra, .ref r_orders, .ref r_classNamed, .int f_breaks, .ref r_marks])), (r_rows, .inl (g 0, 969, .inl d_rows)), (r_classNamed, .inr (3, [.ref i_classNamed, .int (nI s_classNamed)])), (i_classNamed, .inl (g 0, c_classNamed, .inl d_classNamed))] sz) := by
  refine ofI (by decide +kernel) (Nat.le_of_ble_eq_true rfl) ?_
  intro p e s m args below meth c A Q ls H locs G hsz hP hD hS hl hret
  subst hsz
  have hl : lv_has ls 4 [(0, .ref h0), (1, .int (nI c9)), (2, .int (nI i9))] := hl
  refine lv_aload_n G.1 G.2.1 d_Wd_face_0 rfl (lv_at hl 0 rfl) ?_
  refine kg (ci := 9) G iWd hP 0 rfl rfl 6 (by decide) q831 rfl rfl d_Wd_face_1 ?_
  refine lv_iload_n G.1 G.2.1 d_Wd_face_4 rfl (lv_at hl 1 rfl) ?_
  refine lv_bipush (v := nI 19) G.1 G.2.1 d_Wd_face_5 (by decide) ?_
  refine lv_imul G.1 G.2.1 d_Wd_face_7 ?_
  refine tpi (w := nI (c9 * 19)) (pk_mul _ _) ?_
  refine lv_iconst (v := nI 4) G.1 G.2.1 d_Wd_face_8 (by decide) ?_
  refine lv_iadd G.1 G.2.1 d_Wd_face_9 ?_
  refine tpi (w := nI (c9 * 19 + 4)) (nI_add _ _) ?_
  refine lv_iload_n G.1 G.2.1 d_Wd_face_10 rfl (lv_at hl 2 rfl) ?_
  refine lv_iadd G.1 G.2.1 d_Wd_face_11 ?_
  refine tpi (w := nI (c9 * 19 + 4 + i9)) (nI_add _ _) ?_
  refine kiald G hP 1 0 rfl rfl (by omega) (by omega) d_Wd_face_12 ?_
  refine tpi (w := nI j) hj ?_
  refine lv_istore_n (lv' := [(3, .int (nI j)), (0, .ref h0), (1, .int (nI c9)), (2, .int (nI i9))]) G.1 G.2.1 d_Wd_face_13 rfl hl (by decide) rfl (fun ls hl => ?_)
  refine W.eq (g2 := F0 m 14 ls []) rfl ?_
  refine lv_iload_n G.1 G.2.1 d_Wd_face_14 rfl (lv_at hl 0 rfl) ?_
  refine lv_aload_n G.1 G.2.1 d_Wd_face_15 rfl (lv_at hl 1 rfl) ?_
  refine kg (ci := 9) G iWd hP 0 rfl rfl 14 (by decide) q860 rfl rfl d_Wd_face_16 ?_
  refine kg (ci := 3) G iIn hP 2 rfl rfl 1 (by decide) q391 rfl rfl d_Wd_face_19 ?_
  refine lv_icmp_ge (tgt := 39) G.1 G.2.1 d_Wd_face_22 (by decide) (fun c22 => ?_) (fun c22 => ?_)
  · skip
    have c22 : s_classNamed ≤ j := (nI_leI (by omega) (by omega)).mp c22
    refine lv_iconst (v := (-1)) G.1 G.2.1 d_Wd_face_39 (by decide) ?_
    refine hret (-1) () _ _ _ _ _ ls ⟨0, rfl, Nat.zero_le _⟩ (hP.sub [0, 1, 2, 3] rfl) (hD.sub [0, 1, 2, 3] (by decide) rfl) hS (Nat.le_of_ble_eq_true rfl) (Nat.le_of_ble_eq_true rfl) d_Wd_face_40
  · skip
    have c22 : ¬ (s_classNamed ≤ j) := fun h => c22 ((nI_leI (by omega) (by omega)).mpr h)
    obtain ⟨z, hz, hzc⟩ := hN j (by omega)
    refine lv_aload_n G.1 G.2.1 d_Wd_face_25 rfl (lv_at hl 1 rfl) ?_
    refine kg (ci := 9) G iWd hP 0 rfl rfl 14 (by decide) q860 rfl rfl d_Wd_face_26 ?_
    refine kg (ci := 3) G iIn hP 2 rfl rfl 0 (by decide) q384 rfl rfl d_Wd_face_29 ?_
    refine lv_iload_n G.1 G.2.1 d_Wd_face_32 rfl (lv_at hl 0 rfl) ?_
    refine kiald G hP 3 0 rfl rfl (by omega) (by omega) d_Wd_face_33 ?_
    refine tpi (w := nI z) hz ?_
    refine lv_iconst (v := nI 1) G.1 G.2.1 d_Wd_face_34 (by decide) ?_
    refine lv_isub G.1 G.2.1 d_Wd_face_35 ?_
    refine tpi (w := cv z) (cv_sub z) ?_
    refine W.eq (g2 := F0 m 36 ls [.int (cv z)]) rfl ?_
    refine lv_goto (tgt := 40) G.1 G.2.1 d_Wd_face_36 (by decide) ?_
    refine hret (cv z) () _ _ _ _ _ ls ⟨z, rfl, hzc⟩ (hP.sub [0, 1, 2, 3] rfl) (hD.sub [0, 1, 2, 3] (by decide) rfl) hS (Nat.le_of_ble_eq_true rfl) (Nat.le_of_ble_eq_true rfl) d_Wd_face_40
def y_Wd_isFace : MethodName := ⟨"ClassWorks$World", "isFace", "(I)Z"⟩
abbrev b_Wd_isFace : ByteArray := prog_11_method_13_code
theorem d_Wd_isFace_0 : decode b_Wd_isFace 0 = .ok (.aload_n 0, 1) := by decide +kernel
theorem d_Wd_isFace_1 : decode b_Wd_isFace 1 = .ok (.getfield 28, 3) := by decide +kernel
theorem d_Wd_isFace_4 : decode b_Wd_isFace 4 = .ok (.iload_n 1, 1) := by decide +kernel
theorem d_Wd_isFace_5 : decode b_Wd_isFace 5 = .ok (.bipush 19, 2) := by decide +kernel
theorem d_Wd_isFace_7 : decode b_Wd_isFace 7 = .ok (.imul, 1) := by decide +kernel
theorem d_Wd_isFace_8 : decode b_Wd_isFace 8 = .ok (.iconst 1, 1) := by decide +kernel
theorem d_Wd_isFace_9 : decode b_Wd_isFace 9 = .ok (.iadd, 1) := by decide +kernel
theorem d_Wd_isFace_10 : decode b_Wd_isFace 10 = .ok (.iaload, 1) := by decide +kernel
theorem d_Wd_isFace_11 : decode b_Wd_isFace 11 = .ok (.iconst 4, 1) := by decide +kernel
theorem d_Wd_isFace_12 : decode b_Wd_isFace 12 = .ok (.iand, 1) := by decide +kernel
theorem d_Wd_isFace_13 : decode b_Wd_isFace 13 = .ok (.ifCond .eq 7, 3) := by decide +kernel
theorem d_Wd_isFace_16 : decode b_Wd_isFace 16 = .ok (.iconst 1, 1) := by decide +kernel
theorem d_Wd_isFace_17 : decode b_Wd_isFace 17 = .ok (.goto 4, 3) := by decide +kernel
theorem d_Wd_isFace_20 : decode b_Wd_isFace 20 = .ok (.iconst 0, 1) := by decide +kernel
theorem d_Wd_isFace_21 : decode b_Wd_isFace 21 = .ok (.ireturn, 1) := by decide +kernel
abbrev rm_Wd_isFace : Room := { frames := 0, cells := 0, slots := 0, locals := 0 }
set_option maxHeartbeats 4000000 in
set_option maxRecDepth 100000 in
/-- isFace -/
theorem c_Wd_isFace (l : Launch) (D : va_G) (g : Nat → ClassId) (h0 : Nat) (c9 : Nat) (r_names : Nat) (f_used : Int32) (f_count : Int32) (f_wrongClass : Int32) (f_wrongMethod : Int32) (f_wrongAt : Int32) (r_rows : Nat) (r_above : Nat) (r_fields : Nat) (r_methods : Nat) (r_codes : Nat) (r_handlers : Nat) (r_extra : Nat) (r_orders : Nat) (r_classNamed : Nat) (f_breaks : Int32) (r_marks : Nat) (d_rows : Nat → Int32) (sz : Nat) (hc : c9 < 51) : Met l y_Wd_isFace (mw y_Wd_isFace b_Wd_isFace 2 (some (.boolean))) (rm_Wd_isFace) (PC g D [] [.ref h0, .int (nI c9)] sz [(h0, .inr (9, [.ref r_names, .int f_used, .int f_count, .int f_wrongClass, .int f_wrongMethod, .int f_wrongAt, .ref r_rows, .ref r_above, .ref r_fields, .ref r_methods, .ref r_codes, .ref r_handlers, .ref r_extra, .ref r_orders, .ref r_classNamed, .int f_breaks, .ref r_marks])), (r_rows, .inl (g 0, 969, .inl d_rows))]) (va_Qi (fun (r : Int32) (u : Unit) => (r = 0 ∧ d_rows (c9 * 19 + 1) &&& nI 4 = 0) ∨ (r = 1 ∧ ¬ d_rows (c9 * 19 + 1) &&& nI 4 = 0)) (QW D (va_A [(h0, .inr (9, [.ref r_names, .int f_used, .int f_count, .int f_wrongClass, .int f_wrongMethod, .int f_wrongAt, .ref r_rows, .ref r_above, .ref r_fields, .ref r_methods, .ref r_codes, .ref r_handlers, .ref r_extra, .ref r_orders, .ref r_classNamed, .int f_breaks, .ref r_marks])), (r_rows, .inl (g 0, 969, .inl d_rows))] sz) (fun u : Unit => [(h0, .inr (9, [.ref r_names, .int f_used, .int f_count, .int f_wrongClass, .int f_wrongMethod, .int f_wrongAt, .ref r_rows, .ref r_above, .ref r_fields, .ref r_methods, .ref r_codes, .ref r_handlers, .ref r_extra, .ref r_orders, .ref r_classNamed, .int f_breaks, .ref r_marks])), (r_rows, .inl (g 0, 969, .inl d_rows))])) (va_A [(h0, .inr (9, [.ref r_names, .int f_used, .int f_count, .int f_wrongClass, .int f_wrongMethod, .int f_wrongAt, .ref r_rows, .ref r_above, .ref r_fields, .ref r_methods, .ref r_codes, .ref r_handlers, .ref r_extra, .ref r_orders, .ref r_classNamed, .int f_breaks, .ref r_marks])), (r_rows, .inl (g 0, 969, .inl d_rows))] sz)) 0 0 (va_A [(h0, .inr (9, [.ref r_names, .int f_used, .int f_count, .int f_wrongClass, .int f_wrongMethod, .int f_wrongAt, .ref r_rows, .ref r_above, .ref r_fields, .ref r_methods, .ref r_codes, .ref r_handlers, .ref r_extra, .ref r_orders, .ref r_classNamed, .int f_breaks, .ref r_marks])), (r_rows, .inl (g 0, 969, .inl d_rows))] sz) := by
  refine ofZ (by decide +kernel) (Nat.le_of_ble_eq_true rfl) ?_
  intro p e s m args below meth c A Q ls H locs G hsz hP hD hS hl hret
  subst hsz
  have hl : lv_has ls 2 [(0, .ref h0), (1, .int (nI c9))] := hl
  refine lv_aload_n G.1 G.2.1 d_Wd_isFace_0 rfl (lv_at hl 0 rfl) ?_
  refine kg (ci := 9) G iWd hP 0 rfl rfl 6 (by decide) q831 rfl rfl d_Wd_isFace_1 ?_
  refine lv_iload_n G.1 G.2.1 d_Wd_isFace_4 rfl (lv_at hl 1 rfl) ?_
  refine lv_bipush (v := nI 19) G.1 G.2.1 d_Wd_isFace_5 (by decide) ?_
  refine lv_imul G.1 G.2.1 d_Wd_isFace_7 ?_
  refine tpi (w := nI (c9 * 19)) (pk_mul _ _) ?_
  refine lv_iconst (v := nI 1) G.1 G.2.1 d_Wd_isFace_8 (by decide) ?_
  refine lv_iadd G.1 G.2.1 d_Wd_isFace_9 ?_
  refine tpi (w := nI (c9 * 19 + 1)) (nI_add _ _) ?_
  refine kiald G hP 1 0 rfl rfl (by omega) (by omega) d_Wd_isFace_10 ?_
  refine lv_iconst (v := nI 4) G.1 G.2.1 d_Wd_isFace_11 (by decide) ?_
  refine lv_iand G.1 G.2.1 d_Wd_isFace_12 ?_
  refine lv_if_eq (tgt := 20) G.1 G.2.1 d_Wd_isFace_13 (by decide) (fun c13 => ?_) (fun c13 => ?_)
  · skip
    refine W.eq (g2 := F0 m 20 ls []) rfl ?_
    refine lv_iconst (v := nI 0) G.1 G.2.1 d_Wd_isFace_20 (by decide) ?_
    refine hret (nI 0) () _ _ _ _ _ ls (by decide) (Or.inl ⟨rfl, c13⟩) (hP.sub [0, 1] rfl) (hD.sub [0, 1] (by decide) rfl) hS (Nat.le_of_ble_eq_true rfl) (Nat.le_of_ble_eq_true rfl) d_Wd_isFace_21
  · skip
    refine W.eq (g2 := F0 m 16 ls []) rfl ?_
    refine lv_iconst (v := nI 1) G.1 G.2.1 d_Wd_isFace_16 (by decide) ?_
    refine lv_goto (tgt := 21) G.1 G.2.1 d_Wd_isFace_17 (by decide) ?_
    refine hret (nI 1) () _ _ _ _ _ ls (by decide) (Or.inr ⟨rfl, c13⟩) (hP.sub [0, 1] rfl) (hD.sub [0, 1] (by decide) rfl) hS (Nat.le_of_ble_eq_true rfl) (Nat.le_of_ble_eq_true rfl) d_Wd_isFace_21
def y_Wd_field : MethodName := ⟨"ClassWorks$World", "field", "(III)I"⟩
abbrev b_Wd_field : ByteArray := prog_11_method_14_code
theorem q835 : Cond.fieldLink "ClassWorks$World" 41 "ClassWorks$World" "fields" "LClassWorks$Ints;" ∈ lw_ok := lw_okmem (List.mem_of_getElem? (i := 835) (by decide +kernel)) rfl
theorem d_Wd_field_0 : decode b_Wd_field 0 = .ok (.aload_n 0, 1) := by decide +kernel
theorem d_Wd_field_1 : decode b_Wd_field 1 = .ok (.getfield 41, 3) := by decide +kernel
theorem d_Wd_field_4 : decode b_Wd_field 4 = .ok (.getfield 98, 3) := by decide +kernel
theorem d_Wd_field_7 : decode b_Wd_field 7 = .ok (.aload_n 0, 1) := by decide +kernel
theorem d_Wd_field_8 : decode b_Wd_field 8 = .ok (.getfield 28, 3) := by decide +kernel
theorem d_Wd_field_11 : decode b_Wd_field 11 = .ok (.iload_n 1, 1) := by decide +kernel
theorem d_Wd_field_12 : decode b_Wd_field 12 = .ok (.bipush 19, 2) := by decide +kernel
theorem d_Wd_field_14 : decode b_Wd_field 14 = .ok (.imul, 1) := by decide +kernel
theorem d_Wd_field_15 : decode b_Wd_field 15 = .ok (.bipush 8, 2) := by decide +kernel
theorem d_Wd_field_17 : decode b_Wd_field 17 = .ok (.iadd, 1) := by decide +kernel
theorem d_Wd_field_18 : decode b_Wd_field 18 = .ok (.iaload, 1) := by decide +kernel
theorem d_Wd_field_19 : decode b_Wd_field 19 = .ok (.iload_n 2, 1) := by decide +kernel
theorem d_Wd_field_20 : decode b_Wd_field 20 = .ok (.bipush 7, 2) := by decide +kernel
theorem d_Wd_field_22 : decode b_Wd_field 22 = .ok (.imul, 1) := by decide +kernel
theorem d_Wd_field_23 : decode b_Wd_field 23 = .ok (.iadd, 1) := by decide +kernel
theorem d_Wd_field_24 : decode b_Wd_field 24 = .ok (.iload_n 3, 1) := by decide +kernel
theorem d_Wd_field_25 : decode b_Wd_field 25 = .ok (.iadd, 1) := by decide +kernel
theorem d_Wd_field_26 : decode b_Wd_field 26 = .ok (.iaload, 1) := by decide +kernel
theorem d_Wd_field_27 : decode b_Wd_field 27 = .ok (.ireturn, 1) := by decide +kernel
abbrev rm_Wd_field : Room := { frames := 0, cells := 0, slots := 0, locals := 0 }
set_option maxHeartbeats 4000000 in
set_option maxRecDepth 100000 in
/-- field -/
theorem c_Wd_field (l : Launch) (D : va_G) (g : Nat → ClassId) (h0 : Nat) (c9 : Nat) (k9 : Nat) (o9 : Nat) (r_names : Nat) (f_used : Int32) (f_count : Int32) (f_wrongClass : Int32) (f_wrongMethod : Int32) (f_wrongAt : Int32) (r_rows : Nat) (r_above : Nat) (r_fields : Nat) (r_methods : Nat) (r_codes : Nat) (r_handlers : Nat) (r_extra : Nat) (r_orders : Nat) (r_classNamed : Nat) (f_breaks : Int32) (r_marks : Nat) (d_rows : Nat → Int32) (i_fields : Nat) (s_fields : Nat) (c_fields : Nat) (d_fields : Nat → Int32) (a9 : Nat) (sz : Nat) (hc : c9 < 51) (ha : d_rows (c9 * 19 + 8) = nI a9) (hcap : c_fields < 2 ^ 24) (hin : a9 + k9 * 7 + o9 < c_fields) : Met l y_Wd_field (mw y_Wd_field b_Wd_field 4 (some .int)) (rm_Wd_field) (PC g D [] [.ref h0, .int (nI c9), .int (nI k9), .int (nI o9)] sz [(h0, .inr (9, [.ref r_names, .int f_used, .int f_count, .int f_wrongClass, .int f_wrongMethod, .int f_wrongAt, .ref r_rows, .ref r_above, .ref r_fields, .ref r_methods, .ref r_codes, .ref r_handlers, .ref r_extra, .ref r_orders, .ref r_classNamed, .int f_breaks, .ref r_marks])), (r_rows, .inl (g 0, 969, .inl d_rows)), (r_fields, .inr (3, [.ref i_fields, .int (nI s_fields)])), (i_fields, .inl (g 0, c_fields, .inl d_fields))]) (va_Qi (fun (r : Int32) (u : Unit) => r = d_fields (a9 + k9 * 7 + o9)) (QW D (va_A [(h0, .inr (9, [.ref r_names, .int f_used, .int f_count, .int f_wrongClass, .int f_wrongMethod, .int f_wrongAt, .ref r_rows, .ref r_above, .ref r_fields, .ref r_methods, .ref r_codes, .ref r_handlers, .ref r_extra, .ref r_orders, .ref r_classNamed, .int f_breaks, .ref r_marks])), (r_rows, .inl (g 0, 969, .inl d_rows)), (r_fields, .inr (3, [.ref i_fields, .int (nI s_fields)])), (i_fields, .inl (g 0, c_fields, .inl d_fields))] sz) (fun u : Unit => [(h0, .inr (9, [.ref r_names, .int f_used, .int f_count, .int f_wrongClass, .int f_wrongMethod, .int f_wrongAt, .ref r_rows, .ref r_above, .ref r_fields, .ref r_methods, .ref r_codes, .ref r_handlers, .ref r_extra, .ref r_orders, .ref r_classNamed, .int f_breaks, .ref r_marks])), (r_rows, .inl (g 0, 969, .inl d_rows)), (r_fields, .inr (3, [.ref i_fields, .int (nI s_fields)])), (i_fields, .inl (g 0, c_fields, .inl d_fields))])) (va_A [(h0, .inr (9, [.ref r_names, .int f_used, .int f_count, .int f_wrongClass, .int f_wrongMethod, .int f_wrongAt, .ref r_rows, .ref r_above, .ref r_fields, .ref r_methods, .ref r_codes, .ref r_handlers, .ref r_extra, .ref r_orders, .ref r_classNamed, .int f_breaks, .ref r_marks])), (r_rows, .inl (g 0, 969, .inl d_rows)), (r_fields, .inr (3, [.ref i_fields, .int (nI s_fields)])), (i_fields, .inl (g 0, c_fields, .inl d_fields))] sz)) 0 0 (va_A [(h0, .inr (9, [.ref r_names, .int f_used, .int f_count, .int f_wrongClass, .int f_wrongMethod, .int f_wrongAt, .ref r_rows, .ref r_above, .ref r_fields, .ref r_methods, .ref r_codes, .ref r_handlers, .ref r_extra, .ref r_orders, .ref r_classNamed, .int f_breaks, .ref r_marks])), (r_rows, .inl (g 0, 969, .inl d_rows)), (r_fields, .inr (3, [.ref i_fields, .int (nI s_fields)])), (i_fields, .inl (g 0, c_fields, .inl d_fields))] sz) := by
  refine ofI (by decide +kernel) (Nat.le_of_ble_eq_true rfl) ?_
  intro p e s m args below meth c A Q ls H locs G hsz hP hD hS hl hret
  subst hsz
  have hl : lv_has ls 4 [(0, .ref h0), (1, .int (nI c9)), (2, .int (nI k9)), (3, .int (nI o9))] := hl
  refine lv_aload_n G.1 G.2.1 d_Wd_field_0 rfl (lv_at hl 0 rfl) ?_
  refine kg (ci := 9) G iWd hP 0 rfl rfl 8 (by decide) q835 rfl rfl d_Wd_field_1 ?_
  refine kg (ci := 3) G iIn hP 2 rfl rfl 0 (by decide) q384 rfl rfl d_Wd_field_4 ?_
  refine lv_aload_n G.1 G.2.1 d_Wd_field_7 rfl (lv_at hl 0 rfl) ?_
  refine kg (ci := 9) G iWd hP 0 rfl rfl 6 (by decide) q831 rfl rfl d_Wd_field_8 ?_
  refine lv_iload_n G.1 G.2.1 d_Wd_field_11 rfl (lv_at hl 1 rfl) ?_
  refine lv_bipush (v := nI 19) G.1 G.2.1 d_Wd_field_12 (by decide) ?_
  refine lv_imul G.1 G.2.1 d_Wd_field_14 ?_
  refine tpi (w := nI (c9 * 19)) (pk_mul _ _) ?_
  refine lv_bipush (v := nI 8) G.1 G.2.1 d_Wd_field_15 (by decide) ?_
  refine lv_iadd G.1 G.2.1 d_Wd_field_17 ?_
  refine tpi (w := nI (c9 * 19 + 8)) (nI_add _ _) ?_
  refine kiald G hP 1 0 rfl rfl (by omega) (by omega) d_Wd_field_18 ?_
  refine tpi (w := nI a9) ha ?_
  refine W.eq (g2 := F0 m 19 ls [.int (nI a9), .ref i_fields]) rfl ?_
  refine lv_iload_n G.1 G.2.1 d_Wd_field_19 rfl (lv_at hl 2 rfl) ?_
  refine lv_bipush (v := nI 7) G.1 G.2.1 d_Wd_field_20 (by decide) ?_
  refine lv_imul G.1 G.2.1 d_Wd_field_22 ?_
  refine tpi (w := nI (k9 * 7)) (pk_mul _ _) ?_
  refine lv_iadd G.1 G.2.1 d_Wd_field_23 ?_
  refine tpi (w := nI (a9 + (k9 * 7))) (nI_add _ _) ?_
  refine lv_iload_n G.1 G.2.1 d_Wd_field_24 rfl (lv_at hl 3 rfl) ?_
  refine lv_iadd G.1 G.2.1 d_Wd_field_25 ?_
  refine tpi (w := nI (a9 + (k9 * 7) + o9)) (nI_add _ _) ?_
  refine kiald G hP 3 0 rfl rfl (by omega) (by omega) d_Wd_field_26 ?_
  refine hret (d_fields (a9 + (k9 * 7) + o9)) () _ _ _ _ _ ls rfl (hP.sub [0, 1, 2, 3] rfl) (hD.sub [0, 1, 2, 3] (by decide) rfl) hS (Nat.le_of_ble_eq_true rfl) (Nat.le_of_ble_eq_true rfl) d_Wd_field_27
def y_Wd_method : MethodName := ⟨"ClassWorks$World", "method", "(III)I"⟩
abbrev b_Wd_method : ByteArray := prog_11_method_15_code
theorem q839 : Cond.fieldLink "ClassWorks$World" 45 "ClassWorks$World" "methods" "LClassWorks$Ints;" ∈ lw_ok := lw_okmem (List.mem_of_getElem? (i := 839) (by decide +kernel)) rfl
theorem d_Wd_method_0 : decode b_Wd_method 0 = .ok (.aload_n 0, 1) := by decide +kernel
theorem d_Wd_method_1 : decode b_Wd_method 1 = .ok (.getfield 45, 3) := by decide +kernel
theorem d_Wd_method_4 : decode b_Wd_method 4 = .ok (.getfield 98, 3) := by decide +kernel
theorem d_Wd_method_7 : decode b_Wd_method 7 = .ok (.aload_n 0, 1) := by decide +kernel
theorem d_Wd_method_8 : decode b_Wd_method 8 = .ok (.getfield 28, 3) := by decide +kernel
theorem d_Wd_method_11 : decode b_Wd_method 11 = .ok (.iload_n 1, 1) := by decide +kernel
theorem d_Wd_method_12 : decode b_Wd_method 12 = .ok (.bipush 19, 2) := by decide +kernel
theorem d_Wd_method_14 : decode b_Wd_method 14 = .ok (.imul, 1) := by decide +kernel
theorem d_Wd_method_15 : decode b_Wd_method 15 = .ok (.bipush 10, 2) := by decide +kernel
theorem d_Wd_method_17 : decode b_Wd_method 17 = .ok (.iadd, 1) := by decide +kernel
theorem d_Wd_method_18 : decode b_Wd_method 18 = .ok (.iaload, 1) := by decide +kernel
theorem d_Wd_method_19 : decode b_Wd_method 19 = .ok (.iload_n 2, 1) := by decide +kernel
theorem d_Wd_method_20 : decode b_Wd_method 20 = .ok (.bipush 8, 2) := by decide +kernel
theorem d_Wd_method_22 : decode b_Wd_method 22 = .ok (.imul, 1) := by decide +kernel
theorem d_Wd_method_23 : decode b_Wd_method 23 = .ok (.iadd, 1) := by decide +kernel
theorem d_Wd_method_24 : decode b_Wd_method 24 = .ok (.iload_n 3, 1) := by decide +kernel
theorem d_Wd_method_25 : decode b_Wd_method 25 = .ok (.iadd, 1) := by decide +kernel
theorem d_Wd_method_26 : decode b_Wd_method 26 = .ok (.iaload, 1) := by decide +kernel
theorem d_Wd_method_27 : decode b_Wd_method 27 = .ok (.ireturn, 1) := by decide +kernel
abbrev rm_Wd_method : Room := { frames := 0, cells := 0, slots := 0, locals := 0 }
set_option maxHeartbeats 4000000 in
set_option maxRecDepth 100000 in
/-- method -/
theorem c_Wd_method (l : Launch) (D : va_G) (g : Nat → ClassId) (h0 : Nat) (c9 : Nat) (k9 : Nat) (o9 : Nat) (r_names : Nat) (f_used : Int32) (f_count : Int32) (f_wrongClass : Int32) (f_wrongMethod : Int32) (f_wrongAt : Int32) (r_rows : Nat) (r_above : Nat) (r_fields : Nat) (r_methods : Nat) (r_codes : Nat) (r_handlers : Nat) (r_extra : Nat) (r_orders : Nat) (r_classNamed : Nat) (f_breaks : Int32) (r_marks : Nat) (d_rows : Nat → Int32) (i_methods : Nat) (s_methods : Nat) (c_methods : Nat) (d_methods : Nat → Int32) (a9 : Nat) (sz : Nat) (hc : c9 < 51) (ha : d_rows (c9 * 19 + 10) = nI a9) (hcap : c_methods < 2 ^ 24) (hin : a9 + k9 * 8 + o9 < c_methods) : Met l y_Wd_method (mw y_Wd_method b_Wd_method 4 (some .int)) (rm_Wd_method) (PC g D [] [.ref h0, .int (nI c9), .int (nI k9), .int (nI o9)] sz [(h0, .inr (9, [.ref r_names, .int f_used, .int f_count, .int f_wrongClass, .int f_wrongMethod, .int f_wrongAt, .ref r_rows, .ref r_above, .ref r_fields, .ref r_methods, .ref r_codes, .ref r_handlers, .ref r_extra, .ref r_orders, .ref r_classNamed, .int f_breaks, .ref r_marks])), (r_rows, .inl (g 0, 969, .inl d_rows)), (r_methods, .inr (3, [.ref i_methods, .int (nI s_methods)])), (i_methods, .inl (g 0, c_methods, .inl d_methods))]) (va_Qi (fun (r : Int32) (u : Unit) => r = d_methods (a9 + k9 * 8 + o9)) (QW D (va_A [(h0, .inr (9, [.ref r_names, .int f_used, .int f_count, .int f_wrongClass, .int f_wrongMethod, .int f_wrongAt, .ref r_rows, .ref r_above, .ref r_fields, .ref r_methods, .ref r_codes, .ref r_handlers, .ref r_extra, .ref r_orders, .ref r_classNamed, .int f_breaks, .ref r_marks])), (r_rows, .inl (g 0, 969, .inl d_rows)), (r_methods, .inr (3, [.ref i_methods, .int (nI s_methods)])), (i_methods, .inl (g 0, c_methods, .inl d_methods))] sz) (fun u : Unit => [(h0, .inr (9, [.ref r_names, .int f_used, .int f_count, .int f_wrongClass, .int f_wrongMethod, .int f_wrongAt, .ref r_rows, .ref r_above, .ref r_fields, .ref r_methods, .ref r_codes, .ref r_handlers, .ref r_extra, .ref r_orders, .ref r_classNamed, .int f_breaks, .ref r_marks])), (r_rows, .inl (g 0, 969, .inl d_rows)), (r_methods, .inr (3, [.ref i_methods, .int (nI s_methods)])), (i_methods, .inl (g 0, c_methods, .inl d_methods))])) (va_A [(h0, .inr (9, [.ref r_names, .int f_used, .int f_count, .int f_wrongClass, .int f_wrongMethod, .int f_wrongAt, .ref r_rows, .ref r_above, .ref r_fields, .ref r_methods, .ref r_codes, .ref r_handlers, .ref r_extra, .ref r_orders, .ref r_classNamed, .int f_breaks, .ref r_marks])), (r_rows, .inl (g 0, 969, .inl d_rows)), (r_methods, .inr (3, [.ref i_methods, .int (nI s_methods)])), (i_methods, .inl (g 0, c_methods, .inl d_methods))] sz)) 0 0 (va_A [(h0, .inr (9, [.ref r_names, .int f_used, .int f_count, .int f_wrongClass, .int f_wrongMethod, .int f_wrongAt, .ref r_rows, .ref r_above, .ref r_fields, .ref r_methods, .ref r_codes, .ref r_handlers, .ref r_extra, .ref r_orders, .ref r_classNamed, .int f_breaks, .ref r_marks])), (r_rows, .inl (g 0, 969, .inl d_rows)), (r_methods, .inr (3, [.ref i_methods, .int (nI s_methods)])), (i_methods, .inl (g 0, c_methods, .inl d_methods))] sz) := by
  refine ofI (by decide +kernel) (Nat.le_of_ble_eq_true rfl) ?_
  intro p e s m args below meth c A Q ls H locs G hsz hP hD hS hl hret
  subst hsz
  have hl : lv_has ls 4 [(0, .ref h0), (1, .int (nI c9)), (2, .int (nI k9)), (3, .int (nI o9))] := hl
  refine lv_aload_n G.1 G.2.1 d_Wd_method_0 rfl (lv_at hl 0 rfl) ?_
  refine kg (ci := 9) G iWd hP 0 rfl rfl 9 (by decide) q839 rfl rfl d_Wd_method_1 ?_
  refine kg (ci := 3) G iIn hP 2 rfl rfl 0 (by decide) q384 rfl rfl d_Wd_method_4 ?_
  refine lv_aload_n G.1 G.2.1 d_Wd_method_7 rfl (lv_at hl 0 rfl) ?_
  refine kg (ci := 9) G iWd hP 0 rfl rfl 6 (by decide) q831 rfl rfl d_Wd_method_8 ?_
  refine lv_iload_n G.1 G.2.1 d_Wd_method_11 rfl (lv_at hl 1 rfl) ?_
  refine lv_bipush (v := nI 19) G.1 G.2.1 d_Wd_method_12 (by decide) ?_
  refine lv_imul G.1 G.2.1 d_Wd_method_14 ?_
  refine tpi (w := nI (c9 * 19)) (pk_mul _ _) ?_
  refine lv_bipush (v := nI 10) G.1 G.2.1 d_Wd_method_15 (by decide) ?_
  refine lv_iadd G.1 G.2.1 d_Wd_method_17 ?_
  refine tpi (w := nI (c9 * 19 + 10)) (nI_add _ _) ?_
  refine kiald G hP 1 0 rfl rfl (by omega) (by omega) d_Wd_method_18 ?_
  refine tpi (w := nI a9) ha ?_
  refine W.eq (g2 := F0 m 19 ls [.int (nI a9), .ref i_methods]) rfl ?_
  refine lv_iload_n G.1 G.2.1 d_Wd_method_19 rfl (lv_at hl 2 rfl) ?_
  refine lv_bipush (v := nI 8) G.1 G.2.1 d_Wd_method_20 (by decide) ?_
  refine lv_imul G.1 G.2.1 d_Wd_method_22 ?_
  refine tpi (w := nI (k9 * 8)) (pk_mul _ _) ?_
  refine lv_iadd G.1 G.2.1 d_Wd_method_23 ?_
  refine tpi (w := nI (a9 + (k9 * 8))) (nI_add _ _) ?_
  refine lv_iload_n G.1 G.2.1 d_Wd_method_24 rfl (lv_at hl 3 rfl) ?_
  refine lv_iadd G.1 G.2.1 d_Wd_method_25 ?_
  refine tpi (w := nI (a9 + (k9 * 8) + o9)) (nI_add _ _) ?_
  refine kiald G hP 3 0 rfl rfl (by omega) (by omega) d_Wd_method_26 ?_
  refine hret (d_methods (a9 + (k9 * 8) + o9)) () _ _ _ _ _ ls rfl (hP.sub [0, 1, 2, 3] rfl) (hD.sub [0, 1, 2, 3] (by decide) rfl) hS (Nat.le_of_ble_eq_true rfl) (Nat.le_of_ble_eq_true rfl) d_Wd_method_27
def y_Wd_hasBody : MethodName := ⟨"ClassWorks$World", "hasBody", "(II)Z"⟩
abbrev b_Wd_hasBody : ByteArray := prog_11_method_16_code
theorem d_Wd_hasBody_0 : decode b_Wd_hasBody 0 = .ok (.aload_n 0, 1) := by decide +kernel
theorem d_Wd_hasBody_1 : decode b_Wd_hasBody 1 = .ok (.getfield 45, 3) := by decide +kernel
theorem d_Wd_hasBody_4 : decode b_Wd_hasBody 4 = .ok (.getfield 98, 3) := by decide +kernel
theorem d_Wd_hasBody_7 : decode b_Wd_hasBody 7 = .ok (.aload_n 0, 1) := by decide +kernel
theorem d_Wd_hasBody_8 : decode b_Wd_hasBody 8 = .ok (.getfield 28, 3) := by decide +kernel
theorem d_Wd_hasBody_11 : decode b_Wd_hasBody 11 = .ok (.iload_n 1, 1) := by decide +kernel
theorem d_Wd_hasBody_12 : decode b_Wd_hasBody 12 = .ok (.bipush 19, 2) := by decide +kernel
theorem d_Wd_hasBody_14 : decode b_Wd_hasBody 14 = .ok (.imul, 1) := by decide +kernel
theorem d_Wd_hasBody_15 : decode b_Wd_hasBody 15 = .ok (.bipush 10, 2) := by decide +kernel
theorem d_Wd_hasBody_17 : decode b_Wd_hasBody 17 = .ok (.iadd, 1) := by decide +kernel
theorem d_Wd_hasBody_18 : decode b_Wd_hasBody 18 = .ok (.iaload, 1) := by decide +kernel
theorem d_Wd_hasBody_19 : decode b_Wd_hasBody 19 = .ok (.iload_n 2, 1) := by decide +kernel
theorem d_Wd_hasBody_20 : decode b_Wd_hasBody 20 = .ok (.bipush 8, 2) := by decide +kernel
theorem d_Wd_hasBody_22 : decode b_Wd_hasBody 22 = .ok (.imul, 1) := by decide +kernel
theorem d_Wd_hasBody_23 : decode b_Wd_hasBody 23 = .ok (.iadd, 1) := by decide +kernel
theorem d_Wd_hasBody_24 : decode b_Wd_hasBody 24 = .ok (.iconst 1, 1) := by decide +kernel
theorem d_Wd_hasBody_25 : decode b_Wd_hasBody 25 = .ok (.iadd, 1) := by decide +kernel
theorem d_Wd_hasBody_26 : decode b_Wd_hasBody 26 = .ok (.iaload, 1) := by decide +kernel
theorem d_Wd_hasBody_27 : decode b_Wd_hasBody 27 = .ok (.istore_n 3, 1) := by decide +kernel
theorem d_Wd_hasBody_28 : decode b_Wd_hasBody 28 = .ok (.iload_n 1, 1) := by decide +kernel
theorem d_Wd_hasBody_29 : decode b_Wd_hasBody 29 = .ok (.bipush 21, 2) := by decide +kernel
theorem d_Wd_hasBody_31 : decode b_Wd_hasBody 31 = .ok (.if_icmp .lt 14, 3) := by decide +kernel
theorem d_Wd_hasBody_34 : decode b_Wd_hasBody 34 = .ok (.iload_n 3, 1) := by decide +kernel
theorem d_Wd_hasBody_35 : decode b_Wd_hasBody 35 = .ok (.bipush 8, 2) := by decide +kernel
theorem d_Wd_hasBody_37 : decode b_Wd_hasBody 37 = .ok (.iand, 1) := by decide +kernel
theorem d_Wd_hasBody_38 : decode b_Wd_hasBody 38 = .ok (.ifCond .ne 7, 3) := by decide +kernel
theorem d_Wd_hasBody_41 : decode b_Wd_hasBody 41 = .ok (.iconst 1, 1) := by decide +kernel
theorem d_Wd_hasBody_42 : decode b_Wd_hasBody 42 = .ok (.goto 4, 3) := by decide +kernel
theorem d_Wd_hasBody_45 : decode b_Wd_hasBody 45 = .ok (.iconst 0, 1) := by decide +kernel
theorem d_Wd_hasBody_46 : decode b_Wd_hasBody 46 = .ok (.ireturn, 1) := by decide +kernel
abbrev rm_Wd_hasBody : Room := { frames := 0, cells := 0, slots := 0, locals := 0 }
set_option maxHeartbeats 4000000 in
set_option maxRecDepth 100000 in
/-- hasBody -/
theorem c_Wd_hasBody (l : Launch) (D : va_G) (g : Nat → ClassId) (h0 : Nat) (c9 : Nat) (k9 : Nat) (r_names : Nat) (f_used : Int32) (f_count : Int32) (f_wrongClass : Int32) (f_wrongMethod : Int32) (f_wrongAt : Int32) (r_rows : Nat) (r_above : Nat) (r_fields : Nat) (r_methods : Nat) (r_codes : Nat) (r_handlers : Nat) (r_extra : Nat) (r_orders : Nat) (r_classNamed : Nat) (f_breaks : Int32) (r_marks : Nat) (d_rows : Nat → Int32) (i_methods : Nat) (s_methods : Nat) (c_methods : Nat) (d_methods : Nat → Int32) (a9 : Nat) (sz : Nat) (hc : c9 < 51) (ha : d_rows (c9 * 19 + 10) = nI a9) (hcap : c_methods < 2 ^ 24) (hin : a9 + k9 * 8 + 1 < c_methods) : Met l y_Wd_hasBody (mw y_Wd_hasBody b_Wd_hasBody 4 (some (.boolean))) (rm_Wd_hasBody) (PC g D [] [.ref h0, .int (nI c9), .int (nI k9)] sz [(h0, .inr (9, [.ref r_names, .int f_used, .int f_count, .int f_wrongClass, .int f_wrongMethod, .int f_wrongAt, .ref r_rows, .ref r_above, .ref r_fields, .ref r_methods, .ref r_codes, .ref r_handlers, .ref r_extra, .ref r_orders, .ref r_classNamed, .int f_breaks, .ref r_marks])), (r_rows, .inl (g 0, 969, .inl d_rows)), (r_methods, .inr (3, [.ref i_methods, .int (nI s_methods)])), (i_methods, .inl (g 0, c_methods, .inl d_methods))]) (va_Qi (fun (r : Int32) (u : Unit) => r = 0 ∨ (r = 1 ∧ 21 ≤ c9 ∧ d_methods (a9 + k9 * 8 + 1) &&& nI 8 = 0)) (QW D (va_A [(h0, .inr (9, [.ref r_names, .int f_used, .int f_count, .int f_wrongClass, .int f_wrongMethod, .int f_wrongAt, .ref r_rows, .ref r_above, .ref r_fields, .ref r_methods, .ref r_codes, .ref r_handlers, .ref r_extra, .ref r_orders, .ref r_classNamed, .int f_breaks, .ref r_marks])), (r_rows, .inl (g 0, 969, .inl d_rows)), (r_methods, .inr (3, [.ref i_methods, .int (nI s_methods)])), (i_methods, .inl (g 0, c_methods, .inl d_methods))] sz) (fun u : Unit => [(h0, .inr (9, [.ref r_names, .int f_used, .int f_count, .int f_wrongClass, .int f_wrongMethod, .int f_wrongAt, .ref r_rows, .ref r_above, .ref r_fields, .ref r_methods, .ref r_codes, .ref r_handlers, .ref r_extra, .ref r_orders, .ref r_classNamed, .int f_breaks, .ref r_marks])), (r_rows, .inl (g 0, 969, .inl d_rows)), (r_methods, .inr (3, [.ref i_methods, .int (nI s_methods)])), (i_methods, .inl (g 0, c_methods, .inl d_methods))])) (va_A [(h0, .inr (9, [.ref r_names, .int f_used, .int f_count, .int f_wrongClass, .int f_wrongMethod, .int f_wrongAt, .ref r_rows, .ref r_above, .ref r_fields, .ref r_methods, .ref r_codes, .ref r_handlers, .ref r_extra, .ref r_orders, .ref r_classNamed, .int f_breaks, .ref r_marks])), (r_rows, .inl (g 0, 969, .inl d_rows)), (r_methods, .inr (3, [.ref i_methods, .int (nI s_methods)])), (i_methods, .inl (g 0, c_methods, .inl d_methods))] sz)) 0 0 (va_A [(h0, .inr (9, [.ref r_names, .int f_used, .int f_count, .int f_wrongClass, .int f_wrongMethod, .int f_wrongAt, .ref r_rows, .ref r_above, .ref r_fields, .ref r_methods, .ref r_codes, .ref r_handlers, .ref r_extra, .ref r_orders, .ref r_classNamed, .int f_breaks, .ref r_marks])), (r_rows, .inl (g 0, 969, .inl d_rows)), (r_methods, .inr (3, [.ref i_methods, .int (nI s_methods)])), (i_methods, .inl (g 0, c_methods, .inl d_methods))] sz) := by
  refine ofZ (by decide +kernel) (Nat.le_of_ble_eq_true rfl) ?_
  intro p e s m args below meth c A Q ls H locs G hsz hP hD hS hl hret
  subst hsz
  have hl : lv_has ls 4 [(0, .ref h0), (1, .int (nI c9)), (2, .int (nI k9))] := hl
  refine lv_aload_n G.1 G.2.1 d_Wd_hasBody_0 rfl (lv_at hl 0 rfl) ?_
  refine kg (ci := 9) G iWd hP 0 rfl rfl 9 (by decide) q839 rfl rfl d_Wd_hasBody_1 ?_
  refine kg (ci := 3) G iIn hP 2 rfl rfl 0 (by decide) q384 rfl rfl d_Wd_hasBody_4 ?_
  refine lv_aload_n G.1 G.2.1 d_Wd_hasBody_7 rfl (lv_at hl 0 rfl) ?_
  refine kg (ci := 9) G iWd hP 0 rfl rfl 6 (by decide) q831 rfl rfl d_Wd_hasBody_8 ?_
  refine lv_iload_n G.1 G.2.1 d_Wd_hasBody_11 rfl (lv_at hl 1 rfl) ?_
  refine lv_bipush (v := nI 19) G.1 G.2.1 d_Wd_hasBody_12 (by decide) ?_
  refine lv_imul G.1 G.2.1 d_Wd_hasBody_14 ?_
  refine tpi (w := nI (c9 * 19)) (pk_mul _ _) ?_
  refine lv_bipush (v := nI 10) G.1 G.2.1 d_Wd_hasBody_15 (by decide) ?_
  refine lv_iadd G.1 G.2.1 d_Wd_hasBody_17 ?_
  refine tpi (w := nI (c9 * 19 + 10)) (nI_add _ _) ?_
  refine kiald G hP 1 0 rfl rfl (by omega) (by omega) d_Wd_hasBody_18 ?_
  refine tpi (w := nI a9) ha ?_
  refine W.eq (g2 := F0 m 19 ls [.int (nI a9), .ref i_methods]) rfl ?_
  refine lv_iload_n G.1 G.2.1 d_Wd_hasBody_19 rfl (lv_at hl 2 rfl) ?_
  refine lv_bipush (v := nI 8) G.1 G.2.1 d_Wd_hasBody_20 (by decide) ?_
  refine lv_imul G.1 G.2.1 d_Wd_hasBody_22 ?_
  refine tpi (w := nI (k9 * 8)) (pk_mul _ _) ?_
  refine lv_iadd G.1 G.2.1 d_Wd_hasBody_23 ?_
  refine tpi (w := nI (a9 + (k9 * 8))) (nI_add _ _) ?_
  refine lv_iconst (v := nI 1) G.1 G.2.1 d_Wd_hasBody_24 (by decide) ?_
  refine lv_iadd G.1 G.2.1 d_Wd_hasBody_25 ?_
  refine tpi (w := nI (a9 + (k9 * 8) + 1)) (nI_add _ _) ?_
  refine kiald G hP 3 0 rfl rfl (by omega) (by omega) d_Wd_hasBody_26 ?_
  refine lv_istore_n (lv' := [(3, .int (d_methods (a9 + (k9 * 8) + 1))), (0, .ref h0), (1, .int (nI c9)), (2, .int (nI k9))]) G.1 G.2.1 d_Wd_hasBody_27 rfl hl (by decide) rfl (fun ls hl => ?_)
  refine lv_iload_n G.1 G.2.1 d_Wd_hasBody_28 rfl (lv_at hl 2 rfl) ?_
  refine lv_bipush (v := nI 21) G.1 G.2.1 d_Wd_hasBody_29 (by decide) ?_
  refine lv_icmp_lt (tgt := 45) G.1 G.2.1 d_Wd_hasBody_31 (by decide) (fun c31 => ?_) (fun c31 => ?_)
  · skip
    have c31 : c9 < 21 := (nI_ltI (by omega) (by omega)).mp c31
    refine lv_iconst (v := nI 0) G.1 G.2.1 d_Wd_hasBody_45 (by decide) ?_
    refine W.eq (g2 := F0 m 46 ls [.int (nI 0)]) rfl ?_
    refine hret (nI 0) () _ _ _ _ _ ls (by decide) (Or.inl rfl) (hP.sub [0, 1, 2, 3] rfl) (hD.sub [0, 1, 2, 3] (by decide) rfl) hS (Nat.le_of_ble_eq_true rfl) (Nat.le_of_ble_eq_true rfl) d_Wd_hasBody_46
  · skip
    have c31 : ¬ (c9 < 21) := fun h => c31 ((nI_ltI (by omega) (by omega)).mpr h)
    refine lv_iload_n G.1 G.2.1 d_Wd_hasBody_34 rfl (lv_at hl 0 rfl) ?_
    refine W.eq (g2 := F0 m 35 ls [.int (d_methods (a9 + (k9 * 8) + 1))]) rfl ?_
    refine lv_bipush (v := nI 8) G.1 G.2.1 d_Wd_hasBody_35 (by decide) ?_
    refine lv_iand G.1 G.2.1 d_Wd_hasBody_37 ?_
    refine lv_if_ne (tgt := 45) G.1 G.2.1 d_Wd_hasBody_38 (by decide) (fun c38 => ?_) (fun c38 => ?_)
    · skip
      refine lv_iconst (v := nI 0) G.1 G.2.1 d_Wd_hasBody_45 (by decide) ?_
      refine hret (nI 0) () _ _ _ _ _ ls (by decide) (Or.inl rfl) (hP.sub [0, 1, 2, 3] rfl) (hD.sub [0, 1, 2, 3] (by decide) rfl) hS (Nat.le_of_ble_eq_true rfl) (Nat.le_of_ble_eq_true rfl) d_Wd_hasBody_46
    · skip
      refine lv_iconst (v := nI 1) G.1 G.2.1 d_Wd_hasBody_41 (by decide) ?_
      refine lv_goto (tgt := 46) G.1 G.2.1 d_Wd_hasBody_42 (by decide) ?_
      refine hret (nI 1) () _ _ _ _ _ ls (by decide) (Or.inr ⟨rfl, by omega, c38⟩) (hP.sub [0, 1, 2, 3] rfl) (hD.sub [0, 1, 2, 3] (by decide) rfl) hS (Nat.le_of_ble_eq_true rfl) (Nat.le_of_ble_eq_true rfl) d_Wd_hasBody_46
def y_Wd_code : MethodName := ⟨"ClassWorks$World", "code", "(III)I"⟩
abbrev b_Wd_code : ByteArray := prog_11_method_17_code
theorem d_Wd_code_0 : decode b_Wd_code 0 = .ok (.aload_n 0, 1) := by decide +kernel
theorem d_Wd_code_1 : decode b_Wd_code 1 = .ok (.getfield 28, 3) := by decide +kernel
theorem d_Wd_code_4 : decode b_Wd_code 4 = .ok (.iload_n 1, 1) := by decide +kernel
theorem d_Wd_code_5 : decode b_Wd_code 5 = .ok (.bipush 19, 2) := by decide +kernel
theorem d_Wd_code_7 : decode b_Wd_code 7 = .ok (.imul, 1) := by decide +kernel
theorem d_Wd_code_8 : decode b_Wd_code 8 = .ok (.bipush 10, 2) := by decide +kernel
theorem d_Wd_code_10 : decode b_Wd_code 10 = .ok (.iadd, 1) := by decide +kernel
theorem d_Wd_code_11 : decode b_Wd_code 11 = .ok (.iaload, 1) := by decide +kernel
theorem d_Wd_code_12 : decode b_Wd_code 12 = .ok (.iload_n 2, 1) := by decide +kernel
theorem d_Wd_code_13 : decode b_Wd_code 13 = .ok (.bipush 8, 2) := by decide +kernel
theorem d_Wd_code_15 : decode b_Wd_code 15 = .ok (.imul, 1) := by decide +kernel
theorem d_Wd_code_16 : decode b_Wd_code 16 = .ok (.iadd, 1) := by decide +kernel
theorem d_Wd_code_17 : decode b_Wd_code 17 = .ok (.istore 4, 2) := by decide +kernel
theorem d_Wd_code_19 : decode b_Wd_code 19 = .ok (.aload_n 0, 1) := by decide +kernel
theorem d_Wd_code_20 : decode b_Wd_code 20 = .ok (.getfield 45, 3) := by decide +kernel
theorem d_Wd_code_23 : decode b_Wd_code 23 = .ok (.getfield 98, 3) := by decide +kernel
theorem d_Wd_code_26 : decode b_Wd_code 26 = .ok (.iload 4, 2) := by decide +kernel
theorem d_Wd_code_28 : decode b_Wd_code 28 = .ok (.iconst 4, 1) := by decide +kernel
theorem d_Wd_code_29 : decode b_Wd_code 29 = .ok (.iadd, 1) := by decide +kernel
theorem d_Wd_code_30 : decode b_Wd_code 30 = .ok (.iaload, 1) := by decide +kernel
theorem d_Wd_code_31 : decode b_Wd_code 31 = .ok (.iload_n 3, 1) := by decide +kernel
theorem d_Wd_code_32 : decode b_Wd_code 32 = .ok (.iconst 5, 1) := by decide +kernel
theorem d_Wd_code_33 : decode b_Wd_code 33 = .ok (.imul, 1) := by decide +kernel
theorem d_Wd_code_34 : decode b_Wd_code 34 = .ok (.iadd, 1) := by decide +kernel
theorem d_Wd_code_35 : decode b_Wd_code 35 = .ok (.ireturn, 1) := by decide +kernel
abbrev rm_Wd_code : Room := { frames := 0, cells := 0, slots := 0, locals := 0 }
set_option maxHeartbeats 4000000 in
set_option maxRecDepth 100000 in
/-- code -/
theorem c_Wd_code (l : Launch) (D : va_G) (g : Nat → ClassId) (h0 : Nat) (c9 : Nat) (k9 : Nat) (t9 : Nat) (r_names : Nat) (f_used : Int32) (f_count : Int32) (f_wrongClass : Int32) (f_wrongMethod : Int32) (f_wrongAt : Int32) (r_rows : Nat) (r_above : Nat) (r_fields : Nat) (r_methods : Nat) (r_codes : Nat) (r_handlers : Nat) (r_extra : Nat) (r_orders : Nat) (r_classNamed : Nat) (f_breaks : Int32) (r_marks : Nat) (d_rows : Nat → Int32) (i_methods : Nat) (s_methods : Nat) (c_methods : Nat) (d_methods : Nat → Int32) (a9 b9 : Nat) (sz : Nat) (hc : c9 < 51) (ha : d_rows (c9 * 19 + 10) = nI a9) (hcap : c_methods < 2 ^ 24) (hin : a9 + k9 * 8 + 4 < c_methods) (hb : d_methods (a9 + k9 * 8 + 4) = nI b9) : Met l y_Wd_code (mw y_Wd_code b_Wd_code 5 (some .int)) (rm_Wd_code) (PC g D [] [.ref h0, .int (nI c9), .int (nI k9), .int (nI t9)] sz [(h0, .inr (9, [.ref r_names, .int f_used, .int f_count, .int f_wrongClass, .int f_wrongMethod, .int f_wrongAt, .ref r_rows, .ref r_above, .ref r_fields, .ref r_methods, .ref r_codes, .ref r_handlers, .ref r_extra, .ref r_orders, .ref r_classNamed, .int f_breaks, .ref r_marks])), (r_rows, .inl (g 0, 969, .inl d_rows)), (r_methods, .inr (3, [.ref i_methods, .int (nI s_methods)])), (i_methods, .inl (g 0, c_methods, .inl d_methods))]) (va_Qi (fun (r : Int32) (u : Unit) => r = nI (b9 + t9 * 5)) (QW D (va_A [(h0, .inr (9, [.ref r_names, .int f_used, .int f_count, .int f_wrongClass, .int f_wrongMethod, .int f_wrongAt, .ref r_rows, .ref r_above, .ref r_fields, .ref r_methods, .ref r_codes, .ref r_handlers, .ref r_extra, .ref r_orders, .ref r_classNamed, .int f_breaks, .ref r_marks])), (r_rows, .inl (g 0, 969, .inl d_rows)), (r_methods, .inr (3, [.ref i_methods, .int (nI s_methods)])), (i_methods, .inl (g 0, c_methods, .inl d_methods))] sz) (fun u : Unit => [(h0, .inr (9, [.ref r_names, .int f_used, .int f_count, .int f_wrongClass, .int f_wrongMethod, .int f_wrongAt, .ref r_rows, .ref r_above, .ref r_fields, .ref r_methods, .ref r_codes, .ref r_handlers, .ref r_extra, .ref r_orders, .ref r_classNamed, .int f_breaks, .ref r_marks])), (r_rows, .inl (g 0, 969, .inl d_rows)), (r_methods, .inr (3, [.ref i_methods, .int (nI s_methods)])), (i_methods, .inl (g 0, c_methods, .inl d_methods))])) (va_A [(h0, .inr (9, [.ref r_names, .int f_used, .int f_count, .int f_wrongClass, .int f_wrongMethod, .int f_wrongAt, .ref r_rows, .ref r_above, .ref r_fields, .ref r_methods, .ref r_codes, .ref r_handlers, .ref r_extra, .ref r_orders, .ref r_classNamed, .int f_breaks, .ref r_marks])), (r_rows, .inl (g 0, 969, .inl d_rows)), (r_methods, .inr (3, [.ref i_methods, .int (nI s_methods)])), (i_methods, .inl (g 0, c_methods, .inl d_methods))] sz)) 0 0 (va_A [(h0, .inr (9, [.ref r_names, .int f_used, .int f_count, .int f_wrongClass, .int f_wrongMethod, .int f_wrongAt, .ref r_rows, .ref r_above, .ref r_fields, .ref r_methods, .ref r_codes, .ref r_handlers, .ref r_extra, .ref r_orders, .ref r_classNamed, .int f_breaks, .ref r_marks])), (r_rows, .inl (g 0, 969, .inl d_rows)), (r_methods, .inr (3, [.ref i_methods, .int (nI s_methods)])), (i_methods, .inl (g 0, c_methods, .inl d_methods))] sz) := by
  refine ofI (by decide +kernel) (Nat.le_of_ble_eq_true rfl) ?_
  intro p e s m args below meth c A Q ls H locs G hsz hP hD hS hl hret
  subst hsz
  have hl : lv_has ls 5 [(0, .ref h0), (1, .int (nI c9)), (2, .int (nI k9)), (3, .int (nI t9))] := hl
  refine lv_aload_n G.1 G.2.1 d_Wd_code_0 rfl (lv_at hl 0 rfl) ?_
  refine kg (ci := 9) G iWd hP 0 rfl rfl 6 (by decide) q831 rfl rfl d_Wd_code_1 ?_
  refine lv_iload_n G.1 G.2.1 d_Wd_code_4 rfl (lv_at hl 1 rfl) ?_
  refine lv_bipush (v := nI 19) G.1 G.2.1 d_Wd_code_5 (by decide) ?_
  refine lv_imul G.1 G.2.1 d_Wd_code_7 ?_
  refine tpi (w := nI (c9 * 19)) (pk_mul _ _) ?_
  refine lv_bipush (v := nI 10) G.1 G.2.1 d_Wd_code_8 (by decide) ?_
  refine lv_iadd G.1 G.2.1 d_Wd_code_10 ?_
  refine tpi (w := nI (c9 * 19 + 10)) (nI_add _ _) ?_
  refine kiald G hP 1 0 rfl rfl (by omega) (by omega) d_Wd_code_11 ?_
  refine tpi (w := nI a9) ha ?_
  refine lv_iload_n G.1 G.2.1 d_Wd_code_12 rfl (lv_at hl 2 rfl) ?_
  refine lv_bipush (v := nI 8) G.1 G.2.1 d_Wd_code_13 (by decide) ?_
  refine lv_imul G.1 G.2.1 d_Wd_code_15 ?_
  refine tpi (w := nI (k9 * 8)) (pk_mul _ _) ?_
  refine W.eq (g2 := F0 m 16 ls [.int (nI (k9 * 8)), .int (nI a9)]) rfl ?_
  refine lv_iadd G.1 G.2.1 d_Wd_code_16 ?_
  refine tpi (w := nI (a9 + (k9 * 8))) (nI_add _ _) ?_
  refine lv_istore (lv' := [(4, .int (nI (a9 + (k9 * 8)))), (0, .ref h0), (1, .int (nI c9)), (2, .int (nI k9)), (3, .int (nI t9))]) G.1 G.2.1 d_Wd_code_17 hl (by decide) rfl (fun ls hl => ?_)
  refine lv_aload_n G.1 G.2.1 d_Wd_code_19 rfl (lv_at hl 1 rfl) ?_
  refine kg (ci := 9) G iWd hP 0 rfl rfl 9 (by decide) q839 rfl rfl d_Wd_code_20 ?_
  refine kg (ci := 3) G iIn hP 2 rfl rfl 0 (by decide) q384 rfl rfl d_Wd_code_23 ?_
  refine lv_iload G.1 G.2.1 d_Wd_code_26 (lv_at hl 0 rfl) ?_
  refine lv_iconst (v := nI 4) G.1 G.2.1 d_Wd_code_28 (by decide) ?_
  refine lv_iadd G.1 G.2.1 d_Wd_code_29 ?_
  refine tpi (w := nI (a9 + (k9 * 8) + 4)) (nI_add _ _) ?_
  refine kiald G hP 3 0 rfl rfl (by omega) (by omega) d_Wd_code_30 ?_
  refine tpi (w := nI b9) hb ?_
  refine lv_iload_n G.1 G.2.1 d_Wd_code_31 rfl (lv_at hl 4 rfl) ?_
  refine lv_iconst (v := nI 5) G.1 G.2.1 d_Wd_code_32 (by decide) ?_
  refine lv_imul G.1 G.2.1 d_Wd_code_33 ?_
  refine tpi (w := nI (t9 * 5)) (pk_mul _ _) ?_
  refine W.eq (g2 := F0 m 34 ls [.int (nI (t9 * 5)), .int (nI b9)]) rfl ?_
  refine lv_iadd G.1 G.2.1 d_Wd_code_34 ?_
  refine tpi (w := nI (b9 + (t9 * 5))) (nI_add _ _) ?_
  refine hret (nI (b9 + (t9 * 5))) () _ _ _ _ _ ls rfl (hP.sub [0, 1, 2, 3] rfl) (hD.sub [0, 1, 2, 3] (by decide) rfl) hS (Nat.le_of_ble_eq_true rfl) (Nat.le_of_ble_eq_true rfl) d_Wd_code_35
def y_Wd_methodWith : MethodName := ⟨"ClassWorks$World", "methodWith", "(II)I"⟩
abbrev b_Wd_methodWith : ByteArray := prog_11_method_18_code
theorem d_Wd_methodWith_0 : decode b_Wd_methodWith 0 = .ok (.aload_n 0, 1) := by decide +kernel
theorem d_Wd_methodWith_1 : decode b_Wd_methodWith 1 = .ok (.getfield 28, 3) := by decide +kernel
theorem d_Wd_methodWith_4 : decode b_Wd_methodWith 4 = .ok (.iload_n 1, 1) := by decide +kernel
theorem d_Wd_methodWith_5 : decode b_Wd_methodWith 5 = .ok (.bipush 19, 2) := by decide +kernel
theorem d_Wd_methodWith_7 : decode b_Wd_methodWith 7 = .ok (.imul, 1) := by decide +kernel
theorem d_Wd_methodWith_8 : decode b_Wd_methodWith 8 = .ok (.bipush 10, 2) := by decide +kernel
theorem d_Wd_methodWith_10 : decode b_Wd_methodWith 10 = .ok (.iadd, 1) := by decide +kernel
theorem d_Wd_methodWith_11 : decode b_Wd_methodWith 11 = .ok (.iaload, 1) := by decide +kernel
theorem d_Wd_methodWith_12 : decode b_Wd_methodWith 12 = .ok (.istore_n 3, 1) := by decide +kernel
theorem d_Wd_methodWith_13 : decode b_Wd_methodWith 13 = .ok (.aload_n 0, 1) := by decide +kernel
theorem d_Wd_methodWith_14 : decode b_Wd_methodWith 14 = .ok (.getfield 28, 3) := by decide +kernel
theorem d_Wd_methodWith_17 : decode b_Wd_methodWith 17 = .ok (.iload_n 1, 1) := by decide +kernel
theorem d_Wd_methodWith_18 : decode b_Wd_methodWith 18 = .ok (.bipush 19, 2) := by decide +kernel
theorem d_Wd_methodWith_20 : decode b_Wd_methodWith 20 = .ok (.imul, 1) := by decide +kernel
theorem d_Wd_methodWith_21 : decode b_Wd_methodWith 21 = .ok (.bipush 11, 2) := by decide +kernel
theorem d_Wd_methodWith_23 : decode b_Wd_methodWith 23 = .ok (.iadd, 1) := by decide +kernel
theorem d_Wd_methodWith_24 : decode b_Wd_methodWith 24 = .ok (.iaload, 1) := by decide +kernel
theorem d_Wd_methodWith_25 : decode b_Wd_methodWith 25 = .ok (.istore 4, 2) := by decide +kernel
theorem d_Wd_methodWith_27 : decode b_Wd_methodWith 27 = .ok (.iconst 0, 1) := by decide +kernel
theorem d_Wd_methodWith_28 : decode b_Wd_methodWith 28 = .ok (.istore 5, 2) := by decide +kernel
theorem d_Wd_methodWith_30 : decode b_Wd_methodWith 30 = .ok (.iload 5, 2) := by decide +kernel
theorem d_Wd_methodWith_32 : decode b_Wd_methodWith 32 = .ok (.iload 4, 2) := by decide +kernel
theorem d_Wd_methodWith_34 : decode b_Wd_methodWith 34 = .ok (.if_icmp .ge 31, 3) := by decide +kernel
theorem d_Wd_methodWith_37 : decode b_Wd_methodWith 37 = .ok (.aload_n 0, 1) := by decide +kernel
theorem d_Wd_methodWith_38 : decode b_Wd_methodWith 38 = .ok (.getfield 45, 3) := by decide +kernel
theorem d_Wd_methodWith_41 : decode b_Wd_methodWith 41 = .ok (.getfield 98, 3) := by decide +kernel
theorem d_Wd_methodWith_44 : decode b_Wd_methodWith 44 = .ok (.iload_n 3, 1) := by decide +kernel
theorem d_Wd_methodWith_45 : decode b_Wd_methodWith 45 = .ok (.iload 5, 2) := by decide +kernel
theorem d_Wd_methodWith_47 : decode b_Wd_methodWith 47 = .ok (.bipush 8, 2) := by decide +kernel
theorem d_Wd_methodWith_49 : decode b_Wd_methodWith 49 = .ok (.imul, 1) := by decide +kernel
theorem d_Wd_methodWith_50 : decode b_Wd_methodWith 50 = .ok (.iadd, 1) := by decide +kernel
theorem d_Wd_methodWith_51 : decode b_Wd_methodWith 51 = .ok (.iaload, 1) := by decide +kernel
theorem d_Wd_methodWith_52 : decode b_Wd_methodWith 52 = .ok (.iload_n 2, 1) := by decide +kernel
theorem d_Wd_methodWith_53 : decode b_Wd_methodWith 53 = .ok (.if_icmp .ne 6, 3) := by decide +kernel
theorem d_Wd_methodWith_56 : decode b_Wd_methodWith 56 = .ok (.iload 5, 2) := by decide +kernel
theorem d_Wd_methodWith_58 : decode b_Wd_methodWith 58 = .ok (.ireturn, 1) := by decide +kernel
theorem d_Wd_methodWith_59 : decode b_Wd_methodWith 59 = .ok (.iinc 5 1, 3) := by decide +kernel
theorem d_Wd_methodWith_62 : decode b_Wd_methodWith 62 = .ok (.goto (-32), 3) := by decide +kernel
theorem d_Wd_methodWith_65 : decode b_Wd_methodWith 65 = .ok (.iconst (-1), 1) := by decide +kernel
theorem d_Wd_methodWith_66 : decode b_Wd_methodWith 66 = .ok (.ireturn, 1) := by decide +kernel
abbrev rm_Wd_methodWith : Room := { frames := 0, cells := 0, slots := 0, locals := 0 }
set_option maxHeartbeats 4000000 in
set_option maxRecDepth 100000 in
/-- methodWith -/
theorem c_Wd_methodWith (l : Launch) (D : va_G) (g : Nat → ClassId) (h0 : Nat) (c9 : Nat) (sg : Int32) (r_names : Nat) (f_used : Int32) (f_count : Int32) (f_wrongClass : Int32) (f_wrongMethod : Int32) (f_wrongAt : Int32) (r_rows : Nat) (r_above : Nat) (r_fields : Nat) (r_methods : Nat) (r_codes : Nat) (r_handlers : Nat) (r_extra : Nat) (r_orders : Nat) (r_classNamed : Nat) (f_breaks : Int32) (r_marks : Nat) (d_rows : Nat → Int32) (i_methods : Nat) (s_methods : Nat) (c_methods : Nat) (d_methods : Nat → Int32) (a9 n9 : Nat) (sz : Nat) (hc : c9 < 51) (ha : d_rows (c9 * 19 + 10) = nI a9) (hcap : c_methods < 2 ^ 24) (hn : d_rows (c9 * 19 + 11) = nI n9) (hin : a9 + n9 * 8 ≤ c_methods) : Met l y_Wd_methodWith (mw y_Wd_methodWith b_Wd_methodWith 6 (some .int)) (rm_Wd_methodWith) (PC g D [] [.ref h0, .int (nI c9), .int sg] sz [(h0, .inr (9, [.ref r_names, .int f_used, .int f_count, .int f_wrongClass, .int f_wrongMethod, .int f_wrongAt, .ref r_rows, .ref r_above, .ref r_fields, .ref r_methods, .ref r_codes, .ref r_handlers, .ref r_extra, .ref r_orders, .ref r_classNamed, .int f_breaks, .ref r_marks])), (r_rows, .inl (g 0, 969, .inl d_rows)), (r_methods, .inr (3, [.ref i_methods, .int (nI s_methods)])), (i_methods, .inl (g 0, c_methods, .inl d_methods))]) (va_Qi (fun (r : Int32) (u : Unit) => r = -1 ∨ ∃ k : Nat, r = nI k ∧ k < n9 ∧ d_methods (a9 + k * 8) = sg) (QW D (va_A [(h0, .inr (9, [.ref r_names, .int f_used, .int f_count, .int f_wrongClass, .int f_wrongMethod, .int f_wrongAt, .ref r_rows, .ref r_above, .ref r_fields, .ref r_methods, .ref r_codes, .ref r_handlers, .ref r_extra, .ref r_orders, .ref r_classNamed, .int f_breaks, .ref r_marks])), (r_rows, .inl (g 0, 969, .inl d_rows)), (r_methods, .inr (3, [.ref i_methods, .int (nI s_methods)])), (i_methods, .inl (g 0, c_methods, .inl d_methods))] sz) (fun u : Unit => [(h0, .inr (9, [.ref r_names, .int f_used, .int f_count, .int f_wrongClass, .int f_wrongMethod, .int f_wrongAt, .ref r_rows, .ref r_above, .ref r_fields, .ref r_methods, .ref r_codes, .ref r_handlers, .ref r_extra, .ref r_orders, .ref r_classNamed, .int f_breaks, .ref r_marks])), (r_rows, .inl (g 0, 969, .inl d_rows)), (r_methods, .inr (3, [.ref i_methods, .int (nI s_methods)])), (i_methods, .inl (g 0, c_methods, .inl d_methods))])) (va_A [(h0, .inr (9, [.ref r_names, .int f_used, .int f_count, .int f_wrongClass, .int f_wrongMethod, .int f_wrongAt, .ref r_rows, .ref r_above, .ref r_fields, .ref r_methods, .ref r_codes, .ref r_handlers, .ref r_extra, .ref r_orders, .ref r_classNamed, .int f_breaks, .ref r_marks])), (r_rows, .inl (g 0, 969, .inl d_rows)), (r_methods, .inr (3, [.ref i_methods, .int (nI s_methods)])), (i_methods, .inl (g 0, c_methods, .inl d_methods))] sz)) 0 0 (va_A [(h0, .inr (9, [.ref r_names, .int f_used, .int f_count, .int f_wrongClass, .int f_wrongMethod, .int f_wrongAt, .ref r_rows, .ref r_above, .ref r_fields, .ref r_methods, .ref r_codes, .ref r_handlers, .ref r_extra, .ref r_orders, .ref r_classNamed, .int f_breaks, .ref r_marks])), (r_rows, .inl (g 0, 969, .inl d_rows)), (r_methods, .inr (3, [.ref i_methods, .int (nI s_methods)])), (i_methods, .inl (g 0, c_methods, .inl d_methods))] sz) := by
  refine ofI (by decide +kernel) (Nat.le_of_ble_eq_true rfl) ?_
  intro p e s m args below meth c A Q ls H locs G hsz hP hD hS hl hret
  subst hsz
  have hl : lv_has ls 6 [(0, .ref h0), (1, .int (nI c9)), (2, .int sg)] := hl
  refine lv_aload_n G.1 G.2.1 d_Wd_methodWith_0 rfl (lv_at hl 0 rfl) ?_
  refine kg (ci := 9) G iWd hP 0 rfl rfl 6 (by decide) q831 rfl rfl d_Wd_methodWith_1 ?_
  refine lv_iload_n G.1 G.2.1 d_Wd_methodWith_4 rfl (lv_at hl 1 rfl) ?_
  refine lv_bipush (v := nI 19) G.1 G.2.1 d_Wd_methodWith_5 (by decide) ?_
  refine lv_imul G.1 G.2.1 d_Wd_methodWith_7 ?_
  refine tpi (w := nI (c9 * 19)) (pk_mul _ _) ?_
  refine lv_bipush (v := nI 10) G.1 G.2.1 d_Wd_methodWith_8 (by decide) ?_
  refine lv_iadd G.1 G.2.1 d_Wd_methodWith_10 ?_
  refine tpi (w := nI (c9 * 19 + 10)) (nI_add _ _) ?_
  refine kiald G hP 1 0 rfl rfl (by omega) (by omega) d_Wd_methodWith_11 ?_
  refine tpi (w := nI a9) ha ?_
  refine lv_istore_n (lv' := [(3, .int (nI a9)), (0, .ref h0), (1, .int (nI c9)), (2, .int sg)]) G.1 G.2.1 d_Wd_methodWith_12 rfl hl (by decide) rfl (fun ls hl => ?_)
  refine lv_aload_n G.1 G.2.1 d_Wd_methodWith_13 rfl (lv_at hl 1 rfl) ?_
  refine kg (ci := 9) G iWd hP 0 rfl rfl 6 (by decide) q831 rfl rfl d_Wd_methodWith_14 ?_
  refine W.eq (g2 := F0 m 17 ls [.ref r_rows]) rfl ?_
  refine lv_iload_n G.1 G.2.1 d_Wd_methodWith_17 rfl (lv_at hl 2 rfl) ?_
  refine lv_bipush (v := nI 19) G.1 G.2.1 d_Wd_methodWith_18 (by decide) ?_
  refine lv_imul G.1 G.2.1 d_Wd_methodWith_20 ?_
  refine tpi (w := nI (c9 * 19)) (pk_mul _ _) ?_
  refine lv_bipush (v := nI 11) G.1 G.2.1 d_Wd_methodWith_21 (by decide) ?_
  refine lv_iadd G.1 G.2.1 d_Wd_methodWith_23 ?_
  refine tpi (w := nI (c9 * 19 + 11)) (nI_add _ _) ?_
  refine kiald G hP 1 0 rfl rfl (by omega) (by omega) d_Wd_methodWith_24 ?_
  refine tpi (w := nI n9) hn ?_
  refine lv_istore (lv' := [(4, .int (nI n9)), (3, .int (nI a9)), (0, .ref h0), (1, .int (nI c9)), (2, .int sg)]) G.1 G.2.1 d_Wd_methodWith_25 hl (by decide) rfl (fun ls hl => ?_)
  refine lv_iconst (v := nI 0) G.1 G.2.1 d_Wd_methodWith_27 (by decide) ?_
  refine lv_istore (lv' := [(5, .int (nI 0)), (4, .int (nI n9)), (3, .int (nI a9)), (0, .ref h0), (1, .int (nI c9)), (2, .int sg)]) G.1 G.2.1 d_Wd_methodWith_28 hl (by decide) rfl (fun ls hl => ?_)
  have L_1 : ∀ (k_L_1 : Nat) (k : Nat), (n9 - k) < k_L_1 → (k ≤ n9) → ∀ (H : Heap) (locs : List Loc), va_P D CL [(h0, .inr (9, [.ref r_names, .int f_used, .int f_count, .int f_wrongClass, .int f_wrongMethod, .int f_wrongAt, .ref r_rows, .ref r_above, .ref r_fields, .ref r_methods, .ref r_codes, .ref r_handlers, .ref r_extra, .ref r_orders, .ref r_classNamed, .int f_breaks, .ref r_marks])), (r_rows, .inl (g 0, 969, .inl d_rows)), (r_methods, .inr (3, [.ref i_methods, .int (nI s_methods)])), (i_methods, .inl (g 0, c_methods, .inl d_methods))] H → va_D A [(h0, .inr (9, [.ref r_names, .int f_used, .int f_count, .int f_wrongClass, .int f_wrongMethod, .int f_wrongAt, .ref r_rows, .ref r_above, .ref r_fields, .ref r_methods, .ref r_codes, .ref r_handlers, .ref r_extra, .ref r_orders, .ref r_classNamed, .int f_breaks, .ref r_marks])), (r_rows, .inl (g 0, 969, .inl d_rows)), (r_methods, .inr (3, [.ref i_methods, .int (nI s_methods)])), (i_methods, .inl (g 0, c_methods, .inl d_methods))] → va_S A s.heap H locs → ∀ ls, lv_has ls 6 [(4, .int (nI n9)), (3, .int (nI a9)), (0, .ref h0), (1, .int (nI c9)), (2, .int sg), (5, .int (nI k))] → W p l e rm_Wd_methodWith s m args below meth c H locs 0 0 Q (F0 m 30 ls []) := by
    intro k_L_1
    induction k_L_1 with
    | zero => intro k hk_L_1; exact absurd hk_L_1 (Nat.not_lt_zero _)
    | succ k_L_1 ih_L_1 =>
      intro k hk_L_1 hk H locs hP hD hS ls hl
      refine lv_iload G.1 G.2.1 d_Wd_methodWith_30 (lv_at hl 5 rfl) ?_
      refine lv_iload G.1 G.2.1 d_Wd_methodWith_32 (lv_at hl 0 rfl) ?_
      refine lv_icmp_ge (tgt := 65) G.1 G.2.1 d_Wd_methodWith_34 (by decide) (fun c34 => ?_) (fun c34 => ?_)
      · skip
        have c34 : n9 ≤ k := (nI_leI (by omega) (by omega)).mp c34
        refine lv_iconst (v := (-1)) G.1 G.2.1 d_Wd_methodWith_65 (by decide) ?_
        refine W.eq (g2 := F0 m 66 ls [.int (-1)]) rfl ?_
        refine hret (-1) () _ _ _ _ _ ls (Or.inl rfl) (hP.sub [0, 1, 2, 3] rfl) (hD.sub [0, 1, 2, 3] (by decide) rfl) hS (Nat.le_of_ble_eq_true rfl) (Nat.le_of_ble_eq_true rfl) d_Wd_methodWith_66
      · skip
        have c34 : ¬ (n9 ≤ k) := fun h => c34 ((nI_leI (by omega) (by omega)).mpr h)
        refine lv_aload_n G.1 G.2.1 d_Wd_methodWith_37 rfl (lv_at hl 2 rfl) ?_
        refine W.eq (g2 := F0 m 38 ls [.ref h0]) rfl ?_
        refine kg (ci := 9) G iWd hP 0 rfl rfl 9 (by decide) q839 rfl rfl d_Wd_methodWith_38 ?_
        refine kg (ci := 3) G iIn hP 2 rfl rfl 0 (by decide) q384 rfl rfl d_Wd_methodWith_41 ?_
        refine lv_iload_n G.1 G.2.1 d_Wd_methodWith_44 rfl (lv_at hl 1 rfl) ?_
        refine lv_iload G.1 G.2.1 d_Wd_methodWith_45 (lv_at hl 5 rfl) ?_
        refine lv_bipush (v := nI 8) G.1 G.2.1 d_Wd_methodWith_47 (by decide) ?_
        refine lv_imul G.1 G.2.1 d_Wd_methodWith_49 ?_
        refine tpi (w := nI (k * 8)) (pk_mul _ _) ?_
        refine lv_iadd G.1 G.2.1 d_Wd_methodWith_50 ?_
        refine tpi (w := nI (a9 + (k * 8))) (nI_add _ _) ?_
        refine kiald G hP 3 0 rfl rfl (by omega) (by omega) d_Wd_methodWith_51 ?_
        refine lv_iload_n G.1 G.2.1 d_Wd_methodWith_52 rfl (lv_at hl 4 rfl) ?_
        refine lv_icmp_ne (tgt := 59) G.1 G.2.1 d_Wd_methodWith_53 (by decide) (fun c53 => ?_) (fun c53 => ?_)
        · skip
          refine lv_iinc (v := nI (k + 1)) (lv' := [(5, .int (nI (k + 1))), (4, .int (nI n9)), (3, .int (nI a9)), (0, .ref h0), (1, .int (nI c9)), (2, .int sg)]) G.1 G.2.1 d_Wd_methodWith_59 hl (k := 5) rfl (show (nI k) + Int32.ofInt 1 = nI (k + 1) from nI_1 _) (by decide) rfl (fun ls hl => ?_)
          refine lv_goto (tgt := 30) G.1 G.2.1 d_Wd_methodWith_62 (by decide) ?_
          exact ih_L_1 (k + 1) (by omega) (by omega) _ _ (hP.sub [0, 1, 2, 3] rfl) (hD.sub [0, 1, 2, 3] (by decide) rfl) hS ls (lv_sub hl [1, 2, 3, 4, 5, 0] rfl)
        · skip
          refine lv_iload G.1 G.2.1 d_Wd_methodWith_56 (lv_at hl 5 rfl) ?_
          refine hret (nI k) () _ _ _ _ _ ls (Or.inr ⟨k, rfl, by omega, c53⟩) (hP.sub [0, 1, 2, 3] rfl) (hD.sub [0, 1, 2, 3] (by decide) rfl) hS (Nat.le_of_ble_eq_true rfl) (Nat.le_of_ble_eq_true rfl) d_Wd_methodWith_58
  exact L_1 (_ + 1) 0 (Nat.lt_succ_self _) (Nat.zero_le _) _ _ (hP.sub [0, 1, 2, 3] rfl) (hD.sub [0, 1, 2, 3] (by decide) rfl) hS ls (lv_sub hl [1, 2, 3, 4, 5, 0] rfl)
def y_Wd_fieldWith : MethodName := ⟨"ClassWorks$World", "fieldWith", "(III)I"⟩
abbrev b_Wd_fieldWith : ByteArray := prog_11_method_19_code
theorem d_Wd_fieldWith_0 : decode b_Wd_fieldWith 0 = .ok (.aload_n 0, 1) := by decide +kernel
theorem d_Wd_fieldWith_1 : decode b_Wd_fieldWith 1 = .ok (.getfield 28, 3) := by decide +kernel
theorem d_Wd_fieldWith_4 : decode b_Wd_fieldWith 4 = .ok (.iload_n 1, 1) := by decide +kernel
theorem d_Wd_fieldWith_5 : decode b_Wd_fieldWith 5 = .ok (.bipush 19, 2) := by decide +kernel
theorem d_Wd_fieldWith_7 : decode b_Wd_fieldWith 7 = .ok (.imul, 1) := by decide +kernel
theorem d_Wd_fieldWith_8 : decode b_Wd_fieldWith 8 = .ok (.bipush 8, 2) := by decide +kernel
theorem d_Wd_fieldWith_10 : decode b_Wd_fieldWith 10 = .ok (.iadd, 1) := by decide +kernel
theorem d_Wd_fieldWith_11 : decode b_Wd_fieldWith 11 = .ok (.iaload, 1) := by decide +kernel
theorem d_Wd_fieldWith_12 : decode b_Wd_fieldWith 12 = .ok (.istore 4, 2) := by decide +kernel
theorem d_Wd_fieldWith_14 : decode b_Wd_fieldWith 14 = .ok (.aload_n 0, 1) := by decide +kernel
theorem d_Wd_fieldWith_15 : decode b_Wd_fieldWith 15 = .ok (.getfield 28, 3) := by decide +kernel
theorem d_Wd_fieldWith_18 : decode b_Wd_fieldWith 18 = .ok (.iload_n 1, 1) := by decide +kernel
theorem d_Wd_fieldWith_19 : decode b_Wd_fieldWith 19 = .ok (.bipush 19, 2) := by decide +kernel
theorem d_Wd_fieldWith_21 : decode b_Wd_fieldWith 21 = .ok (.imul, 1) := by decide +kernel
theorem d_Wd_fieldWith_22 : decode b_Wd_fieldWith 22 = .ok (.bipush 9, 2) := by decide +kernel
theorem d_Wd_fieldWith_24 : decode b_Wd_fieldWith 24 = .ok (.iadd, 1) := by decide +kernel
theorem d_Wd_fieldWith_25 : decode b_Wd_fieldWith 25 = .ok (.iaload, 1) := by decide +kernel
theorem d_Wd_fieldWith_26 : decode b_Wd_fieldWith 26 = .ok (.istore 5, 2) := by decide +kernel
theorem d_Wd_fieldWith_28 : decode b_Wd_fieldWith 28 = .ok (.iconst 0, 1) := by decide +kernel
theorem d_Wd_fieldWith_29 : decode b_Wd_fieldWith 29 = .ok (.istore 6, 2) := by decide +kernel
theorem d_Wd_fieldWith_31 : decode b_Wd_fieldWith 31 = .ok (.iload 6, 2) := by decide +kernel
theorem d_Wd_fieldWith_33 : decode b_Wd_fieldWith 33 = .ok (.iload 5, 2) := by decide +kernel
theorem d_Wd_fieldWith_35 : decode b_Wd_fieldWith 35 = .ok (.if_icmp .ge 56, 3) := by decide +kernel
theorem d_Wd_fieldWith_38 : decode b_Wd_fieldWith 38 = .ok (.iload 4, 2) := by decide +kernel
theorem d_Wd_fieldWith_40 : decode b_Wd_fieldWith 40 = .ok (.iload 6, 2) := by decide +kernel
theorem d_Wd_fieldWith_42 : decode b_Wd_fieldWith 42 = .ok (.bipush 7, 2) := by decide +kernel
theorem d_Wd_fieldWith_44 : decode b_Wd_fieldWith 44 = .ok (.imul, 1) := by decide +kernel
theorem d_Wd_fieldWith_45 : decode b_Wd_fieldWith 45 = .ok (.iadd, 1) := by decide +kernel
theorem d_Wd_fieldWith_46 : decode b_Wd_fieldWith 46 = .ok (.istore 7, 2) := by decide +kernel
theorem d_Wd_fieldWith_48 : decode b_Wd_fieldWith 48 = .ok (.aload_n 0, 1) := by decide +kernel
theorem d_Wd_fieldWith_49 : decode b_Wd_fieldWith 49 = .ok (.getfield 41, 3) := by decide +kernel
theorem d_Wd_fieldWith_52 : decode b_Wd_fieldWith 52 = .ok (.getfield 98, 3) := by decide +kernel
theorem d_Wd_fieldWith_55 : decode b_Wd_fieldWith 55 = .ok (.iload 7, 2) := by decide +kernel
theorem d_Wd_fieldWith_57 : decode b_Wd_fieldWith 57 = .ok (.iaload, 1) := by decide +kernel
theorem d_Wd_fieldWith_58 : decode b_Wd_fieldWith 58 = .ok (.iload_n 2, 1) := by decide +kernel
theorem d_Wd_fieldWith_59 : decode b_Wd_fieldWith 59 = .ok (.if_icmp .ne 26, 3) := by decide +kernel
theorem d_Wd_fieldWith_62 : decode b_Wd_fieldWith 62 = .ok (.iload_n 3, 1) := by decide +kernel
theorem d_Wd_fieldWith_63 : decode b_Wd_fieldWith 63 = .ok (.ifCond .lt 19, 3) := by decide +kernel
theorem d_Wd_fieldWith_66 : decode b_Wd_fieldWith 66 = .ok (.aload_n 0, 1) := by decide +kernel
theorem d_Wd_fieldWith_67 : decode b_Wd_fieldWith 67 = .ok (.getfield 41, 3) := by decide +kernel
theorem d_Wd_fieldWith_70 : decode b_Wd_fieldWith 70 = .ok (.getfield 98, 3) := by decide +kernel
theorem d_Wd_fieldWith_73 : decode b_Wd_fieldWith 73 = .ok (.iload 7, 2) := by decide +kernel
theorem d_Wd_fieldWith_75 : decode b_Wd_fieldWith 75 = .ok (.iconst 1, 1) := by decide +kernel
theorem d_Wd_fieldWith_76 : decode b_Wd_fieldWith 76 = .ok (.iadd, 1) := by decide +kernel
theorem d_Wd_fieldWith_77 : decode b_Wd_fieldWith 77 = .ok (.iaload, 1) := by decide +kernel
theorem d_Wd_fieldWith_78 : decode b_Wd_fieldWith 78 = .ok (.iload_n 3, 1) := by decide +kernel
theorem d_Wd_fieldWith_79 : decode b_Wd_fieldWith 79 = .ok (.if_icmp .ne 6, 3) := by decide +kernel
theorem d_Wd_fieldWith_82 : decode b_Wd_fieldWith 82 = .ok (.iload 6, 2) := by decide +kernel
theorem d_Wd_fieldWith_84 : decode b_Wd_fieldWith 84 = .ok (.ireturn, 1) := by decide +kernel
theorem d_Wd_fieldWith_85 : decode b_Wd_fieldWith 85 = .ok (.iinc 6 1, 3) := by decide +kernel
theorem d_Wd_fieldWith_88 : decode b_Wd_fieldWith 88 = .ok (.goto (-57), 3) := by decide +kernel
theorem d_Wd_fieldWith_91 : decode b_Wd_fieldWith 91 = .ok (.iconst (-1), 1) := by decide +kernel
theorem d_Wd_fieldWith_92 : decode b_Wd_fieldWith 92 = .ok (.ireturn, 1) := by decide +kernel
abbrev rm_Wd_fieldWith : Room := { frames := 0, cells := 0, slots := 0, locals := 0 }
set_option maxHeartbeats 4000000 in
set_option maxRecDepth 100000 in
/-- fieldWith -/
theorem c_Wd_fieldWith (l : Launch) (D : va_G) (g : Nat → ClassId) (h0 : Nat) (c9 : Nat) (nm : Int32) (ty : Int32) (r_names : Nat) (f_used : Int32) (f_count : Int32) (f_wrongClass : Int32) (f_wrongMethod : Int32) (f_wrongAt : Int32) (r_rows : Nat) (r_above : Nat) (r_fields : Nat) (r_methods : Nat) (r_codes : Nat) (r_handlers : Nat) (r_extra : Nat) (r_orders : Nat) (r_classNamed : Nat) (f_breaks : Int32) (r_marks : Nat) (d_rows : Nat → Int32) (i_fields : Nat) (s_fields : Nat) (c_fields : Nat) (d_fields : Nat → Int32) (a9 n9 : Nat) (sz : Nat) (hc : c9 < 51) (ha : d_rows (c9 * 19 + 8) = nI a9) (hcap : c_fields < 2 ^ 24) (hn : d_rows (c9 * 19 + 9) = nI n9) (hin : a9 + n9 * 7 ≤ c_fields) : Met l y_Wd_fieldWith (mw y_Wd_fieldWith b_Wd_fieldWith 8 (some .int)) (rm_Wd_fieldWith) (PC g D [] [.ref h0, .int (nI c9), .int nm, .int ty] sz [(h0, .inr (9, [.ref r_names, .int f_used, .int f_count, .int f_wrongClass, .int f_wrongMethod, .int f_wrongAt, .ref r_rows, .ref r_above, .ref r_fields, .ref r_methods, .ref r_codes, .ref r_handlers, .ref r_extra, .ref r_orders, .ref r_classNamed, .int f_breaks, .ref r_marks])), (r_rows, .inl (g 0, 969, .inl d_rows)), (r_fields, .inr (3, [.ref i_fields, .int (nI s_fields)])), (i_fields, .inl (g 0, c_fields, .inl d_fields))]) (va_Qi (fun (r : Int32) (u : Unit) => r = -1 ∨ ∃ k : Nat, r = nI k ∧ k < n9 ∧ d_fields (a9 + k * 7) = nm) (QW D (va_A [(h0, .inr (9, [.ref r_names, .int f_used, .int f_count, .int f_wrongClass, .int f_wrongMethod, .int f_wrongAt, .ref r_rows, .ref r_above, .ref r_fields, .ref r_methods, .ref r_codes, .ref r_handlers, .ref r_extra, .ref r_orders, .ref r_classNamed, .int f_breaks, .ref r_marks])), (r_rows, .inl (g 0, 969, .inl d_rows)), (r_fields, .inr (3, [.ref i_fields, .int (nI s_fields)])), (i_fields, .inl (g 0, c_fields, .inl d_fields))] sz) (fun u : Unit => [(h0, .inr (9, [.ref r_names, .int f_used, .int f_count, .int f_wrongClass, .int f_wrongMethod, .int f_wrongAt, .ref r_rows, .ref r_above, .ref r_fields, .ref r_methods, .ref r_codes, .ref r_handlers, .ref r_extra, .ref r_orders, .ref r_classNamed, .int f_breaks, .ref r_marks])), (r_rows, .inl (g 0, 969, .inl d_rows)), (r_fields, .inr (3, [.ref i_fields, .int (nI s_fields)])), (i_fields, .inl (g 0, c_fields, .inl d_fields))])) (va_A [(h0, .inr (9, [.ref r_names, .int f_used, .int f_count, .int f_wrongClass, .int f_wrongMethod, .int f_wrongAt, .ref r_rows, .ref r_above, .ref r_fields, .ref r_methods, .ref r_codes, .ref r_handlers, .ref r_extra, .ref r_orders, .ref r_classNamed, .int f_breaks, .ref r_marks])), (r_rows, .inl (g 0, 969, .inl d_rows)), (r_fields, .inr (3, [.ref i_fields, .int (nI s_fields)])), (i_fields, .inl (g 0, c_fields, .inl d_fields))] sz)) 0 0 (va_A [(h0, .inr (9, [.ref r_names, .int f_used, .int f_count, .int f_wrongClass, .int f_wrongMethod, .int f_wrongAt, .ref r_rows, .ref r_above, .ref r_fields, .ref r_methods, .ref r_codes, .ref r_handlers, .ref r_extra, .ref r_orders, .ref r_classNamed, .int f_breaks, .ref r_marks])), (r_rows, .inl (g 0, 969, .inl d_rows)), (r_fields, .inr (3, [.ref i_fields, .int (nI s_fields)])), (i_fields, .inl (g 0, c_fields, .inl d_fields))] sz) := by
  refine ofI (by decide +kernel) (Nat.le_of_ble_eq_true rfl) ?_
  intro p e s m args below meth c A Q ls H locs G hsz hP hD hS hl hret
  subst hsz
  have hl : lv_has ls 8 [(0, .ref h0), (1, .int (nI c9)), (2, .int nm), (3, .int ty)] := hl
  refine lv_aload_n G.1 G.2.1 d_Wd_fieldWith_0 rfl (lv_at hl 0 rfl) ?_
  refine kg (ci := 9) G iWd hP 0 rfl rfl 6 (by decide) q831 rfl rfl d_Wd_fieldWith_1 ?_
  refine lv_iload_n G.1 G.2.1 d_Wd_fieldWith_4 rfl (lv_at hl 1 rfl) ?_
  refine lv_bipush (v := nI 19) G.1 G.2.1 d_Wd_fieldWith_5 (by decide) ?_
  refine lv_imul G.1 G.2.1 d_Wd_fieldWith_7 ?_
  refine tpi (w := nI (c9 * 19)) (pk_mul _ _) ?_
  refine lv_bipush (v := nI 8) G.1 G.2.1 d_Wd_fieldWith_8 (by decide) ?_
  refine lv_iadd G.1 G.2.1 d_Wd_fieldWith_10 ?_
  refine tpi (w := nI (c9 * 19 + 8)) (nI_add _ _) ?_
  refine kiald G hP 1 0 rfl rfl (by omega) (by omega) d_Wd_fieldWith_11 ?_
  refine tpi (w := nI a9) ha ?_
  refine lv_istore (lv' := [(4, .int (nI a9)), (0, .ref h0), (1, .int (nI c9)), (2, .int nm), (3, .int ty)]) G.1 G.2.1 d_Wd_fieldWith_12 hl (by decide) rfl (fun ls hl => ?_)
  refine lv_aload_n G.1 G.2.1 d_Wd_fieldWith_14 rfl (lv_at hl 1 rfl) ?_
  refine kg (ci := 9) G iWd hP 0 rfl rfl 6 (by decide) q831 rfl rfl d_Wd_fieldWith_15 ?_
  refine W.eq (g2 := F0 m 18 ls [.ref r_rows]) rfl ?_
  refine lv_iload_n G.1 G.2.1 d_Wd_fieldWith_18 rfl (lv_at hl 2 rfl) ?_
  refine lv_bipush (v := nI 19) G.1 G.2.1 d_Wd_fieldWith_19 (by decide) ?_
  refine lv_imul G.1 G.2.1 d_Wd_fieldWith_21 ?_
  refine tpi (w := nI (c9 * 19)) (pk_mul _ _) ?_
  refine lv_bipush (v := nI 9) G.1 G.2.1 d_Wd_fieldWith_22 (by decide) ?_
  refine lv_iadd G.1 G.2.1 d_Wd_fieldWith_24 ?_
  refine tpi (w := nI (c9 * 19 + 9)) (nI_add _ _) ?_
  refine kiald G hP 1 0 rfl rfl (by omega) (by omega) d_Wd_fieldWith_25 ?_
  refine tpi (w := nI n9) hn ?_
  refine lv_istore (lv' := [(5, .int (nI n9)), (4, .int (nI a9)), (0, .ref h0), (1, .int (nI c9)), (2, .int nm), (3, .int ty)]) G.1 G.2.1 d_Wd_fieldWith_26 hl (by decide) rfl (fun ls hl => ?_)
  refine lv_iconst (v := nI 0) G.1 G.2.1 d_Wd_fieldWith_28 (by decide) ?_
  refine lv_istore (lv' := [(6, .int (nI 0)), (5, .int (nI n9)), (4, .int (nI a9)), (0, .ref h0), (1, .int (nI c9)), (2, .int nm), (3, .int ty)]) G.1 G.2.1 d_Wd_fieldWith_29 hl (by decide) rfl (fun ls hl => ?_)
  have L_1 : ∀ (k_L_1 : Nat) (k : Nat), (n9 - k) < k_L_1 → (k ≤ n9) → ∀ (H : Heap) (locs : List Loc), va_P D CL [(h0, .inr (9, [.ref r_names, .int f_used, .int f_count, .int f_wrongClass, .int f_wrongMethod, .int f_wrongAt, .ref r_rows, .ref r_above, .ref r_fields, .ref r_methods, .ref r_codes, .ref r_handlers, .ref r_extra, .ref r_orders, .ref r_classNamed, .int f_breaks, .ref r_marks])), (r_rows, .inl (g 0, 969, .inl d_rows)), (r_fields, .inr (3, [.ref i_fields, .int (nI s_fields)])), (i_fields, .inl (g 0, c_fields, .inl d_fields))] H → va_D A [(h0, .inr (9, [.ref r_names, .int f_used, .int f_count, .int f_wrongClass, .int f_wrongMethod, .int f_wrongAt, .ref r_rows, .ref r_above, .ref r_fields, .ref r_methods, .ref r_codes, .ref r_handlers, .ref r_extra, .ref r_orders, .ref r_classNamed, .int f_breaks, .ref r_marks])), (r_rows, .inl (g 0, 969, .inl d_rows)), (r_fields, .inr (3, [.ref i_fields, .int (nI s_fields)])), (i_fields, .inl (g 0, c_fields, .inl d_fields))] → va_S A s.heap H locs → ∀ ls, lv_has ls 8 [(5, .int (nI n9)), (4, .int (nI a9)), (0, .ref h0), (1, .int (nI c9)), (2, .int nm), (3, .int ty), (6, .int (nI k))] → W p l e rm_Wd_fieldWith s m args below meth c H locs 0 0 Q (F0 m 31 ls []) := by
    intro k_L_1
    induction k_L_1 with
    | zero => intro k hk_L_1; exact absurd hk_L_1 (Nat.not_lt_zero _)
    | succ k_L_1 ih_L_1 =>
      intro k hk_L_1 hk H locs hP hD hS ls hl
      refine lv_iload G.1 G.2.1 d_Wd_fieldWith_31 (lv_at hl 6 rfl) ?_
      refine lv_iload G.1 G.2.1 d_Wd_fieldWith_33 (lv_at hl 0 rfl) ?_
      refine lv_icmp_ge (tgt := 91) G.1 G.2.1 d_Wd_fieldWith_35 (by decide) (fun c35 => ?_) (fun c35 => ?_)
      · skip
        have c35 : n9 ≤ k := (nI_leI (by omega) (by omega)).mp c35
        refine lv_iconst (v := (-1)) G.1 G.2.1 d_Wd_fieldWith_91 (by decide) ?_
        refine W.eq (g2 := F0 m 92 ls [.int (-1)]) rfl ?_
        refine hret (-1) () _ _ _ _ _ ls (Or.inl rfl) (hP.sub [0, 1, 2, 3] rfl) (hD.sub [0, 1, 2, 3] (by decide) rfl) hS (Nat.le_of_ble_eq_true rfl) (Nat.le_of_ble_eq_true rfl) d_Wd_fieldWith_92
      · skip
        have c35 : ¬ (n9 ≤ k) := fun h => c35 ((nI_leI (by omega) (by omega)).mpr h)
        refine lv_iload G.1 G.2.1 d_Wd_fieldWith_38 (lv_at hl 1 rfl) ?_
        refine W.eq (g2 := F0 m 40 ls [.int (nI a9)]) rfl ?_
        refine lv_iload G.1 G.2.1 d_Wd_fieldWith_40 (lv_at hl 6 rfl) ?_
        refine lv_bipush (v := nI 7) G.1 G.2.1 d_Wd_fieldWith_42 (by decide) ?_
        refine lv_imul G.1 G.2.1 d_Wd_fieldWith_44 ?_
        refine tpi (w := nI (k * 7)) (pk_mul _ _) ?_
        refine lv_iadd G.1 G.2.1 d_Wd_fieldWith_45 ?_
        refine tpi (w := nI (a9 + (k * 7))) (nI_add _ _) ?_
        refine lv_istore (lv' := [(7, .int (nI (a9 + (k * 7)))), (5, .int (nI n9)), (4, .int (nI a9)), (0, .ref h0), (1, .int (nI c9)), (2, .int nm), (3, .int ty), (6, .int (nI k))]) G.1 G.2.1 d_Wd_fieldWith_46 hl (by decide) rfl (fun ls hl => ?_)
        refine lv_aload_n G.1 G.2.1 d_Wd_fieldWith_48 rfl (lv_at hl 3 rfl) ?_
        refine kg (ci := 9) G iWd hP 0 rfl rfl 8 (by decide) q835 rfl rfl d_Wd_fieldWith_49 ?_
        refine kg (ci := 3) G iIn hP 2 rfl rfl 0 (by decide) q384 rfl rfl d_Wd_fieldWith_52 ?_
        refine lv_iload G.1 G.2.1 d_Wd_fieldWith_55 (lv_at hl 0 rfl) ?_
        refine kiald G hP 3 0 rfl rfl (by omega) (by omega) d_Wd_fieldWith_57 ?_
        refine lv_iload_n G.1 G.2.1 d_Wd_fieldWith_58 rfl (lv_at hl 5 rfl) ?_
        refine lv_icmp_ne (tgt := 85) G.1 G.2.1 d_Wd_fieldWith_59 (by decide) (fun c59 => ?_) (fun c59 => ?_)
        · skip
          refine W.eq (g2 := F0 m 85 ls []) rfl ?_
          refine lv_iinc (v := nI (k + 1)) (lv' := [(6, .int (nI (k + 1))), (7, .int (nI (a9 + (k * 7)))), (5, .int (nI n9)), (4, .int (nI a9)), (0, .ref h0), (1, .int (nI c9)), (2, .int nm), (3, .int ty)]) G.1 G.2.1 d_Wd_fieldWith_85 hl (k := 7) rfl (show (nI k) + Int32.ofInt 1 = nI (k + 1) from nI_1 _) (by decide) rfl (fun ls hl => ?_)
          refine lv_goto (tgt := 31) G.1 G.2.1 d_Wd_fieldWith_88 (by decide) ?_
          exact ih_L_1 (k + 1) (by omega) (by omega) _ _ (hP.sub [0, 1, 2, 3] rfl) (hD.sub [0, 1, 2, 3] (by decide) rfl) hS ls (lv_sub hl [2, 3, 4, 5, 6, 7, 0] rfl)
        · skip
          refine W.eq (g2 := F0 m 62 ls []) rfl ?_
          refine lv_iload_n G.1 G.2.1 d_Wd_fieldWith_62 rfl (lv_at hl 6 rfl) ?_
          refine lv_if_lt (tgt := 82) G.1 G.2.1 d_Wd_fieldWith_63 (by decide) (fun c63 => ?_) (fun c63 => ?_)
          · skip
            refine lv_iload G.1 G.2.1 d_Wd_fieldWith_82 (lv_at hl 7 rfl) ?_
            refine hret (nI k) () _ _ _ _ _ ls (Or.inr ⟨k, rfl, by omega, c59⟩) (hP.sub [0, 1, 2, 3] rfl) (hD.sub [0, 1, 2, 3] (by decide) rfl) hS (Nat.le_of_ble_eq_true rfl) (Nat.le_of_ble_eq_true rfl) d_Wd_fieldWith_84
          · skip
            refine lv_aload_n G.1 G.2.1 d_Wd_fieldWith_66 rfl (lv_at hl 3 rfl) ?_
            refine kg (ci := 9) G iWd hP 0 rfl rfl 8 (by decide) q835 rfl rfl d_Wd_fieldWith_67 ?_
            refine kg (ci := 3) G iIn hP 2 rfl rfl 0 (by decide) q384 rfl rfl d_Wd_fieldWith_70 ?_
            refine lv_iload G.1 G.2.1 d_Wd_fieldWith_73 (lv_at hl 0 rfl) ?_
            refine lv_iconst (v := nI 1) G.1 G.2.1 d_Wd_fieldWith_75 (by decide) ?_
            refine lv_iadd G.1 G.2.1 d_Wd_fieldWith_76 ?_
            refine tpi (w := nI (a9 + (k * 7) + 1)) (nI_add _ _) ?_
            refine kiald G hP 3 0 rfl rfl (by omega) (by omega) d_Wd_fieldWith_77 ?_
            refine lv_iload_n G.1 G.2.1 d_Wd_fieldWith_78 rfl (lv_at hl 6 rfl) ?_
            refine lv_icmp_ne (tgt := 85) G.1 G.2.1 d_Wd_fieldWith_79 (by decide) (fun c79 => ?_) (fun c79 => ?_)
            · skip
              refine lv_iinc (v := nI (k + 1)) (lv' := [(6, .int (nI (k + 1))), (7, .int (nI (a9 + (k * 7)))), (5, .int (nI n9)), (4, .int (nI a9)), (0, .ref h0), (1, .int (nI c9)), (2, .int nm), (3, .int ty)]) G.1 G.2.1 d_Wd_fieldWith_85 hl (k := 7) rfl (show (nI k) + Int32.ofInt 1 = nI (k + 1) from nI_1 _) (by decide) rfl (fun ls hl => ?_)
              refine W.eq (g2 := F0 m 88 ls []) rfl ?_
              refine lv_goto (tgt := 31) G.1 G.2.1 d_Wd_fieldWith_88 (by decide) ?_
              exact ih_L_1 (k + 1) (by omega) (by omega) _ _ (hP.sub [0, 1, 2, 3] rfl) (hD.sub [0, 1, 2, 3] (by decide) rfl) hS ls (lv_sub hl [2, 3, 4, 5, 6, 7, 0] rfl)
            · skip
              refine lv_iload G.1 G.2.1 d_Wd_fieldWith_82 (lv_at hl 7 rfl) ?_
              refine W.eq (g2 := F0 m 84 ls [.int (nI k)]) rfl ?_
              refine hret (nI k) () _ _ _ _ _ ls (Or.inr ⟨k, rfl, by omega, c59⟩) (hP.sub [0, 1, 2, 3] rfl) (hD.sub [0, 1, 2, 3] (by decide) rfl) hS (Nat.le_of_ble_eq_true rfl) (Nat.le_of_ble_eq_true rfl) d_Wd_fieldWith_84
  exact L_1 (_ + 1) 0 (Nat.lt_succ_self _) (Nat.zero_le _) _ _ (hP.sub [0, 1, 2, 3] rfl) (hD.sub [0, 1, 2, 3] (by decide) rfl) hS ls (lv_sub hl [1, 2, 3, 4, 5, 6, 0] rfl)
def y_Wd_asks : MethodName := ⟨"ClassWorks$World", "asks", "(I)Z"⟩
abbrev b_Wd_asks : ByteArray := prog_11_method_20_code
theorem q862 : Cond.fieldLink "ClassWorks$World" 63 "ClassWorks$World" "breaks" "I" ∈ lw_ok := lw_okmem (List.mem_of_getElem? (i := 862) (by decide +kernel)) rfl
theorem d_Wd_asks_0 : decode b_Wd_asks 0 = .ok (.aload_n 0, 1) := by decide +kernel
theorem d_Wd_asks_1 : decode b_Wd_asks 1 = .ok (.getfield 63, 3) := by decide +kernel
theorem d_Wd_asks_4 : decode b_Wd_asks 4 = .ok (.iload_n 1, 1) := by decide +kernel
theorem d_Wd_asks_5 : decode b_Wd_asks 5 = .ok (.ishr, 1) := by decide +kernel
theorem d_Wd_asks_6 : decode b_Wd_asks 6 = .ok (.iconst 1, 1) := by decide +kernel
theorem d_Wd_asks_7 : decode b_Wd_asks 7 = .ok (.iand, 1) := by decide +kernel
theorem d_Wd_asks_8 : decode b_Wd_asks 8 = .ok (.ifCond .ne 7, 3) := by decide +kernel
theorem d_Wd_asks_11 : decode b_Wd_asks 11 = .ok (.iconst 1, 1) := by decide +kernel
theorem d_Wd_asks_12 : decode b_Wd_asks 12 = .ok (.goto 4, 3) := by decide +kernel
theorem d_Wd_asks_15 : decode b_Wd_asks 15 = .ok (.iconst 0, 1) := by decide +kernel
theorem d_Wd_asks_16 : decode b_Wd_asks 16 = .ok (.ireturn, 1) := by decide +kernel
abbrev rm_Wd_asks : Room := { frames := 0, cells := 0, slots := 0, locals := 0 }
set_option maxHeartbeats 4000000 in
set_option maxRecDepth 100000 in
/-- asks -/
theorem c_Wd_asks (l : Launch) (D : va_G) (g : Nat → ClassId) (h0 : Nat) (bt : Int32) (r_names : Nat) (f_used : Int32) (f_count : Int32) (f_wrongClass : Int32) (f_wrongMethod : Int32) (f_wrongAt : Int32) (r_rows : Nat) (r_above : Nat) (r_fields : Nat) (r_methods : Nat) (r_codes : Nat) (r_handlers : Nat) (r_extra : Nat) (r_orders : Nat) (r_classNamed : Nat) (f_breaks : Int32) (r_marks : Nat) (sz : Nat)  : Met l y_Wd_asks (mw y_Wd_asks b_Wd_asks 2 (some (.boolean))) (rm_Wd_asks) (PC g D [] [.ref h0, .int bt] sz [(h0, .inr (9, [.ref r_names, .int f_used, .int f_count, .int f_wrongClass, .int f_wrongMethod, .int f_wrongAt, .ref r_rows, .ref r_above, .ref r_fields, .ref r_methods, .ref r_codes, .ref r_handlers, .ref r_extra, .ref r_orders, .ref r_classNamed, .int f_breaks, .ref r_marks]))]) (va_Qi (fun (r : Int32) (u : Unit) => r = 0 ∨ r = 1) (QW D (va_A [(h0, .inr (9, [.ref r_names, .int f_used, .int f_count, .int f_wrongClass, .int f_wrongMethod, .int f_wrongAt, .ref r_rows, .ref r_above, .ref r_fields, .ref r_methods, .ref r_codes, .ref r_handlers, .ref r_extra, .ref r_orders, .ref r_classNamed, .int f_breaks, .ref r_marks]))] sz) (fun u : Unit => [(h0, .inr (9, [.ref r_names, .int f_used, .int f_count, .int f_wrongClass, .int f_wrongMethod, .int f_wrongAt, .ref r_rows, .ref r_above, .ref r_fields, .ref r_methods, .ref r_codes, .ref r_handlers, .ref r_extra, .ref r_orders, .ref r_classNamed, .int f_breaks, .ref r_marks]))])) (va_A [(h0, .inr (9, [.ref r_names, .int f_used, .int f_count, .int f_wrongClass, .int f_wrongMethod, .int f_wrongAt, .ref r_rows, .ref r_above, .ref r_fields, .ref r_methods, .ref r_codes, .ref r_handlers, .ref r_extra, .ref r_orders, .ref r_classNamed, .int f_breaks, .ref r_marks]))] sz)) 0 0 (va_A [(h0, .inr (9, [.ref r_names, .int f_used, .int f_count, .int f_wrongClass, .int f_wrongMethod, .int f_wrongAt, .ref r_rows, .ref r_above, .ref r_fields, .ref r_methods, .ref r_codes, .ref r_handlers, .ref r_extra, .ref r_orders, .ref r_classNamed, .int f_breaks, .ref r_marks]))] sz) := by
  refine ofZ (by decide +kernel) (Nat.le_of_ble_eq_true rfl) ?_
  intro p e s m args below meth c A Q ls H locs G hsz hP hD hS hl hret
  subst hsz
  have hl : lv_has ls 2 [(0, .ref h0), (1, .int bt)] := hl
  refine lv_aload_n G.1 G.2.1 d_Wd_asks_0 rfl (lv_at hl 0 rfl) ?_
  refine kg (ci := 9) G iWd hP 0 rfl rfl 15 (by decide) q862 rfl rfl d_Wd_asks_1 ?_
  refine lv_iload_n G.1 G.2.1 d_Wd_asks_4 rfl (lv_at hl 1 rfl) ?_
  refine lv_ishr G.1 G.2.1 d_Wd_asks_5 ?_
  refine lv_iconst (v := nI 1) G.1 G.2.1 d_Wd_asks_6 (by decide) ?_
  refine lv_iand G.1 G.2.1 d_Wd_asks_7 ?_
  refine lv_if_ne (tgt := 15) G.1 G.2.1 d_Wd_asks_8 (by decide) (fun c8 => ?_) (fun c8 => ?_)
  · skip
    refine lv_iconst (v := nI 0) G.1 G.2.1 d_Wd_asks_15 (by decide) ?_
    refine hret (nI 0) () _ _ _ _ _ ls (by decide) (Or.inl rfl) (hP.sub [0] rfl) (hD.sub [0] (by decide) rfl) hS (Nat.le_of_ble_eq_true rfl) (Nat.le_of_ble_eq_true rfl) d_Wd_asks_16
  · skip
    refine lv_iconst (v := nI 1) G.1 G.2.1 d_Wd_asks_11 (by decide) ?_
    refine lv_goto (tgt := 16) G.1 G.2.1 d_Wd_asks_12 (by decide) ?_
    refine hret (nI 1) () _ _ _ _ _ ls (by decide) (Or.inr rfl) (hP.sub [0] rfl) (hD.sub [0] (by decide) rfl) hS (Nat.le_of_ble_eq_true rfl) (Nat.le_of_ble_eq_true rfl) d_Wd_asks_16
def y_Wd_below : MethodName := ⟨"ClassWorks$World", "below", "(II)Z"⟩
abbrev b_Wd_below : ByteArray := prog_11_method_23_code
theorem q833 : Cond.fieldLink "ClassWorks$World" 32 "ClassWorks$World" "above" "[J" ∈ lw_ok := lw_okmem (List.mem_of_getElem? (i := 833) (by decide +kernel)) rfl
theorem d_Wd_below_0 : decode b_Wd_below 0 = .ok (.aload_n 0, 1) := by decide +kernel
theorem d_Wd_below_1 : decode b_Wd_below 1 = .ok (.getfield 32, 3) := by decide +kernel
theorem d_Wd_below_4 : decode b_Wd_below 4 = .ok (.iload_n 1, 1) := by decide +kernel
theorem d_Wd_below_5 : decode b_Wd_below 5 = .ok (.laload, 1) := by decide +kernel
theorem d_Wd_below_6 : decode b_Wd_below 6 = .ok (.iload_n 2, 1) := by decide +kernel
theorem d_Wd_below_7 : decode b_Wd_below 7 = .ok (.lshr, 1) := by decide +kernel
theorem d_Wd_below_8 : decode b_Wd_below 8 = .ok (.lconst 1, 1) := by decide +kernel
theorem d_Wd_below_9 : decode b_Wd_below 9 = .ok (.land, 1) := by decide +kernel
theorem d_Wd_below_10 : decode b_Wd_below 10 = .ok (.lconst 0, 1) := by decide +kernel
theorem d_Wd_below_11 : decode b_Wd_below 11 = .ok (.lcmp, 1) := by decide +kernel
theorem d_Wd_below_12 : decode b_Wd_below 12 = .ok (.ifCond .eq 7, 3) := by decide +kernel
theorem d_Wd_below_15 : decode b_Wd_below 15 = .ok (.iconst 1, 1) := by decide +kernel
theorem d_Wd_below_16 : decode b_Wd_below 16 = .ok (.goto 4, 3) := by decide +kernel
theorem d_Wd_below_19 : decode b_Wd_below 19 = .ok (.iconst 0, 1) := by decide +kernel
theorem d_Wd_below_20 : decode b_Wd_below 20 = .ok (.ireturn, 1) := by decide +kernel
abbrev rm_Wd_below : Room := { frames := 0, cells := 0, slots := 0, locals := 0 }
set_option maxHeartbeats 4000000 in
set_option maxRecDepth 100000 in
/-- below -/
theorem c_Wd_below (l : Launch) (D : va_G) (g : Nat → ClassId) (h0 : Nat) (c9 : Nat) (x9 : Nat) (r_names : Nat) (f_used : Int32) (f_count : Int32) (f_wrongClass : Int32) (f_wrongMethod : Int32) (f_wrongAt : Int32) (r_rows : Nat) (r_above : Nat) (r_fields : Nat) (r_methods : Nat) (r_codes : Nat) (r_handlers : Nat) (r_extra : Nat) (r_orders : Nat) (r_classNamed : Nat) (f_breaks : Int32) (r_marks : Nat) (d_above : Nat → Int64) (sz : Nat) (hc : c9 < 51) : Met l y_Wd_below (mw y_Wd_below b_Wd_below 3 (some (.boolean))) (rm_Wd_below) (PC g D [] [.ref h0, .int (nI c9), .int (nI x9)] sz [(h0, .inr (9, [.ref r_names, .int f_used, .int f_count, .int f_wrongClass, .int f_wrongMethod, .int f_wrongAt, .ref r_rows, .ref r_above, .ref r_fields, .ref r_methods, .ref r_codes, .ref r_handlers, .ref r_extra, .ref r_orders, .ref r_classNamed, .int f_breaks, .ref r_marks])), (r_above, .inl (g 2, 51, .inr (.inl d_above)))]) (va_Qi (fun (r : Int32) (u : Unit) => r = 0 ∨ r = 1) (QW D (va_A [(h0, .inr (9, [.ref r_names, .int f_used, .int f_count, .int f_wrongClass, .int f_wrongMethod, .int f_wrongAt, .ref r_rows, .ref r_above, .ref r_fields, .ref r_methods, .ref r_codes, .ref r_handlers, .ref r_extra, .ref r_orders, .ref r_classNamed, .int f_breaks, .ref r_marks])), (r_above, .inl (g 2, 51, .inr (.inl d_above)))] sz) (fun u : Unit => [(h0, .inr (9, [.ref r_names, .int f_used, .int f_count, .int f_wrongClass, .int f_wrongMethod, .int f_wrongAt, .ref r_rows, .ref r_above, .ref r_fields, .ref r_methods, .ref r_codes, .ref r_handlers, .ref r_extra, .ref r_orders, .ref r_classNamed, .int f_breaks, .ref r_marks])), (r_above, .inl (g 2, 51, .inr (.inl d_above)))])) (va_A [(h0, .inr (9, [.ref r_names, .int f_used, .int f_count, .int f_wrongClass, .int f_wrongMethod, .int f_wrongAt, .ref r_rows, .ref r_above, .ref r_fields, .ref r_methods, .ref r_codes, .ref r_handlers, .ref r_extra, .ref r_orders, .ref r_classNamed, .int f_breaks, .ref r_marks])), (r_above, .inl (g 2, 51, .inr (.inl d_above)))] sz)) 0 0 (va_A [(h0, .inr (9, [.ref r_names, .int f_used, .int f_count, .int f_wrongClass, .int f_wrongMethod, .int f_wrongAt, .ref r_rows, .ref r_above, .ref r_fields, .ref r_methods, .ref r_codes, .ref r_handlers, .ref r_extra, .ref r_orders, .ref r_classNamed, .int f_breaks, .ref r_marks])), (r_above, .inl (g 2, 51, .inr (.inl d_above)))] sz) := by
  refine ofZ (by decide +kernel) (Nat.le_of_ble_eq_true rfl) ?_
  intro p e s m args below meth c A Q ls H locs G hsz hP hD hS hl hret
  subst hsz
  have hl : lv_has ls 3 [(0, .ref h0), (1, .int (nI c9)), (2, .int (nI x9))] := hl
  refine lv_aload_n G.1 G.2.1 d_Wd_below_0 rfl (lv_at hl 0 rfl) ?_
  refine kg (ci := 9) G iWd hP 0 rfl rfl 7 (by decide) q833 rfl rfl d_Wd_below_1 ?_
  refine lv_iload_n G.1 G.2.1 d_Wd_below_4 rfl (lv_at hl 1 rfl) ?_
  refine klald G hP 1 2 rfl rfl (by omega) (by omega) d_Wd_below_5 ?_
  refine lv_iload_n G.1 G.2.1 d_Wd_below_6 rfl (lv_at hl 2 rfl) ?_
  refine lv_lshr G.1 G.2.1 d_Wd_below_7 rfl ?_
  refine lv_lconst (v := 1) G.1 G.2.1 d_Wd_below_8 (by decide) ?_
  refine lv_land G.1 G.2.1 d_Wd_below_9 ?_
  refine lv_lconst (v := 0) G.1 G.2.1 d_Wd_below_10 (by decide) ?_
  refine W.lcmp G.1 G.2.1 d_Wd_below_11 ?_
  refine lv_topi (fun w9 hw9 => ?_)
  refine lv_if_eq (tgt := 19) G.1 G.2.1 d_Wd_below_12 (by decide) (fun c12 => ?_) (fun c12 => ?_)
  · skip
    refine W.eq (g2 := F0 m 19 ls []) rfl ?_
    refine lv_iconst (v := nI 0) G.1 G.2.1 d_Wd_below_19 (by decide) ?_
    refine hret (nI 0) () _ _ _ _ _ ls (by decide) (Or.inl rfl) (hP.sub [0, 1] rfl) (hD.sub [0, 1] (by decide) rfl) hS (Nat.le_of_ble_eq_true rfl) (Nat.le_of_ble_eq_true rfl) d_Wd_below_20
  · skip
    refine W.eq (g2 := F0 m 15 ls []) rfl ?_
    refine lv_iconst (v := nI 1) G.1 G.2.1 d_Wd_below_15 (by decide) ?_
    refine lv_goto (tgt := 20) G.1 G.2.1 d_Wd_below_16 (by decide) ?_
    refine hret (nI 1) () _ _ _ _ _ ls (by decide) (Or.inr rfl) (hP.sub [0, 1] rfl) (hD.sub [0, 1] (by decide) rfl) hS (Nat.le_of_ble_eq_true rfl) (Nat.le_of_ble_eq_true rfl) d_Wd_below_20
