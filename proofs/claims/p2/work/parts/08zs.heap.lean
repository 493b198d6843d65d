/-- what a reference's class can be: none, that of a row, or a number of a class -/
def hpC (v : Int32) : Prop := v = (-2) ∨ v = (-1) ∨ ∃ c : Nat, v = nI c ∧ c < 51
def HC (fk : Nat → Int32) : Prop := ∀ x : Nat, 1 ≤ x → x ≤ 800 → hpC (fk x)
/-- faults: 100 times the rule, and the class -/
def HF (s : Nat) (df : Nat → Int32) : Prop := ∀ j, j < s → ∃ a : Nat, df j = nI a ∧ a < 2 ^ 20 ∧ a % 100 < 51

def y_Hp_classOf : MethodName := ⟨"ClassWorks$Heap", "classOf", "(I)I"⟩
abbrev b_Hp_classOf : ByteArray := prog_4_method_6_code
theorem q931 : Cond.fieldLink "ClassWorks$Heap" 48 "ClassWorks$Heap" "faults" "LClassWorks$Ints;" ∈ lw_ok := lw_okmem (List.mem_of_getElem? (i := 931) (by decide +kernel)) rfl
theorem q392 : Cond.fieldLink "ClassWorks$Heap" 71 "ClassWorks$Ints" "size" "I" ∈ lw_ok := lw_okmem (List.mem_of_getElem? (i := 392) (by decide +kernel)) rfl
theorem q382 : Cond.fieldLink "ClassWorks$Heap" 84 "ClassWorks$Ints" "row" "[I" ∈ lw_ok := lw_okmem (List.mem_of_getElem? (i := 382) (by decide +kernel)) rfl
theorem d_Hp_classOf_0 : decode b_Hp_classOf 0 = .ok (.iload_n 1, 1) := by decide +kernel
theorem d_Hp_classOf_1 : decode b_Hp_classOf 1 = .ok (.sipush 1000, 3) := by decide +kernel
theorem d_Hp_classOf_4 : decode b_Hp_classOf 4 = .ok (.isub, 1) := by decide +kernel
theorem d_Hp_classOf_5 : decode b_Hp_classOf 5 = .ok (.iconst 1, 1) := by decide +kernel
theorem d_Hp_classOf_6 : decode b_Hp_classOf 6 = .ok (.isub, 1) := by decide +kernel
theorem d_Hp_classOf_7 : decode b_Hp_classOf 7 = .ok (.istore_n 2, 1) := by decide +kernel
theorem d_Hp_classOf_8 : decode b_Hp_classOf 8 = .ok (.iload_n 2, 1) := by decide +kernel
theorem d_Hp_classOf_9 : decode b_Hp_classOf 9 = .ok (.ifCond .lt 31, 3) := by decide +kernel
theorem d_Hp_classOf_12 : decode b_Hp_classOf 12 = .ok (.iload_n 2, 1) := by decide +kernel
theorem d_Hp_classOf_13 : decode b_Hp_classOf 13 = .ok (.aload_n 0, 1) := by decide +kernel
theorem d_Hp_classOf_14 : decode b_Hp_classOf 14 = .ok (.getfield 48, 3) := by decide +kernel
theorem d_Hp_classOf_17 : decode b_Hp_classOf 17 = .ok (.getfield 71, 3) := by decide +kernel
theorem d_Hp_classOf_20 : decode b_Hp_classOf 20 = .ok (.if_icmp .ge 18, 3) := by decide +kernel
theorem d_Hp_classOf_23 : decode b_Hp_classOf 23 = .ok (.aload_n 0, 1) := by decide +kernel
theorem d_Hp_classOf_24 : decode b_Hp_classOf 24 = .ok (.getfield 48, 3) := by decide +kernel
theorem d_Hp_classOf_27 : decode b_Hp_classOf 27 = .ok (.getfield 84, 3) := by decide +kernel
theorem d_Hp_classOf_30 : decode b_Hp_classOf 30 = .ok (.iload_n 2, 1) := by decide +kernel
theorem d_Hp_classOf_31 : decode b_Hp_classOf 31 = .ok (.iaload, 1) := by decide +kernel
theorem d_Hp_classOf_32 : decode b_Hp_classOf 32 = .ok (.bipush 100, 2) := by decide +kernel
theorem d_Hp_classOf_34 : decode b_Hp_classOf 34 = .ok (.irem, 1) := by decide +kernel
theorem d_Hp_classOf_35 : decode b_Hp_classOf 35 = .ok (.goto 4, 3) := by decide +kernel
theorem d_Hp_classOf_38 : decode b_Hp_classOf 38 = .ok (.iconst 0, 1) := by decide +kernel
theorem d_Hp_classOf_39 : decode b_Hp_classOf 39 = .ok (.ireturn, 1) := by decide +kernel
theorem d_Hp_classOf_40 : decode b_Hp_classOf 40 = .ok (.iload_n 1, 1) := by decide +kernel
theorem d_Hp_classOf_41 : decode b_Hp_classOf 41 = .ok (.iconst 1, 1) := by decide +kernel
theorem d_Hp_classOf_42 : decode b_Hp_classOf 42 = .ok (.if_icmp .lt 19, 3) := by decide +kernel
theorem d_Hp_classOf_45 : decode b_Hp_classOf 45 = .ok (.iload_n 1, 1) := by decide +kernel
theorem d_Hp_classOf_46 : decode b_Hp_classOf 46 = .ok (.sipush 800, 3) := by decide +kernel
theorem d_Hp_classOf_49 : decode b_Hp_classOf 49 = .ok (.if_icmp .gt 12, 3) := by decide +kernel
theorem d_Hp_classOf_52 : decode b_Hp_classOf 52 = .ok (.aload_n 0, 1) := by decide +kernel
theorem d_Hp_classOf_53 : decode b_Hp_classOf 53 = .ok (.getfield 9, 3) := by decide +kernel
theorem d_Hp_classOf_56 : decode b_Hp_classOf 56 = .ok (.iload_n 1, 1) := by decide +kernel
theorem d_Hp_classOf_57 : decode b_Hp_classOf 57 = .ok (.iaload, 1) := by decide +kernel
theorem d_Hp_classOf_58 : decode b_Hp_classOf 58 = .ok (.goto 4, 3) := by decide +kernel
theorem d_Hp_classOf_61 : decode b_Hp_classOf 61 = .ok (.iconst (-1), 1) := by decide +kernel
theorem d_Hp_classOf_62 : decode b_Hp_classOf 62 = .ok (.ireturn, 1) := by decide +kernel
abbrev rm_Hp_classOf : Room := { frames := 0, cells := 0, slots := 0, locals := 0 }
set_option maxHeartbeats 4000000 in
set_option maxRecDepth 100000 in
/-- classOf -/
theorem c_Hp_classOf (l : Launch) (D : va_G) (g : Nat → ClassId) (h0 : Nat) (rr : Int32) (r_kind : Nat) (r_base : Nat) (r_length : Nat) (r_data : Nat) (f_objects : Int32) (f_top : Int32) (r_lock : Nat) (r_spare : Nat) (f_leastFree : Int32) (f_highest : Int32) (r_faults : Nat) (r_faultLocks : Nat) (r_touched : Nat) (r_open : Nat) (f_opened : Int32) (d_kind : Nat → Int32) (i_faults : Nat) (s_faults : Nat) (c_faults : Nat) (d_faults : Nat → Int32) (sz : Nat) (hs_faults : s_faults ≤ c_faults) (hc_faults : c_faults < 2 ^ 24) (hC : HC d_kind) (hF : HF s_faults d_faults) : Met l y_Hp_classOf (mw y_Hp_classOf b_Hp_classOf 3 (some .int)) (rm_Hp_classOf) (PC g D [] [.ref h0, .int rr] sz [(h0, .inr (2, [.ref r_kind, .ref r_base, .ref r_length, .ref r_data, .int f_objects, .int f_top, .ref r_lock, .ref r_spare, .int f_leastFree, .int f_highest, .ref r_faults, .ref r_faultLocks, .ref r_touched, .ref r_open, .int f_opened])), (r_kind, .inl (g 0, 801, .inl d_kind)), (r_faults, .inr (3, [.ref i_faults, .int (nI s_faults)])), (i_faults, .inl (g 0, c_faults, .inl d_faults))]) (va_Qi (fun (r : Int32) (u : Unit) => hpC r) (QW D (va_A [(h0, .inr (2, [.ref r_kind, .ref r_base, .ref r_length, .ref r_data, .int f_objects, .int f_top, .ref r_lock, .ref r_spare, .int f_leastFree, .int f_highest, .ref r_faults, .ref r_faultLocks, .ref r_touched, .ref r_open, .int f_opened])), (r_kind, .inl (g 0, 801, .inl d_kind)), (r_faults, .inr (3, [.ref i_faults, .int (nI s_faults)])), (i_faults, .inl (g 0, c_faults, .inl d_faults))] sz) (fun u : Unit => [(h0, .inr (2, [.ref r_kind, .ref r_base, .ref r_length, .ref r_data, .int f_objects, .int f_top, .ref r_lock, .ref r_spare, .int f_leastFree, .int f_highest, .ref r_faults, .ref r_faultLocks, .ref r_touched, .ref r_open, .int f_opened])), (r_kind, .inl (g 0, 801, .inl d_kind)), (r_faults, .inr (3, [.ref i_faults, .int (nI s_faults)])), (i_faults, .inl (g 0, c_faults, .inl d_faults))])) (va_A [(h0, .inr (2, [.ref r_kind, .ref r_base, .ref r_length, .ref r_data, .int f_objects, .int f_top, .ref r_lock, .ref r_spare, .int f_leastFree, .int f_highest, .ref r_faults, .ref r_faultLocks, .ref r_touched, .ref r_open, .int f_opened])), (r_kind, .inl (g 0, 801, .inl d_kind)), (r_faults, .inr (3, [.ref i_faults, .int (nI s_faults)])), (i_faults, .inl (g 0, c_faults, .inl d_faults))] sz)) 0 0 (va_A [(h0, .inr (2, [.ref r_kind, .ref r_base, .ref r_length, .ref r_data, .int f_objects, .int f_top, .ref r_lock, .ref r_spare, .int f_leastFree, .int f_highest, .ref r_faults, .ref r_faultLocks, .ref r_touched, .ref r_open, .int f_opened])), (r_kind, .inl (g 0, 801, .inl d_kind)), (r_faults, .inr (3, [.ref i_faults, .int (nI s_faults)])), (i_faults, .inl (g 0, c_faults, .inl d_faults))] sz) := by
  refine ofI (by decide +kernel) (Nat.le_of_ble_eq_true rfl) ?_
  intro p e s m args below meth c A Q ls H locs G hsz hP hD hS hl hret
  subst hsz
  have hl : lv_has ls 3 [(0, .ref h0), (1, .int rr)] := hl
  refine lv_iload_n G.1 G.2.1 d_Hp_classOf_0 rfl (lv_at hl 1 rfl) ?_
  refine lv_sipush (v := nI 1000) G.1 G.2.1 d_Hp_classOf_1 (by decide) ?_
  refine lv_isub G.1 G.2.1 d_Hp_classOf_4 ?_
  refine lv_iconst (v := nI 1) G.1 G.2.1 d_Hp_classOf_5 (by decide) ?_
  refine lv_isub G.1 G.2.1 d_Hp_classOf_6 ?_
  refine lv_istore_n (lv' := [(2, .int ((rr - (nI 1000)) - (nI 1))), (0, .ref h0), (1, .int rr)]) G.1 G.2.1 d_Hp_classOf_7 rfl hl (by decide) rfl (fun ls hl => ?_)
  refine lv_iload_n G.1 G.2.1 d_Hp_classOf_8 rfl (lv_at hl 0 rfl) ?_
  refine lv_if_lt (tgt := 40) G.1 G.2.1 d_Hp_classOf_9 (by decide) (fun c9 => ?_) (fun c9 => ?_)
  · skip
    refine lv_iload_n G.1 G.2.1 d_Hp_classOf_40 rfl (lv_at hl 2 rfl) ?_
    refine lv_iconst (v := nI 1) G.1 G.2.1 d_Hp_classOf_41 (by decide) ?_
    refine lv_icmp_lt (tgt := 61) G.1 G.2.1 d_Hp_classOf_42 (by decide) (fun c42 => ?_) (fun c42 => ?_)
    · skip
      refine W.eq (g2 := F0 m 61 ls []) rfl ?_
      refine lv_iconst (v := (-1)) G.1 G.2.1 d_Hp_classOf_61 (by decide) ?_
      refine hret (-1) () _ _ _ _ _ ls (Or.inr (Or.inl rfl)) (hP.sub [0, 1, 2, 3] rfl) (hD.sub [0, 1, 2, 3] (by decide) rfl) hS (Nat.le_of_ble_eq_true rfl) (Nat.le_of_ble_eq_true rfl) d_Hp_classOf_62
    · skip
      refine W.eq (g2 := F0 m 45 ls []) rfl ?_
      refine lv_iload_n G.1 G.2.1 d_Hp_classOf_45 rfl (lv_at hl 2 rfl) ?_
      refine lv_sipush (v := nI 800) G.1 G.2.1 d_Hp_classOf_46 (by decide) ?_
      refine lv_icmp_gt (tgt := 61) G.1 G.2.1 d_Hp_classOf_49 (by decide) (fun c49 => ?_) (fun c49 => ?_)
      · skip
        refine lv_iconst (v := (-1)) G.1 G.2.1 d_Hp_classOf_61 (by decide) ?_
        refine hret (-1) () _ _ _ _ _ ls (Or.inr (Or.inl rfl)) (hP.sub [0, 1, 2, 3] rfl) (hD.sub [0, 1, 2, 3] (by decide) rfl) hS (Nat.le_of_ble_eq_true rfl) (Nat.le_of_ble_eq_true rfl) d_Hp_classOf_62
      · skip
        obtain ⟨x, hxr, hx1, hx2⟩ := i_range (by decide) (by decide) c42 c49
        refine lv_aload_n G.1 G.2.1 d_Hp_classOf_52 rfl (lv_at hl 1 rfl) ?_
        refine kg (ci := 2) G iHp hP 0 rfl rfl 0 (by decide) q913 rfl rfl d_Hp_classOf_53 ?_
        refine lv_iload_n G.1 G.2.1 d_Hp_classOf_56 rfl (lv_at hl 2 rfl) ?_
        refine tpi (w := nI x) hxr ?_
        refine kiald G hP 1 0 rfl rfl (by omega) (by omega) d_Hp_classOf_57 ?_
        refine lv_goto (tgt := 62) G.1 G.2.1 d_Hp_classOf_58 (by decide) ?_
        refine hret (d_kind x) () _ _ _ _ _ ls (hC x hx1 hx2) (hP.sub [0, 1, 2, 3] rfl) (hD.sub [0, 1, 2, 3] (by decide) rfl) hS (Nat.le_of_ble_eq_true rfl) (Nat.le_of_ble_eq_true rfl) d_Hp_classOf_62
  · skip
    refine lv_iload_n G.1 G.2.1 d_Hp_classOf_12 rfl (lv_at hl 0 rfl) ?_
    refine lv_aload_n G.1 G.2.1 d_Hp_classOf_13 rfl (lv_at hl 1 rfl) ?_
    refine kg (ci := 2) G iHp hP 0 rfl rfl 10 (by decide) q931 rfl rfl d_Hp_classOf_14 ?_
    refine W.eq (g2 := F0 m 17 ls [.ref r_faults, .int ((rr - (nI 1000)) - (nI 1))]) rfl ?_
    refine kg (ci := 3) G iIn hP 2 rfl rfl 1 (by decide) q392 rfl rfl d_Hp_classOf_17 ?_
    refine lv_icmp_ge (tgt := 38) G.1 G.2.1 d_Hp_classOf_20 (by decide) (fun c20 => ?_) (fun c20 => ?_)
    · skip
      refine lv_iconst (v := nI 0) G.1 G.2.1 d_Hp_classOf_38 (by decide) ?_
      refine hret (nI 0) () _ _ _ _ _ ls (Or.inr (Or.inr ⟨0, rfl, by decide⟩)) (hP.sub [0, 1, 2, 3] rfl) (hD.sub [0, 1, 2, 3] (by decide) rfl) hS (Nat.le_of_ble_eq_true rfl) (Nat.le_of_ble_eq_true rfl) d_Hp_classOf_39
    · skip
      obtain ⟨j, hj, hjn⟩ := i_below (by omega) c9 c20
      obtain ⟨a, ha, ha2, ha3⟩ := hF j hjn
      refine lv_aload_n G.1 G.2.1 d_Hp_classOf_23 rfl (lv_at hl 1 rfl) ?_
      refine kg (ci := 2) G iHp hP 0 rfl rfl 10 (by decide) q931 rfl rfl d_Hp_classOf_24 ?_
      refine kg (ci := 3) G iIn hP 2 rfl rfl 0 (by decide) q382 rfl rfl d_Hp_classOf_27 ?_
      refine lv_iload_n G.1 G.2.1 d_Hp_classOf_30 rfl (lv_at hl 0 rfl) ?_
      refine tpi (w := nI j) hj ?_
      refine kiald G hP 3 0 rfl rfl (by omega) (by omega) d_Hp_classOf_31 ?_
      refine tpi (w := nI a) ha ?_
      refine lv_bipush (v := nI 100) G.1 G.2.1 d_Hp_classOf_32 (by decide) ?_
      refine lv_irem G.1 G.2.1 d_Hp_classOf_34 (by decide) ?_
      refine tpi (w := nI (a % 100)) (pk_rem (by omega) (by decide) (by decide)) ?_
      refine lv_goto (tgt := 39) G.1 G.2.1 d_Hp_classOf_35 (by decide) ?_
      refine hret (nI (a % 100)) () _ _ _ _ _ ls (Or.inr (Or.inr ⟨a % 100, rfl, ha3⟩)) (hP.sub [0, 1, 2, 3] rfl) (hD.sub [0, 1, 2, 3] (by decide) rfl) hS (Nat.le_of_ble_eq_true rfl) (Nat.le_of_ble_eq_true rfl) d_Hp_classOf_39
def y_Hp_ruleOf : MethodName := ⟨"ClassWorks$Heap", "ruleOf", "(I)I"⟩
abbrev b_Hp_ruleOf : ByteArray := prog_4_method_7_code
theorem d_Hp_ruleOf_0 : decode b_Hp_ruleOf 0 = .ok (.iload_n 1, 1) := by decide +kernel
theorem d_Hp_ruleOf_1 : decode b_Hp_ruleOf 1 = .ok (.sipush 1000, 3) := by decide +kernel
theorem d_Hp_ruleOf_4 : decode b_Hp_ruleOf 4 = .ok (.isub, 1) := by decide +kernel
theorem d_Hp_ruleOf_5 : decode b_Hp_ruleOf 5 = .ok (.iconst 1, 1) := by decide +kernel
theorem d_Hp_ruleOf_6 : decode b_Hp_ruleOf 6 = .ok (.isub, 1) := by decide +kernel
theorem d_Hp_ruleOf_7 : decode b_Hp_ruleOf 7 = .ok (.istore_n 2, 1) := by decide +kernel
theorem d_Hp_ruleOf_8 : decode b_Hp_ruleOf 8 = .ok (.iload_n 2, 1) := by decide +kernel
theorem d_Hp_ruleOf_9 : decode b_Hp_ruleOf 9 = .ok (.ifCond .lt 29, 3) := by decide +kernel
theorem d_Hp_ruleOf_12 : decode b_Hp_ruleOf 12 = .ok (.iload_n 2, 1) := by decide +kernel
theorem d_Hp_ruleOf_13 : decode b_Hp_ruleOf 13 = .ok (.aload_n 0, 1) := by decide +kernel
theorem d_Hp_ruleOf_14 : decode b_Hp_ruleOf 14 = .ok (.getfield 48, 3) := by decide +kernel
theorem d_Hp_ruleOf_17 : decode b_Hp_ruleOf 17 = .ok (.getfield 71, 3) := by decide +kernel
theorem d_Hp_ruleOf_20 : decode b_Hp_ruleOf 20 = .ok (.if_icmp .ge 18, 3) := by decide +kernel
theorem d_Hp_ruleOf_23 : decode b_Hp_ruleOf 23 = .ok (.aload_n 0, 1) := by decide +kernel
theorem d_Hp_ruleOf_24 : decode b_Hp_ruleOf 24 = .ok (.getfield 48, 3) := by decide +kernel
theorem d_Hp_ruleOf_27 : decode b_Hp_ruleOf 27 = .ok (.getfield 84, 3) := by decide +kernel
theorem d_Hp_ruleOf_30 : decode b_Hp_ruleOf 30 = .ok (.iload_n 2, 1) := by decide +kernel
theorem d_Hp_ruleOf_31 : decode b_Hp_ruleOf 31 = .ok (.iaload, 1) := by decide +kernel
theorem d_Hp_ruleOf_32 : decode b_Hp_ruleOf 32 = .ok (.bipush 100, 2) := by decide +kernel
theorem d_Hp_ruleOf_34 : decode b_Hp_ruleOf 34 = .ok (.idiv, 1) := by decide +kernel
theorem d_Hp_ruleOf_35 : decode b_Hp_ruleOf 35 = .ok (.goto 4, 3) := by decide +kernel
theorem d_Hp_ruleOf_38 : decode b_Hp_ruleOf 38 = .ok (.iconst 0, 1) := by decide +kernel
theorem d_Hp_ruleOf_39 : decode b_Hp_ruleOf 39 = .ok (.ireturn, 1) := by decide +kernel
abbrev rm_Hp_ruleOf : Room := { frames := 0, cells := 0, slots := 0, locals := 0 }
set_option maxHeartbeats 4000000 in
set_option maxRecDepth 100000 in
/-- ruleOf -/
theorem c_Hp_ruleOf (l : Launch) (D : va_G) (g : Nat → ClassId) (h0 : Nat) (rr : Int32) (r_kind : Nat) (r_base : Nat) (r_length : Nat) (r_data : Nat) (f_objects : Int32) (f_top : Int32) (r_lock : Nat) (r_spare : Nat) (f_leastFree : Int32) (f_highest : Int32) (r_faults : Nat) (r_faultLocks : Nat) (r_touched : Nat) (r_open : Nat) (f_opened : Int32) (i_faults : Nat) (s_faults : Nat) (c_faults : Nat) (d_faults : Nat → Int32) (sz : Nat) (hs_faults : s_faults ≤ c_faults) (hc_faults : c_faults < 2 ^ 24) : Met l y_Hp_ruleOf (mw y_Hp_ruleOf b_Hp_ruleOf 3 (some .int)) (rm_Hp_ruleOf) (PC g D [] [.ref h0, .int rr] sz [(h0, .inr (2, [.ref r_kind, .ref r_base, .ref r_length, .ref r_data, .int f_objects, .int f_top, .ref r_lock, .ref r_spare, .int f_leastFree, .int f_highest, .ref r_faults, .ref r_faultLocks, .ref r_touched, .ref r_open, .int f_opened])), (r_faults, .inr (3, [.ref i_faults, .int (nI s_faults)])), (i_faults, .inl (g 0, c_faults, .inl d_faults))]) (va_Qi (fun (r : Int32) (u : Unit) => True) (QW D (va_A [(h0, .inr (2, [.ref r_kind, .ref r_base, .ref r_length, .ref r_data, .int f_objects, .int f_top, .ref r_lock, .ref r_spare, .int f_leastFree, .int f_highest, .ref r_faults, .ref r_faultLocks, .ref r_touched, .ref r_open, .int f_opened])), (r_faults, .inr (3, [.ref i_faults, .int (nI s_faults)])), (i_faults, .inl (g 0, c_faults, .inl d_faults))] sz) (fun u : Unit => [(h0, .inr (2, [.ref r_kind, .ref r_base, .ref r_length, .ref r_data, .int f_objects, .int f_top, .ref r_lock, .ref r_spare, .int f_leastFree, .int f_highest, .ref r_faults, .ref r_faultLocks, .ref r_touched, .ref r_open, .int f_opened])), (r_faults, .inr (3, [.ref i_faults, .int (nI s_faults)])), (i_faults, .inl (g 0, c_faults, .inl d_faults))])) (va_A [(h0, .inr (2, [.ref r_kind, .ref r_base, .ref r_length, .ref r_data, .int f_objects, .int f_top, .ref r_lock, .ref r_spare, .int f_leastFree, .int f_highest, .ref r_faults, .ref r_faultLocks, .ref r_touched, .ref r_open, .int f_opened])), (r_faults, .inr (3, [.ref i_faults, .int (nI s_faults)])), (i_faults, .inl (g 0, c_faults, .inl d_faults))] sz)) 0 0 (va_A [(h0, .inr (2, [.ref r_kind, .ref r_base, .ref r_length, .ref r_data, .int f_objects, .int f_top, .ref r_lock, .ref r_spare, .int f_leastFree, .int f_highest, .ref r_faults, .ref r_faultLocks, .ref r_touched, .ref r_open, .int f_opened])), (r_faults, .inr (3, [.ref i_faults, .int (nI s_faults)])), (i_faults, .inl (g 0, c_faults, .inl d_faults))] sz) := by
  refine ofI (by decide +kernel) (Nat.le_of_ble_eq_true rfl) ?_
  intro p e s m args below meth c A Q ls H locs G hsz hP hD hS hl hret
  subst hsz
  have hl : lv_has ls 3 [(0, .ref h0), (1, .int rr)] := hl
  refine lv_iload_n G.1 G.2.1 d_Hp_ruleOf_0 rfl (lv_at hl 1 rfl) ?_
  refine lv_sipush (v := nI 1000) G.1 G.2.1 d_Hp_ruleOf_1 (by decide) ?_
  refine lv_isub G.1 G.2.1 d_Hp_ruleOf_4 ?_
  refine lv_iconst (v := nI 1) G.1 G.2.1 d_Hp_ruleOf_5 (by decide) ?_
  refine lv_isub G.1 G.2.1 d_Hp_ruleOf_6 ?_
  refine lv_istore_n (lv' := [(2, .int ((rr - (nI 1000)) - (nI 1))), (0, .ref h0), (1, .int rr)]) G.1 G.2.1 d_Hp_ruleOf_7 rfl hl (by decide) rfl (fun ls hl => ?_)
  refine lv_iload_n G.1 G.2.1 d_Hp_ruleOf_8 rfl (lv_at hl 0 rfl) ?_
  refine lv_if_lt (tgt := 38) G.1 G.2.1 d_Hp_ruleOf_9 (by decide) (fun c9 => ?_) (fun c9 => ?_)
  · skip
    refine lv_iconst (v := nI 0) G.1 G.2.1 d_Hp_ruleOf_38 (by decide) ?_
    refine hret (nI 0) () _ _ _ _ _ ls trivial (hP.sub [0, 1, 2] rfl) (hD.sub [0, 1, 2] (by decide) rfl) hS (Nat.le_of_ble_eq_true rfl) (Nat.le_of_ble_eq_true rfl) d_Hp_ruleOf_39
  · skip
    refine lv_iload_n G.1 G.2.1 d_Hp_ruleOf_12 rfl (lv_at hl 0 rfl) ?_
    refine lv_aload_n G.1 G.2.1 d_Hp_ruleOf_13 rfl (lv_at hl 1 rfl) ?_
    refine kg (ci := 2) G iHp hP 0 rfl rfl 10 (by decide) q931 rfl rfl d_Hp_ruleOf_14 ?_
    refine W.eq (g2 := F0 m 17 ls [.ref r_faults, .int ((rr - (nI 1000)) - (nI 1))]) rfl ?_
    refine kg (ci := 3) G iIn hP 1 rfl rfl 1 (by decide) q392 rfl rfl d_Hp_ruleOf_17 ?_
    refine lv_icmp_ge (tgt := 38) G.1 G.2.1 d_Hp_ruleOf_20 (by decide) (fun c20 => ?_) (fun c20 => ?_)
    · skip
      refine lv_iconst (v := nI 0) G.1 G.2.1 d_Hp_ruleOf_38 (by decide) ?_
      refine hret (nI 0) () _ _ _ _ _ ls trivial (hP.sub [0, 1, 2] rfl) (hD.sub [0, 1, 2] (by decide) rfl) hS (Nat.le_of_ble_eq_true rfl) (Nat.le_of_ble_eq_true rfl) d_Hp_ruleOf_39
    · skip
      obtain ⟨j, hj, hjn⟩ := i_below (by omega) c9 c20
      refine lv_aload_n G.1 G.2.1 d_Hp_ruleOf_23 rfl (lv_at hl 1 rfl) ?_
      refine kg (ci := 2) G iHp hP 0 rfl rfl 10 (by decide) q931 rfl rfl d_Hp_ruleOf_24 ?_
      refine kg (ci := 3) G iIn hP 1 rfl rfl 0 (by decide) q382 rfl rfl d_Hp_ruleOf_27 ?_
      refine lv_iload_n G.1 G.2.1 d_Hp_ruleOf_30 rfl (lv_at hl 0 rfl) ?_
      refine tpi (w := nI j) hj ?_
      refine kiald G hP 2 0 rfl rfl (by omega) (by omega) d_Hp_ruleOf_31 ?_
      refine lv_bipush (v := nI 100) G.1 G.2.1 d_Hp_ruleOf_32 (by decide) ?_
      refine lv_idiv G.1 G.2.1 d_Hp_ruleOf_34 (by decide) ?_
      refine lv_goto (tgt := 39) G.1 G.2.1 d_Hp_ruleOf_35 (by decide) ?_
      refine hret ((d_faults j) / (nI 100)) () _ _ _ _ _ ls trivial (hP.sub [0, 1, 2] rfl) (hD.sub [0, 1, 2] (by decide) rfl) hS (Nat.le_of_ble_eq_true rfl) (Nat.le_of_ble_eq_true rfl) d_Hp_ruleOf_39
def y_Hp_lockOf : MethodName := ⟨"ClassWorks$Heap", "lockOf", "(I)I"⟩
abbrev b_Hp_lockOf : ByteArray := prog_4_method_8_code
theorem q927 : Cond.fieldLink "ClassWorks$Heap" 31 "ClassWorks$Heap" "lock" "[I" ∈ lw_ok := lw_okmem (List.mem_of_getElem? (i := 927) (by decide +kernel)) rfl
theorem q932 : Cond.fieldLink "ClassWorks$Heap" 52 "ClassWorks$Heap" "faultLocks" "LClassWorks$Ints;" ∈ lw_ok := lw_okmem (List.mem_of_getElem? (i := 932) (by decide +kernel)) rfl
theorem d_Hp_lockOf_0 : decode b_Hp_lockOf 0 = .ok (.iload_n 1, 1) := by decide +kernel
theorem d_Hp_lockOf_1 : decode b_Hp_lockOf 1 = .ok (.sipush 1000, 3) := by decide +kernel
theorem d_Hp_lockOf_4 : decode b_Hp_lockOf 4 = .ok (.isub, 1) := by decide +kernel
theorem d_Hp_lockOf_5 : decode b_Hp_lockOf 5 = .ok (.iconst 1, 1) := by decide +kernel
theorem d_Hp_lockOf_6 : decode b_Hp_lockOf 6 = .ok (.isub, 1) := by decide +kernel
theorem d_Hp_lockOf_7 : decode b_Hp_lockOf 7 = .ok (.istore_n 2, 1) := by decide +kernel
theorem d_Hp_lockOf_8 : decode b_Hp_lockOf 8 = .ok (.iload_n 2, 1) := by decide +kernel
theorem d_Hp_lockOf_9 : decode b_Hp_lockOf 9 = .ok (.ifCond .lt 28, 3) := by decide +kernel
theorem d_Hp_lockOf_12 : decode b_Hp_lockOf 12 = .ok (.iload_n 2, 1) := by decide +kernel
theorem d_Hp_lockOf_13 : decode b_Hp_lockOf 13 = .ok (.aload_n 0, 1) := by decide +kernel
theorem d_Hp_lockOf_14 : decode b_Hp_lockOf 14 = .ok (.getfield 52, 3) := by decide +kernel
theorem d_Hp_lockOf_17 : decode b_Hp_lockOf 17 = .ok (.getfield 71, 3) := by decide +kernel
theorem d_Hp_lockOf_20 : decode b_Hp_lockOf 20 = .ok (.if_icmp .ge 15, 3) := by decide +kernel
theorem d_Hp_lockOf_23 : decode b_Hp_lockOf 23 = .ok (.aload_n 0, 1) := by decide +kernel
theorem d_Hp_lockOf_24 : decode b_Hp_lockOf 24 = .ok (.getfield 52, 3) := by decide +kernel
theorem d_Hp_lockOf_27 : decode b_Hp_lockOf 27 = .ok (.getfield 84, 3) := by decide +kernel
theorem d_Hp_lockOf_30 : decode b_Hp_lockOf 30 = .ok (.iload_n 2, 1) := by decide +kernel
theorem d_Hp_lockOf_31 : decode b_Hp_lockOf 31 = .ok (.iaload, 1) := by decide +kernel
theorem d_Hp_lockOf_32 : decode b_Hp_lockOf 32 = .ok (.goto 4, 3) := by decide +kernel
theorem d_Hp_lockOf_35 : decode b_Hp_lockOf 35 = .ok (.iconst 0, 1) := by decide +kernel
theorem d_Hp_lockOf_36 : decode b_Hp_lockOf 36 = .ok (.ireturn, 1) := by decide +kernel
theorem d_Hp_lockOf_37 : decode b_Hp_lockOf 37 = .ok (.iload_n 1, 1) := by decide +kernel
theorem d_Hp_lockOf_38 : decode b_Hp_lockOf 38 = .ok (.iconst 1, 1) := by decide +kernel
theorem d_Hp_lockOf_39 : decode b_Hp_lockOf 39 = .ok (.if_icmp .lt 19, 3) := by decide +kernel
theorem d_Hp_lockOf_42 : decode b_Hp_lockOf 42 = .ok (.iload_n 1, 1) := by decide +kernel
theorem d_Hp_lockOf_43 : decode b_Hp_lockOf 43 = .ok (.sipush 800, 3) := by decide +kernel
theorem d_Hp_lockOf_46 : decode b_Hp_lockOf 46 = .ok (.if_icmp .gt 12, 3) := by decide +kernel
theorem d_Hp_lockOf_49 : decode b_Hp_lockOf 49 = .ok (.aload_n 0, 1) := by decide +kernel
theorem d_Hp_lockOf_50 : decode b_Hp_lockOf 50 = .ok (.getfield 31, 3) := by decide +kernel
theorem d_Hp_lockOf_53 : decode b_Hp_lockOf 53 = .ok (.iload_n 1, 1) := by decide +kernel
theorem d_Hp_lockOf_54 : decode b_Hp_lockOf 54 = .ok (.iaload, 1) := by decide +kernel
theorem d_Hp_lockOf_55 : decode b_Hp_lockOf 55 = .ok (.goto 4, 3) := by decide +kernel
theorem d_Hp_lockOf_58 : decode b_Hp_lockOf 58 = .ok (.iconst 0, 1) := by decide +kernel
theorem d_Hp_lockOf_59 : decode b_Hp_lockOf 59 = .ok (.ireturn, 1) := by decide +kernel
abbrev rm_Hp_lockOf : Room := { frames := 0, cells := 0, slots := 0, locals := 0 }
set_option maxHeartbeats 4000000 in
set_option maxRecDepth 100000 in
/-- lockOf -/
theorem c_Hp_lockOf (l : Launch) (D : va_G) (g : Nat → ClassId) (h0 : Nat) (rr : Int32) (r_kind : Nat) (r_base : Nat) (r_length : Nat) (r_data : Nat) (f_objects : Int32) (f_top : Int32) (r_lock : Nat) (r_spare : Nat) (f_leastFree : Int32) (f_highest : Int32) (r_faults : Nat) (r_faultLocks : Nat) (r_touched : Nat) (r_open : Nat) (f_opened : Int32) (d_lock : Nat → Int32) (i_faultLocks : Nat) (s_faultLocks : Nat) (c_faultLocks : Nat) (d_faultLocks : Nat → Int32) (sz : Nat) (hs_faultLocks : s_faultLocks ≤ c_faultLocks) (hc_faultLocks : c_faultLocks < 2 ^ 24) : Met l y_Hp_lockOf (mw y_Hp_lockOf b_Hp_lockOf 3 (some .int)) (rm_Hp_lockOf) (PC g D [] [.ref h0, .int rr] sz [(h0, .inr (2, [.ref r_kind, .ref r_base, .ref r_length, .ref r_data, .int f_objects, .int f_top, .ref r_lock, .ref r_spare, .int f_leastFree, .int f_highest, .ref r_faults, .ref r_faultLocks, .ref r_touched, .ref r_open, .int f_opened])), (r_lock, .inl (g 0, 801, .inl d_lock)), (r_faultLocks, .inr (3, [.ref i_faultLocks, .int (nI s_faultLocks)])), (i_faultLocks, .inl (g 0, c_faultLocks, .inl d_faultLocks))]) (va_Qi (fun (r : Int32) (u : Unit) => True) (QW D (va_A [(h0, .inr (2, [.ref r_kind, .ref r_base, .ref r_length, .ref r_data, .int f_objects, .int f_top, .ref r_lock, .ref r_spare, .int f_leastFree, .int f_highest, .ref r_faults, .ref r_faultLocks, .ref r_touched, .ref r_open, .int f_opened])), (r_lock, .inl (g 0, 801, .inl d_lock)), (r_faultLocks, .inr (3, [.ref i_faultLocks, .int (nI s_faultLocks)])), (i_faultLocks, .inl (g 0, c_faultLocks, .inl d_faultLocks))] sz) (fun u : Unit => [(h0, .inr (2, [.ref r_kind, .ref r_base, .ref r_length, .ref r_data, .int f_objects, .int f_top, .ref r_lock, .ref r_spare, .int f_leastFree, .int f_highest, .ref r_faults, .ref r_faultLocks, .ref r_touched, .ref r_open, .int f_opened])), (r_lock, .inl (g 0, 801, .inl d_lock)), (r_faultLocks, .inr (3, [.ref i_faultLocks, .int (nI s_faultLocks)])), (i_faultLocks, .inl (g 0, c_faultLocks, .inl d_faultLocks))])) (va_A [(h0, .inr (2, [.ref r_kind, .ref r_base, .ref r_length, .ref r_data, .int f_objects, .int f_top, .ref r_lock, .ref r_spare, .int f_leastFree, .int f_highest, .ref r_faults, .ref r_faultLocks, .ref r_touched, .ref r_open, .int f_opened])), (r_lock, .inl (g 0, 801, .inl d_lock)), (r_faultLocks, .inr (3, [.ref i_faultLocks, .int (nI s_faultLocks)])), (i_faultLocks, .inl (g 0, c_faultLocks, .inl d_faultLocks))] sz)) 0 0 (va_A [(h0, .inr (2, [.ref r_kind, .ref r_base, .ref r_length, .ref r_data, .int f_objects, .int f_top, .ref r_lock, .ref r_spare, .int f_leastFree, .int f_highest, .ref r_faults, .ref r_faultLocks, .ref r_touched, .ref r_open, .int f_opened])), (r_lock, .inl (g 0, 801, .inl d_lock)), (r_faultLocks, .inr (3, [.ref i_faultLocks, .int (nI s_faultLocks)])), (i_faultLocks, .inl (g 0, c_faultLocks, .inl d_faultLocks))] sz) := by
  refine ofI (by decide +kernel) (Nat.le_of_ble_eq_true rfl) ?_
  intro p e s m args below meth c A Q ls H locs G hsz hP hD hS hl hret
  subst hsz
  have hl : lv_has ls 3 [(0, .ref h0), (1, .int rr)] := hl
  refine lv_iload_n G.1 G.2.1 d_Hp_lockOf_0 rfl (lv_at hl 1 rfl) ?_
  refine lv_sipush (v := nI 1000) G.1 G.2.1 d_Hp_lockOf_1 (by decide) ?_
  refine lv_isub G.1 G.2.1 d_Hp_lockOf_4 ?_
  refine lv_iconst (v := nI 1) G.1 G.2.1 d_Hp_lockOf_5 (by decide) ?_
  refine lv_isub G.1 G.2.1 d_Hp_lockOf_6 ?_
  refine lv_istore_n (lv' := [(2, .int ((rr - (nI 1000)) - (nI 1))), (0, .ref h0), (1, .int rr)]) G.1 G.2.1 d_Hp_lockOf_7 rfl hl (by decide) rfl (fun ls hl => ?_)
  refine lv_iload_n G.1 G.2.1 d_Hp_lockOf_8 rfl (lv_at hl 0 rfl) ?_
  refine lv_if_lt (tgt := 37) G.1 G.2.1 d_Hp_lockOf_9 (by decide) (fun c9 => ?_) (fun c9 => ?_)
  · skip
    refine lv_iload_n G.1 G.2.1 d_Hp_lockOf_37 rfl (lv_at hl 2 rfl) ?_
    refine lv_iconst (v := nI 1) G.1 G.2.1 d_Hp_lockOf_38 (by decide) ?_
    refine lv_icmp_lt (tgt := 58) G.1 G.2.1 d_Hp_lockOf_39 (by decide) (fun c39 => ?_) (fun c39 => ?_)
    · skip
      refine W.eq (g2 := F0 m 58 ls []) rfl ?_
      refine lv_iconst (v := nI 0) G.1 G.2.1 d_Hp_lockOf_58 (by decide) ?_
      refine hret (nI 0) () _ _ _ _ _ ls trivial (hP.sub [0, 1, 2, 3] rfl) (hD.sub [0, 1, 2, 3] (by decide) rfl) hS (Nat.le_of_ble_eq_true rfl) (Nat.le_of_ble_eq_true rfl) d_Hp_lockOf_59
    · skip
      refine W.eq (g2 := F0 m 42 ls []) rfl ?_
      refine lv_iload_n G.1 G.2.1 d_Hp_lockOf_42 rfl (lv_at hl 2 rfl) ?_
      refine lv_sipush (v := nI 800) G.1 G.2.1 d_Hp_lockOf_43 (by decide) ?_
      refine lv_icmp_gt (tgt := 58) G.1 G.2.1 d_Hp_lockOf_46 (by decide) (fun c46 => ?_) (fun c46 => ?_)
      · skip
        refine lv_iconst (v := nI 0) G.1 G.2.1 d_Hp_lockOf_58 (by decide) ?_
        refine hret (nI 0) () _ _ _ _ _ ls trivial (hP.sub [0, 1, 2, 3] rfl) (hD.sub [0, 1, 2, 3] (by decide) rfl) hS (Nat.le_of_ble_eq_true rfl) (Nat.le_of_ble_eq_true rfl) d_Hp_lockOf_59
      · skip
        obtain ⟨x, hxr, hx1, hx2⟩ := i_range (by decide) (by decide) c39 c46
        refine lv_aload_n G.1 G.2.1 d_Hp_lockOf_49 rfl (lv_at hl 1 rfl) ?_
        refine kg (ci := 2) G iHp hP 0 rfl rfl 6 (by decide) q927 rfl rfl d_Hp_lockOf_50 ?_
        refine lv_iload_n G.1 G.2.1 d_Hp_lockOf_53 rfl (lv_at hl 2 rfl) ?_
        refine tpi (w := nI x) hxr ?_
        refine kiald G hP 1 0 rfl rfl (by omega) (by omega) d_Hp_lockOf_54 ?_
        refine lv_goto (tgt := 59) G.1 G.2.1 d_Hp_lockOf_55 (by decide) ?_
        refine hret (d_lock x) () _ _ _ _ _ ls trivial (hP.sub [0, 1, 2, 3] rfl) (hD.sub [0, 1, 2, 3] (by decide) rfl) hS (Nat.le_of_ble_eq_true rfl) (Nat.le_of_ble_eq_true rfl) d_Hp_lockOf_59
  · skip
    refine lv_iload_n G.1 G.2.1 d_Hp_lockOf_12 rfl (lv_at hl 0 rfl) ?_
    refine lv_aload_n G.1 G.2.1 d_Hp_lockOf_13 rfl (lv_at hl 1 rfl) ?_
    refine kg (ci := 2) G iHp hP 0 rfl rfl 11 (by decide) q932 rfl rfl d_Hp_lockOf_14 ?_
    refine W.eq (g2 := F0 m 17 ls [.ref r_faultLocks, .int ((rr - (nI 1000)) - (nI 1))]) rfl ?_
    refine kg (ci := 3) G iIn hP 2 rfl rfl 1 (by decide) q392 rfl rfl d_Hp_lockOf_17 ?_
    refine lv_icmp_ge (tgt := 35) G.1 G.2.1 d_Hp_lockOf_20 (by decide) (fun c20 => ?_) (fun c20 => ?_)
    · skip
      refine lv_iconst (v := nI 0) G.1 G.2.1 d_Hp_lockOf_35 (by decide) ?_
      refine hret (nI 0) () _ _ _ _ _ ls trivial (hP.sub [0, 1, 2, 3] rfl) (hD.sub [0, 1, 2, 3] (by decide) rfl) hS (Nat.le_of_ble_eq_true rfl) (Nat.le_of_ble_eq_true rfl) d_Hp_lockOf_36
    · skip
      obtain ⟨j, hj, hjn⟩ := i_below (by omega) c9 c20
      refine lv_aload_n G.1 G.2.1 d_Hp_lockOf_23 rfl (lv_at hl 1 rfl) ?_
      refine kg (ci := 2) G iHp hP 0 rfl rfl 11 (by decide) q932 rfl rfl d_Hp_lockOf_24 ?_
      refine kg (ci := 3) G iIn hP 2 rfl rfl 0 (by decide) q382 rfl rfl d_Hp_lockOf_27 ?_
      refine lv_iload_n G.1 G.2.1 d_Hp_lockOf_30 rfl (lv_at hl 0 rfl) ?_
      refine tpi (w := nI j) hj ?_
      refine kiald G hP 3 0 rfl rfl (by omega) (by omega) d_Hp_lockOf_31 ?_
      refine lv_goto (tgt := 36) G.1 G.2.1 d_Hp_lockOf_32 (by decide) ?_
      refine hret (d_faultLocks j) () _ _ _ _ _ ls trivial (hP.sub [0, 1, 2, 3] rfl) (hD.sub [0, 1, 2, 3] (by decide) rfl) hS (Nat.le_of_ble_eq_true rfl) (Nat.le_of_ble_eq_true rfl) d_Hp_lockOf_36
def y_Hp_setLock : MethodName := ⟨"ClassWorks$Heap", "setLock", "(II)V"⟩
abbrev b_Hp_setLock : ByteArray := prog_4_method_9_code
theorem d_Hp_setLock_0 : decode b_Hp_setLock 0 = .ok (.iload_n 1, 1) := by decide +kernel
theorem d_Hp_setLock_1 : decode b_Hp_setLock 1 = .ok (.sipush 1000, 3) := by decide +kernel
theorem d_Hp_setLock_4 : decode b_Hp_setLock 4 = .ok (.isub, 1) := by decide +kernel
theorem d_Hp_setLock_5 : decode b_Hp_setLock 5 = .ok (.iconst 1, 1) := by decide +kernel
theorem d_Hp_setLock_6 : decode b_Hp_setLock 6 = .ok (.isub, 1) := by decide +kernel
theorem d_Hp_setLock_7 : decode b_Hp_setLock 7 = .ok (.istore_n 3, 1) := by decide +kernel
theorem d_Hp_setLock_8 : decode b_Hp_setLock 8 = .ok (.iload_n 3, 1) := by decide +kernel
theorem d_Hp_setLock_9 : decode b_Hp_setLock 9 = .ok (.ifCond .lt 27, 3) := by decide +kernel
theorem d_Hp_setLock_12 : decode b_Hp_setLock 12 = .ok (.iload_n 3, 1) := by decide +kernel
theorem d_Hp_setLock_13 : decode b_Hp_setLock 13 = .ok (.aload_n 0, 1) := by decide +kernel
theorem d_Hp_setLock_14 : decode b_Hp_setLock 14 = .ok (.getfield 52, 3) := by decide +kernel
theorem d_Hp_setLock_17 : decode b_Hp_setLock 17 = .ok (.getfield 71, 3) := by decide +kernel
theorem d_Hp_setLock_20 : decode b_Hp_setLock 20 = .ok (.if_icmp .ge 16, 3) := by decide +kernel
theorem d_Hp_setLock_23 : decode b_Hp_setLock 23 = .ok (.aload_n 0, 1) := by decide +kernel
theorem d_Hp_setLock_24 : decode b_Hp_setLock 24 = .ok (.getfield 52, 3) := by decide +kernel
theorem d_Hp_setLock_27 : decode b_Hp_setLock 27 = .ok (.getfield 84, 3) := by decide +kernel
theorem d_Hp_setLock_30 : decode b_Hp_setLock 30 = .ok (.iload_n 3, 1) := by decide +kernel
theorem d_Hp_setLock_31 : decode b_Hp_setLock 31 = .ok (.iload_n 2, 1) := by decide +kernel
theorem d_Hp_setLock_32 : decode b_Hp_setLock 32 = .ok (.iastore, 1) := by decide +kernel
theorem d_Hp_setLock_33 : decode b_Hp_setLock 33 = .ok (.goto 22, 3) := by decide +kernel
theorem d_Hp_setLock_36 : decode b_Hp_setLock 36 = .ok (.iload_n 1, 1) := by decide +kernel
theorem d_Hp_setLock_37 : decode b_Hp_setLock 37 = .ok (.iconst 1, 1) := by decide +kernel
theorem d_Hp_setLock_38 : decode b_Hp_setLock 38 = .ok (.if_icmp .lt 17, 3) := by decide +kernel
theorem d_Hp_setLock_41 : decode b_Hp_setLock 41 = .ok (.iload_n 1, 1) := by decide +kernel
theorem d_Hp_setLock_42 : decode b_Hp_setLock 42 = .ok (.sipush 800, 3) := by decide +kernel
theorem d_Hp_setLock_45 : decode b_Hp_setLock 45 = .ok (.if_icmp .gt 10, 3) := by decide +kernel
theorem d_Hp_setLock_48 : decode b_Hp_setLock 48 = .ok (.aload_n 0, 1) := by decide +kernel
theorem d_Hp_setLock_49 : decode b_Hp_setLock 49 = .ok (.getfield 31, 3) := by decide +kernel
theorem d_Hp_setLock_52 : decode b_Hp_setLock 52 = .ok (.iload_n 1, 1) := by decide +kernel
theorem d_Hp_setLock_53 : decode b_Hp_setLock 53 = .ok (.iload_n 2, 1) := by decide +kernel
theorem d_Hp_setLock_54 : decode b_Hp_setLock 54 = .ok (.iastore, 1) := by decide +kernel
theorem d_Hp_setLock_55 : decode b_Hp_setLock 55 = .ok (.return_, 1) := by decide +kernel
abbrev rm_Hp_setLock : Room := { frames := 0, cells := 0, slots := 0, locals := 0 }
set_option maxHeartbeats 4000000 in
set_option maxRecDepth 100000 in
/-- setLock -/
theorem c_Hp_setLock (l : Launch) (D : va_G) (g : Nat → ClassId) (h0 : Nat) (rr : Int32) (v9 : Int32) (r_kind : Nat) (r_base : Nat) (r_length : Nat) (r_data : Nat) (f_objects : Int32) (f_top : Int32) (r_lock : Nat) (r_spare : Nat) (f_leastFree : Int32) (f_highest : Int32) (r_faults : Nat) (r_faultLocks : Nat) (r_touched : Nat) (r_open : Nat) (f_opened : Int32) (d_lock : Nat → Int32) (i_faultLocks : Nat) (s_faultLocks : Nat) (c_faultLocks : Nat) (d_faultLocks : Nat → Int32) (sz : Nat) (hs_faultLocks : s_faultLocks ≤ c_faultLocks) (hc_faultLocks : c_faultLocks < 2 ^ 24) : Met l y_Hp_setLock (mw y_Hp_setLock b_Hp_setLock 4 (none)) (rm_Hp_setLock) (PC g D [] [.ref h0, .int rr, .int v9] sz [(h0, .inr (2, [.ref r_kind, .ref r_base, .ref r_length, .ref r_data, .int f_objects, .int f_top, .ref r_lock, .ref r_spare, .int f_leastFree, .int f_highest, .ref r_faults, .ref r_faultLocks, .ref r_touched, .ref r_open, .int f_opened])), (r_lock, .inl (g 0, 801, .inl d_lock)), (r_faultLocks, .inr (3, [.ref i_faultLocks, .int (nI s_faultLocks)])), (i_faultLocks, .inl (g 0, c_faultLocks, .inl d_faultLocks))]) (va_Qv (fun u : (Nat → Int32) × (Nat → Int32) => True) (QW D (va_A [(h0, .inr (2, [.ref r_kind, .ref r_base, .ref r_length, .ref r_data, .int f_objects, .int f_top, .ref r_lock, .ref r_spare, .int f_leastFree, .int f_highest, .ref r_faults, .ref r_faultLocks, .ref r_touched, .ref r_open, .int f_opened])), (r_lock, .inl (g 0, 801, .inl d_lock)), (r_faultLocks, .inr (3, [.ref i_faultLocks, .int (nI s_faultLocks)])), (i_faultLocks, .inl (g 0, c_faultLocks, .inl d_faultLocks))] sz) (fun u : (Nat → Int32) × (Nat → Int32) => [(h0, .inr (2, [.ref r_kind, .ref r_base, .ref r_length, .ref r_data, .int f_objects, .int f_top, .ref r_lock, .ref r_spare, .int f_leastFree, .int f_highest, .ref r_faults, .ref r_faultLocks, .ref r_touched, .ref r_open, .int f_opened])), (r_lock, .inl (g 0, 801, .inl u.1)), (r_faultLocks, .inr (3, [.ref i_faultLocks, .int (nI s_faultLocks)])), (i_faultLocks, .inl (g 0, c_faultLocks, .inl u.2))])) (va_A [(h0, .inr (2, [.ref r_kind, .ref r_base, .ref r_length, .ref r_data, .int f_objects, .int f_top, .ref r_lock, .ref r_spare, .int f_leastFree, .int f_highest, .ref r_faults, .ref r_faultLocks, .ref r_touched, .ref r_open, .int f_opened])), (r_lock, .inl (g 0, 801, .inl d_lock)), (r_faultLocks, .inr (3, [.ref i_faultLocks, .int (nI s_faultLocks)])), (i_faultLocks, .inl (g 0, c_faultLocks, .inl d_faultLocks))] sz)) 0 0 (va_A [(h0, .inr (2, [.ref r_kind, .ref r_base, .ref r_length, .ref r_data, .int f_objects, .int f_top, .ref r_lock, .ref r_spare, .int f_leastFree, .int f_highest, .ref r_faults, .ref r_faultLocks, .ref r_touched, .ref r_open, .int f_opened])), (r_lock, .inl (g 0, 801, .inl d_lock)), (r_faultLocks, .inr (3, [.ref i_faultLocks, .int (nI s_faultLocks)])), (i_faultLocks, .inl (g 0, c_faultLocks, .inl d_faultLocks))] sz) := by
  refine ofV (by decide +kernel) (Nat.le_of_ble_eq_true rfl) ?_
  intro p e s m args below meth c A Q ls H locs G hsz hP hD hS hl hret
  subst hsz
  have hl : lv_has ls 4 [(0, .ref h0), (1, .int rr), (2, .int v9)] := hl
  refine lv_iload_n G.1 G.2.1 d_Hp_setLock_0 rfl (lv_at hl 1 rfl) ?_
  refine lv_sipush (v := nI 1000) G.1 G.2.1 d_Hp_setLock_1 (by decide) ?_
  refine lv_isub G.1 G.2.1 d_Hp_setLock_4 ?_
  refine lv_iconst (v := nI 1) G.1 G.2.1 d_Hp_setLock_5 (by decide) ?_
  refine lv_isub G.1 G.2.1 d_Hp_setLock_6 ?_
  refine lv_istore_n (lv' := [(3, .int ((rr - (nI 1000)) - (nI 1))), (0, .ref h0), (1, .int rr), (2, .int v9)]) G.1 G.2.1 d_Hp_setLock_7 rfl hl (by decide) rfl (fun ls hl => ?_)
  refine lv_iload_n G.1 G.2.1 d_Hp_setLock_8 rfl (lv_at hl 0 rfl) ?_
  refine lv_if_lt (tgt := 36) G.1 G.2.1 d_Hp_setLock_9 (by decide) (fun c9 => ?_) (fun c9 => ?_)
  · skip
    refine lv_iload_n G.1 G.2.1 d_Hp_setLock_36 rfl (lv_at hl 2 rfl) ?_
    refine lv_iconst (v := nI 1) G.1 G.2.1 d_Hp_setLock_37 (by decide) ?_
    refine lv_icmp_lt (tgt := 55) G.1 G.2.1 d_Hp_setLock_38 (by decide) (fun c38 => ?_) (fun c38 => ?_)
    · skip
      refine W.eq (g2 := F0 m 55 ls []) rfl ?_
      refine hret (d_lock, d_faultLocks) _ _ _ _ _ ls (show True from trivial) (hP.sub [0, 1, 2, 3] rfl) (hD.sub [0, 1, 2, 3] (by decide) rfl) hS (Nat.le_of_ble_eq_true rfl) (Nat.le_of_ble_eq_true rfl) d_Hp_setLock_55
    · skip
      refine W.eq (g2 := F0 m 41 ls []) rfl ?_
      refine lv_iload_n G.1 G.2.1 d_Hp_setLock_41 rfl (lv_at hl 2 rfl) ?_
      refine lv_sipush (v := nI 800) G.1 G.2.1 d_Hp_setLock_42 (by decide) ?_
      refine lv_icmp_gt (tgt := 55) G.1 G.2.1 d_Hp_setLock_45 (by decide) (fun c45 => ?_) (fun c45 => ?_)
      · skip
        refine hret (d_lock, d_faultLocks) _ _ _ _ _ ls (show True from trivial) (hP.sub [0, 1, 2, 3] rfl) (hD.sub [0, 1, 2, 3] (by decide) rfl) hS (Nat.le_of_ble_eq_true rfl) (Nat.le_of_ble_eq_true rfl) d_Hp_setLock_55
      · skip
        obtain ⟨x, hxr, hx1, hx2⟩ := i_range (by decide) (by decide) c38 c45
        refine lv_aload_n G.1 G.2.1 d_Hp_setLock_48 rfl (lv_at hl 1 rfl) ?_
        refine kg (ci := 2) G iHp hP 0 rfl rfl 6 (by decide) q927 rfl rfl d_Hp_setLock_49 ?_
        refine lv_iload_n G.1 G.2.1 d_Hp_setLock_52 rfl (lv_at hl 2 rfl) ?_
        refine tpi (w := nI x) hxr ?_
        refine lv_iload_n G.1 G.2.1 d_Hp_setLock_53 rfl (lv_at hl 3 rfl) ?_
        refine kiast G hP hD hS 1 0 rfl rfl (by omega) (by omega) d_Hp_setLock_54 (fun H locs hP hD hS => ?_)
        have hP : va_P D CL [(h0, .inr (2, [.ref r_kind, .ref r_base, .ref r_length, .ref r_data, .int f_objects, .int f_top, .ref r_lock, .ref r_spare, .int f_leastFree, .int f_highest, .ref r_faults, .ref r_faultLocks, .ref r_touched, .ref r_open, .int f_opened])), (r_lock, .inl (g 0, 801, .inl (upd d_lock x v9))), (r_faultLocks, .inr (3, [.ref i_faultLocks, .int (nI s_faultLocks)])), (i_faultLocks, .inl (g 0, c_faultLocks, .inl d_faultLocks))] H := hP
        have hD : va_D A [(h0, .inr (2, [.ref r_kind, .ref r_base, .ref r_length, .ref r_data, .int f_objects, .int f_top, .ref r_lock, .ref r_spare, .int f_leastFree, .int f_highest, .ref r_faults, .ref r_faultLocks, .ref r_touched, .ref r_open, .int f_opened])), (r_lock, .inl (g 0, 801, .inl (upd d_lock x v9))), (r_faultLocks, .inr (3, [.ref i_faultLocks, .int (nI s_faultLocks)])), (i_faultLocks, .inl (g 0, c_faultLocks, .inl d_faultLocks))] := hD
        refine hret (upd d_lock x v9, d_faultLocks) _ _ _ _ _ ls (show True from trivial) (hP.sub [0, 1, 2, 3] rfl) (hD.sub [0, 1, 2, 3] (by decide) rfl) hS (Nat.le_of_ble_eq_true rfl) (Nat.le_of_ble_eq_true rfl) d_Hp_setLock_55
  · skip
    refine lv_iload_n G.1 G.2.1 d_Hp_setLock_12 rfl (lv_at hl 0 rfl) ?_
    refine lv_aload_n G.1 G.2.1 d_Hp_setLock_13 rfl (lv_at hl 1 rfl) ?_
    refine kg (ci := 2) G iHp hP 0 rfl rfl 11 (by decide) q932 rfl rfl d_Hp_setLock_14 ?_
    refine W.eq (g2 := F0 m 17 ls [.ref r_faultLocks, .int ((rr - (nI 1000)) - (nI 1))]) rfl ?_
    refine kg (ci := 3) G iIn hP 2 rfl rfl 1 (by decide) q392 rfl rfl d_Hp_setLock_17 ?_
    refine lv_icmp_ge (tgt := 36) G.1 G.2.1 d_Hp_setLock_20 (by decide) (fun c20 => ?_) (fun c20 => ?_)
    · skip
      refine lv_iload_n G.1 G.2.1 d_Hp_setLock_36 rfl (lv_at hl 2 rfl) ?_
      refine lv_iconst (v := nI 1) G.1 G.2.1 d_Hp_setLock_37 (by decide) ?_
      refine lv_icmp_lt (tgt := 55) G.1 G.2.1 d_Hp_setLock_38 (by decide) (fun c38 => ?_) (fun c38 => ?_)
      · skip
        refine hret (d_lock, d_faultLocks) _ _ _ _ _ ls (show True from trivial) (hP.sub [0, 1, 2, 3] rfl) (hD.sub [0, 1, 2, 3] (by decide) rfl) hS (Nat.le_of_ble_eq_true rfl) (Nat.le_of_ble_eq_true rfl) d_Hp_setLock_55
      · skip
        refine lv_iload_n G.1 G.2.1 d_Hp_setLock_41 rfl (lv_at hl 2 rfl) ?_
        refine lv_sipush (v := nI 800) G.1 G.2.1 d_Hp_setLock_42 (by decide) ?_
        refine lv_icmp_gt (tgt := 55) G.1 G.2.1 d_Hp_setLock_45 (by decide) (fun c45 => ?_) (fun c45 => ?_)
        · skip
          refine hret (d_lock, d_faultLocks) _ _ _ _ _ ls (show True from trivial) (hP.sub [0, 1, 2, 3] rfl) (hD.sub [0, 1, 2, 3] (by decide) rfl) hS (Nat.le_of_ble_eq_true rfl) (Nat.le_of_ble_eq_true rfl) d_Hp_setLock_55
        · skip
          obtain ⟨x, hxr, hx1, hx2⟩ := i_range (by decide) (by decide) c38 c45
          refine lv_aload_n G.1 G.2.1 d_Hp_setLock_48 rfl (lv_at hl 1 rfl) ?_
          refine kg (ci := 2) G iHp hP 0 rfl rfl 6 (by decide) q927 rfl rfl d_Hp_setLock_49 ?_
          refine lv_iload_n G.1 G.2.1 d_Hp_setLock_52 rfl (lv_at hl 2 rfl) ?_
          refine tpi (w := nI x) hxr ?_
          refine lv_iload_n G.1 G.2.1 d_Hp_setLock_53 rfl (lv_at hl 3 rfl) ?_
          refine W.eq (g2 := F0 m 54 ls [.int v9, .int (nI x), .ref r_lock]) rfl ?_
          refine kiast G hP hD hS 1 0 rfl rfl (by omega) (by omega) d_Hp_setLock_54 (fun H locs hP hD hS => ?_)
          have hP : va_P D CL [(h0, .inr (2, [.ref r_kind, .ref r_base, .ref r_length, .ref r_data, .int f_objects, .int f_top, .ref r_lock, .ref r_spare, .int f_leastFree, .int f_highest, .ref r_faults, .ref r_faultLocks, .ref r_touched, .ref r_open, .int f_opened])), (r_lock, .inl (g 0, 801, .inl (upd d_lock x v9))), (r_faultLocks, .inr (3, [.ref i_faultLocks, .int (nI s_faultLocks)])), (i_faultLocks, .inl (g 0, c_faultLocks, .inl d_faultLocks))] H := hP
          have hD : va_D A [(h0, .inr (2, [.ref r_kind, .ref r_base, .ref r_length, .ref r_data, .int f_objects, .int f_top, .ref r_lock, .ref r_spare, .int f_leastFree, .int f_highest, .ref r_faults, .ref r_faultLocks, .ref r_touched, .ref r_open, .int f_opened])), (r_lock, .inl (g 0, 801, .inl (upd d_lock x v9))), (r_faultLocks, .inr (3, [.ref i_faultLocks, .int (nI s_faultLocks)])), (i_faultLocks, .inl (g 0, c_faultLocks, .inl d_faultLocks))] := hD
          refine hret (upd d_lock x v9, d_faultLocks) _ _ _ _ _ ls (show True from trivial) (hP.sub [0, 1, 2, 3] rfl) (hD.sub [0, 1, 2, 3] (by decide) rfl) hS (Nat.le_of_ble_eq_true rfl) (Nat.le_of_ble_eq_true rfl) d_Hp_setLock_55
    · skip
      obtain ⟨j, hj, hjn⟩ := i_below (by omega) c9 c20
      refine lv_aload_n G.1 G.2.1 d_Hp_setLock_23 rfl (lv_at hl 1 rfl) ?_
      refine kg (ci := 2) G iHp hP 0 rfl rfl 11 (by decide) q932 rfl rfl d_Hp_setLock_24 ?_
      refine kg (ci := 3) G iIn hP 2 rfl rfl 0 (by decide) q382 rfl rfl d_Hp_setLock_27 ?_
      refine lv_iload_n G.1 G.2.1 d_Hp_setLock_30 rfl (lv_at hl 0 rfl) ?_
      refine tpi (w := nI j) hj ?_
      refine lv_iload_n G.1 G.2.1 d_Hp_setLock_31 rfl (lv_at hl 3 rfl) ?_
      refine kiast G hP hD hS 3 0 rfl rfl (by omega) (by omega) d_Hp_setLock_32 (fun H locs hP hD hS => ?_)
      have hP : va_P D CL [(h0, .inr (2, [.ref r_kind, .ref r_base, .ref r_length, .ref r_data, .int f_objects, .int f_top, .ref r_lock, .ref r_spare, .int f_leastFree, .int f_highest, .ref r_faults, .ref r_faultLocks, .ref r_touched, .ref r_open, .int f_opened])), (r_lock, .inl (g 0, 801, .inl d_lock)), (r_faultLocks, .inr (3, [.ref i_faultLocks, .int (nI s_faultLocks)])), (i_faultLocks, .inl (g 0, c_faultLocks, .inl (upd d_faultLocks j v9)))] H := hP
      have hD : va_D A [(h0, .inr (2, [.ref r_kind, .ref r_base, .ref r_length, .ref r_data, .int f_objects, .int f_top, .ref r_lock, .ref r_spare, .int f_leastFree, .int f_highest, .ref r_faults, .ref r_faultLocks, .ref r_touched, .ref r_open, .int f_opened])), (r_lock, .inl (g 0, 801, .inl d_lock)), (r_faultLocks, .inr (3, [.ref i_faultLocks, .int (nI s_faultLocks)])), (i_faultLocks, .inl (g 0, c_faultLocks, .inl (upd d_faultLocks j v9)))] := hD
      refine lv_goto (tgt := 55) G.1 G.2.1 d_Hp_setLock_33 (by decide) ?_
      refine hret (d_lock, upd d_faultLocks j v9) _ _ _ _ _ ls (show True from trivial) (hP.sub [0, 1, 2, 3] rfl) (hD.sub [0, 1, 2, 3] (by decide) rfl) hS (Nat.le_of_ble_eq_true rfl) (Nat.le_of_ble_eq_true rfl) d_Hp_setLock_55
def y_Hp_locks : MethodName := ⟨"ClassWorks$Heap", "locks", "(I)I"⟩
abbrev b_Hp_locks : ByteArray := prog_4_method_10_code
theorem q1852 : Cond.code y_Hp_lockOf b_Hp_lockOf 3 (some .int) ∈ lw_ok := lw_okmem (List.mem_of_getElem? (i := 1852) (by decide +kernel)) rfl
theorem q1851 : Cond.instanceMethod y_Hp_lockOf ∈ lw_ok := lw_okmem (List.mem_of_getElem? (i := 1851) (by decide +kernel)) rfl
theorem q86 : Cond.selects y_Hp_lockOf.cls y_Hp_lockOf y_Hp_lockOf ∈ lw_ok := lw_okmem (List.mem_of_getElem? (i := 86) (by decide +kernel)) rfl
theorem w_Hp_lockOf : CWv y_Hp_lockOf b_Hp_lockOf 3 (some .int) 1 ∧ Cond.instanceMethod y_Hp_lockOf ∈ lw_ok ∧ Cond.selects y_Hp_lockOf.cls y_Hp_lockOf y_Hp_lockOf ∈ lw_ok := ⟨⟨q1852, q346, by decide +kernel, by decide +kernel, by decide +kernel⟩, q1851, q86⟩
theorem q1849 : Cond.methodLink "ClassWorks$Heap" 87 y_Hp_lockOf ∈ lw_ok := lw_okmem (List.mem_of_getElem? (i := 1849) (by decide +kernel)) rfl
theorem d_Hp_locks_0 : decode b_Hp_locks 0 = .ok (.aload_n 0, 1) := by decide +kernel
theorem d_Hp_locks_1 : decode b_Hp_locks 1 = .ok (.iload_n 1, 1) := by decide +kernel
theorem d_Hp_locks_2 : decode b_Hp_locks 2 = .ok (.invokevirtual 87, 3) := by decide +kernel
theorem d_Hp_locks_5 : decode b_Hp_locks 5 = .ok (.iconst 4, 1) := by decide +kernel
theorem d_Hp_locks_6 : decode b_Hp_locks 6 = .ok (.idiv, 1) := by decide +kernel
theorem d_Hp_locks_7 : decode b_Hp_locks 7 = .ok (.ireturn, 1) := by decide +kernel
abbrev rm_Hp_locks : Room := { frames := 1, cells := 0, slots := 0, locals := 22 }
set_option maxHeartbeats 4000000 in
set_option maxRecDepth 100000 in
/-- locks -/
theorem c_Hp_locks (l : Launch) (D : va_G) (g : Nat → ClassId) (h0 : Nat) (rr : Int32) (r_kind : Nat) (r_base : Nat) (r_length : Nat) (r_data : Nat) (f_objects : Int32) (f_top : Int32) (r_lock : Nat) (r_spare : Nat) (f_leastFree : Int32) (f_highest : Int32) (r_faults : Nat) (r_faultLocks : Nat) (r_touched : Nat) (r_open : Nat) (f_opened : Int32) (d_lock : Nat → Int32) (i_faultLocks : Nat) (s_faultLocks : Nat) (c_faultLocks : Nat) (d_faultLocks : Nat → Int32) (sz : Nat) (hs_faultLocks : s_faultLocks ≤ c_faultLocks) (hc_faultLocks : c_faultLocks < 2 ^ 24) : Met l y_Hp_locks (mw y_Hp_locks b_Hp_locks 2 (some .int)) (rm_Hp_locks) (PC g D [] [.ref h0, .int rr] sz [(h0, .inr (2, [.ref r_kind, .ref r_base, .ref r_length, .ref r_data, .int f_objects, .int f_top, .ref r_lock, .ref r_spare, .int f_leastFree, .int f_highest, .ref r_faults, .ref r_faultLocks, .ref r_touched, .ref r_open, .int f_opened])), (r_lock, .inl (g 0, 801, .inl d_lock)), (r_faultLocks, .inr (3, [.ref i_faultLocks, .int (nI s_faultLocks)])), (i_faultLocks, .inl (g 0, c_faultLocks, .inl d_faultLocks))]) (va_Qi (fun (r : Int32) (u : Unit) => True) (QW D (va_A [(h0, .inr (2, [.ref r_kind, .ref r_base, .ref r_length, .ref r_data, .int f_objects, .int f_top, .ref r_lock, .ref r_spare, .int f_leastFree, .int f_highest, .ref r_faults, .ref r_faultLocks, .ref r_touched, .ref r_open, .int f_opened])), (r_lock, .inl (g 0, 801, .inl d_lock)), (r_faultLocks, .inr (3, [.ref i_faultLocks, .int (nI s_faultLocks)])), (i_faultLocks, .inl (g 0, c_faultLocks, .inl d_faultLocks))] sz) (fun u : Unit => [(h0, .inr (2, [.ref r_kind, .ref r_base, .ref r_length, .ref r_data, .int f_objects, .int f_top, .ref r_lock, .ref r_spare, .int f_leastFree, .int f_highest, .ref r_faults, .ref r_faultLocks, .ref r_touched, .ref r_open, .int f_opened])), (r_lock, .inl (g 0, 801, .inl d_lock)), (r_faultLocks, .inr (3, [.ref i_faultLocks, .int (nI s_faultLocks)])), (i_faultLocks, .inl (g 0, c_faultLocks, .inl d_faultLocks))])) (va_A [(h0, .inr (2, [.ref r_kind, .ref r_base, .ref r_length, .ref r_data, .int f_objects, .int f_top, .ref r_lock, .ref r_spare, .int f_leastFree, .int f_highest, .ref r_faults, .ref r_faultLocks, .ref r_touched, .ref r_open, .int f_opened])), (r_lock, .inl (g 0, 801, .inl d_lock)), (r_faultLocks, .inr (3, [.ref i_faultLocks, .int (nI s_faultLocks)])), (i_faultLocks, .inl (g 0, c_faultLocks, .inl d_faultLocks))] sz)) 0 0 (va_A [(h0, .inr (2, [.ref r_kind, .ref r_base, .ref r_length, .ref r_data, .int f_objects, .int f_top, .ref r_lock, .ref r_spare, .int f_leastFree, .int f_highest, .ref r_faults, .ref r_faultLocks, .ref r_touched, .ref r_open, .int f_opened])), (r_lock, .inl (g 0, 801, .inl d_lock)), (r_faultLocks, .inr (3, [.ref i_faultLocks, .int (nI s_faultLocks)])), (i_faultLocks, .inl (g 0, c_faultLocks, .inl d_faultLocks))] sz) := by
  refine ofI (by decide +kernel) (Nat.le_of_ble_eq_true rfl) ?_
  intro p e s m args below meth c A Q ls H locs G hsz hP hD hS hl hret
  subst hsz
  have hl : lv_has ls 2 [(0, .ref h0), (1, .int rr)] := hl
  refine lv_aload_n G.1 G.2.1 d_Hp_locks_0 rfl (lv_at hl 0 rfl) ?_
  refine lv_iload_n G.1 G.2.1 d_Hp_locks_1 rfl (lv_at hl 1 rfl) ?_
  refine kEi (wr := []) G (kV (As := [.int rr]) (rest := []) G hP hD hS [0, 1, 2, 3] rfl rfl (c_Hp_lockOf l D g h0 rr r_kind r_base r_length r_data f_objects f_top r_lock r_spare f_leastFree f_highest r_faults r_faultLocks r_touched r_open f_opened d_lock i_faultLocks s_faultLocks c_faultLocks d_faultLocks H.size hs_faultLocks hc_faultLocks) w_Hp_lockOf q1849 rfl rfl ⟨Nat.le_of_ble_eq_true rfl, Nat.le_of_ble_eq_true rfl⟩ (fun _ h => absurd h List.not_mem_nil) 0 (ci := 2) rfl rfl rfl hl.1 rfl (Nat.le_of_ble_eq_true rfl) rfl ⟨Nat.le_of_ble_eq_true rfl, (Nat.le_of_ble_eq_true rfl)⟩ d_Hp_locks_2) hP hD hS [0, 1, 2, 3] [] rfl rfl rfl rfl (fun r_1 u_2 H locs hw hP hD hS hzH => ?_)
  have hw : True := hw
  have hP : va_P D CL [(h0, .inr (2, [.ref r_kind, .ref r_base, .ref r_length, .ref r_data, .int f_objects, .int f_top, .ref r_lock, .ref r_spare, .int f_leastFree, .int f_highest, .ref r_faults, .ref r_faultLocks, .ref r_touched, .ref r_open, .int f_opened])), (r_lock, .inl (g 0, 801, .inl d_lock)), (r_faultLocks, .inr (3, [.ref i_faultLocks, .int (nI s_faultLocks)])), (i_faultLocks, .inl (g 0, c_faultLocks, .inl d_faultLocks))] H := hP
  have hD : va_D A [(h0, .inr (2, [.ref r_kind, .ref r_base, .ref r_length, .ref r_data, .int f_objects, .int f_top, .ref r_lock, .ref r_spare, .int f_leastFree, .int f_highest, .ref r_faults, .ref r_faultLocks, .ref r_touched, .ref r_open, .int f_opened])), (r_lock, .inl (g 0, 801, .inl d_lock)), (r_faultLocks, .inr (3, [.ref i_faultLocks, .int (nI s_faultLocks)])), (i_faultLocks, .inl (g 0, c_faultLocks, .inl d_faultLocks))] := hD
  refine lv_iconst (v := nI 4) G.1 G.2.1 d_Hp_locks_5 (by decide) ?_
  refine lv_idiv G.1 G.2.1 d_Hp_locks_6 (by decide) ?_
  refine hret (r_1 / (nI 4)) () _ _ _ _ _ ls trivial (hP.sub [0, 1, 2, 3] rfl) (hD.sub [0, 1, 2, 3] (by decide) rfl) hS (Nat.le_of_ble_eq_true rfl) (Nat.le_of_ble_eq_true rfl) d_Hp_locks_7
def y_Hp_lockedByOther : MethodName := ⟨"ClassWorks$Heap", "lockedByOther", "(II)Z"⟩
abbrev b_Hp_lockedByOther : ByteArray := prog_4_method_11_code
theorem d_Hp_lockedByOther_0 : decode b_Hp_lockedByOther 0 = .ok (.aload_n 0, 1) := by decide +kernel
theorem d_Hp_lockedByOther_1 : decode b_Hp_lockedByOther 1 = .ok (.iload_n 1, 1) := by decide +kernel
theorem d_Hp_lockedByOther_2 : decode b_Hp_lockedByOther 2 = .ok (.invokevirtual 87, 3) := by decide +kernel
theorem d_Hp_lockedByOther_5 : decode b_Hp_lockedByOther 5 = .ok (.istore_n 3, 1) := by decide +kernel
theorem d_Hp_lockedByOther_6 : decode b_Hp_lockedByOther 6 = .ok (.iload_n 3, 1) := by decide +kernel
theorem d_Hp_lockedByOther_7 : decode b_Hp_lockedByOther 7 = .ok (.iconst 4, 1) := by decide +kernel
theorem d_Hp_lockedByOther_8 : decode b_Hp_lockedByOther 8 = .ok (.if_icmp .lt 14, 3) := by decide +kernel
theorem d_Hp_lockedByOther_11 : decode b_Hp_lockedByOther 11 = .ok (.iload_n 3, 1) := by decide +kernel
theorem d_Hp_lockedByOther_12 : decode b_Hp_lockedByOther 12 = .ok (.iconst 4, 1) := by decide +kernel
theorem d_Hp_lockedByOther_13 : decode b_Hp_lockedByOther 13 = .ok (.irem, 1) := by decide +kernel
theorem d_Hp_lockedByOther_14 : decode b_Hp_lockedByOther 14 = .ok (.iload_n 2, 1) := by decide +kernel
theorem d_Hp_lockedByOther_15 : decode b_Hp_lockedByOther 15 = .ok (.if_icmp .eq 7, 3) := by decide +kernel
theorem d_Hp_lockedByOther_18 : decode b_Hp_lockedByOther 18 = .ok (.iconst 1, 1) := by decide +kernel
theorem d_Hp_lockedByOther_19 : decode b_Hp_lockedByOther 19 = .ok (.goto 4, 3) := by decide +kernel
theorem d_Hp_lockedByOther_22 : decode b_Hp_lockedByOther 22 = .ok (.iconst 0, 1) := by decide +kernel
theorem d_Hp_lockedByOther_23 : decode b_Hp_lockedByOther 23 = .ok (.ireturn, 1) := by decide +kernel
abbrev rm_Hp_lockedByOther : Room := { frames := 1, cells := 0, slots := 0, locals := 22 }
set_option maxHeartbeats 4000000 in
set_option maxRecDepth 100000 in
/-- lockedByOther -/
theorem c_Hp_lockedByOther (l : Launch) (D : va_G) (g : Nat → ClassId) (h0 : Nat) (rr : Int32) (t9 : Int32) (r_kind : Nat) (r_base : Nat) (r_length : Nat) (r_data : Nat) (f_objects : Int32) (f_top : Int32) (r_lock : Nat) (r_spare : Nat) (f_leastFree : Int32) (f_highest : Int32) (r_faults : Nat) (r_faultLocks : Nat) (r_touched : Nat) (r_open : Nat) (f_opened : Int32) (d_lock : Nat → Int32) (i_faultLocks : Nat) (s_faultLocks : Nat) (c_faultLocks : Nat) (d_faultLocks : Nat → Int32) (sz : Nat) (hs_faultLocks : s_faultLocks ≤ c_faultLocks) (hc_faultLocks : c_faultLocks < 2 ^ 24) : Met l y_Hp_lockedByOther (mw y_Hp_lockedByOther b_Hp_lockedByOther 4 (some (.boolean))) (rm_Hp_lockedByOther) (PC g D [] [.ref h0, .int rr, .int t9] sz [(h0, .inr (2, [.ref r_kind, .ref r_base, .ref r_length, .ref r_data, .int f_objects, .int f_top, .ref r_lock, .ref r_spare, .int f_leastFree, .int f_highest, .ref r_faults, .ref r_faultLocks, .ref r_touched, .ref r_open, .int f_opened])), (r_lock, .inl (g 0, 801, .inl d_lock)), (r_faultLocks, .inr (3, [.ref i_faultLocks, .int (nI s_faultLocks)])), (i_faultLocks, .inl (g 0, c_faultLocks, .inl d_faultLocks))]) (va_Qi (fun (r : Int32) (u : Unit) => r = 0 ∨ r = 1) (QW D (va_A [(h0, .inr (2, [.ref r_kind, .ref r_base, .ref r_length, .ref r_data, .int f_objects, .int f_top, .ref r_lock, .ref r_spare, .int f_leastFree, .int f_highest, .ref r_faults, .ref r_faultLocks, .ref r_touched, .ref r_open, .int f_opened])), (r_lock, .inl (g 0, 801, .inl d_lock)), (r_faultLocks, .inr (3, [.ref i_faultLocks, .int (nI s_faultLocks)])), (i_faultLocks, .inl (g 0, c_faultLocks, .inl d_faultLocks))] sz) (fun u : Unit => [(h0, .inr (2, [.ref r_kind, .ref r_base, .ref r_length, .ref r_data, .int f_objects, .int f_top, .ref r_lock, .ref r_spare, .int f_leastFree, .int f_highest, .ref r_faults, .ref r_faultLocks, .ref r_touched, .ref r_open, .int f_opened])), (r_lock, .inl (g 0, 801, .inl d_lock)), (r_faultLocks, .inr (3, [.ref i_faultLocks, .int (nI s_faultLocks)])), (i_faultLocks, .inl (g 0, c_faultLocks, .inl d_faultLocks))])) (va_A [(h0, .inr (2, [.ref r_kind, .ref r_base, .ref r_length, .ref r_data, .int f_objects, .int f_top, .ref r_lock, .ref r_spare, .int f_leastFree, .int f_highest, .ref r_faults, .ref r_faultLocks, .ref r_touched, .ref r_open, .int f_opened])), (r_lock, .inl (g 0, 801, .inl d_lock)), (r_faultLocks, .inr (3, [.ref i_faultLocks, .int (nI s_faultLocks)])), (i_faultLocks, .inl (g 0, c_faultLocks, .inl d_faultLocks))] sz)) 0 0 (va_A [(h0, .inr (2, [.ref r_kind, .ref r_base, .ref r_length, .ref r_data, .int f_objects, .int f_top, .ref r_lock, .ref r_spare, .int f_leastFree, .int f_highest, .ref r_faults, .ref r_faultLocks, .ref r_touched, .ref r_open, .int f_opened])), (r_lock, .inl (g 0, 801, .inl d_lock)), (r_faultLocks, .inr (3, [.ref i_faultLocks, .int (nI s_faultLocks)])), (i_faultLocks, .inl (g 0, c_faultLocks, .inl d_faultLocks))] sz) := by
  refine ofZ (by decide +kernel) (Nat.le_of_ble_eq_true rfl) ?_
  intro p e s m args below meth c A Q ls H locs G hsz hP hD hS hl hret
  subst hsz
  have hl : lv_has ls 4 [(0, .ref h0), (1, .int rr), (2, .int t9)] := hl
  refine lv_aload_n G.1 G.2.1 d_Hp_lockedByOther_0 rfl (lv_at hl 0 rfl) ?_
  refine lv_iload_n G.1 G.2.1 d_Hp_lockedByOther_1 rfl (lv_at hl 1 rfl) ?_
  refine kEi (wr := []) G (kV (As := [.int rr]) (rest := []) G hP hD hS [0, 1, 2, 3] rfl rfl (c_Hp_lockOf l D g h0 rr r_kind r_base r_length r_data f_objects f_top r_lock r_spare f_leastFree f_highest r_faults r_faultLocks r_touched r_open f_opened d_lock i_faultLocks s_faultLocks c_faultLocks d_faultLocks H.size hs_faultLocks hc_faultLocks) w_Hp_lockOf q1849 rfl rfl ⟨Nat.le_of_ble_eq_true rfl, Nat.le_of_ble_eq_true rfl⟩ (fun _ h => absurd h List.not_mem_nil) 0 (ci := 2) rfl rfl rfl hl.1 rfl (Nat.le_of_ble_eq_true rfl) rfl ⟨Nat.le_of_ble_eq_true rfl, (Nat.le_of_ble_eq_true rfl)⟩ d_Hp_lockedByOther_2) hP hD hS [0, 1, 2, 3] [] rfl rfl rfl rfl (fun r_1 u_2 H locs hw hP hD hS hzH => ?_)
  have hw : True := hw
  have hP : va_P D CL [(h0, .inr (2, [.ref r_kind, .ref r_base, .ref r_length, .ref r_data, .int f_objects, .int f_top, .ref r_lock, .ref r_spare, .int f_leastFree, .int f_highest, .ref r_faults, .ref r_faultLocks, .ref r_touched, .ref r_open, .int f_opened])), (r_lock, .inl (g 0, 801, .inl d_lock)), (r_faultLocks, .inr (3, [.ref i_faultLocks, .int (nI s_faultLocks)])), (i_faultLocks, .inl (g 0, c_faultLocks, .inl d_faultLocks))] H := hP
  have hD : va_D A [(h0, .inr (2, [.ref r_kind, .ref r_base, .ref r_length, .ref r_data, .int f_objects, .int f_top, .ref r_lock, .ref r_spare, .int f_leastFree, .int f_highest, .ref r_faults, .ref r_faultLocks, .ref r_touched, .ref r_open, .int f_opened])), (r_lock, .inl (g 0, 801, .inl d_lock)), (r_faultLocks, .inr (3, [.ref i_faultLocks, .int (nI s_faultLocks)])), (i_faultLocks, .inl (g 0, c_faultLocks, .inl d_faultLocks))] := hD
  refine lv_istore_n (lv' := [(3, .int r_1), (0, .ref h0), (1, .int rr), (2, .int t9)]) G.1 G.2.1 d_Hp_lockedByOther_5 rfl hl (by decide) rfl (fun ls hl => ?_)
  refine lv_iload_n G.1 G.2.1 d_Hp_lockedByOther_6 rfl (lv_at hl 0 rfl) ?_
  refine lv_iconst (v := nI 4) G.1 G.2.1 d_Hp_lockedByOther_7 (by decide) ?_
  refine lv_icmp_lt (tgt := 22) G.1 G.2.1 d_Hp_lockedByOther_8 (by decide) (fun c8 => ?_) (fun c8 => ?_)
  · skip
    refine lv_iconst (v := nI 0) G.1 G.2.1 d_Hp_lockedByOther_22 (by decide) ?_
    refine hret (nI 0) () _ _ _ _ _ ls (by decide) (Or.inl rfl) (hP.sub [0, 1, 2, 3] rfl) (hD.sub [0, 1, 2, 3] (by decide) rfl) hS (Nat.le_of_ble_eq_true rfl) (Nat.le_of_ble_eq_true rfl) d_Hp_lockedByOther_23
  · skip
    refine lv_iload_n G.1 G.2.1 d_Hp_lockedByOther_11 rfl (lv_at hl 0 rfl) ?_
    refine lv_iconst (v := nI 4) G.1 G.2.1 d_Hp_lockedByOther_12 (by decide) ?_
    refine lv_irem G.1 G.2.1 d_Hp_lockedByOther_13 (by decide) ?_
    refine lv_iload_n G.1 G.2.1 d_Hp_lockedByOther_14 rfl (lv_at hl 3 rfl) ?_
    refine W.eq (g2 := F0 m 15 ls [.int t9, .int (r_1 - r_1 / (nI 4) * (nI 4))]) rfl ?_
    refine lv_icmp_eq (tgt := 22) G.1 G.2.1 d_Hp_lockedByOther_15 (by decide) (fun c15 => ?_) (fun c15 => ?_)
    · skip
      refine lv_iconst (v := nI 0) G.1 G.2.1 d_Hp_lockedByOther_22 (by decide) ?_
      refine hret (nI 0) () _ _ _ _ _ ls (by decide) (Or.inl rfl) (hP.sub [0, 1, 2, 3] rfl) (hD.sub [0, 1, 2, 3] (by decide) rfl) hS (Nat.le_of_ble_eq_true rfl) (Nat.le_of_ble_eq_true rfl) d_Hp_lockedByOther_23
    · skip
      refine lv_iconst (v := nI 1) G.1 G.2.1 d_Hp_lockedByOther_18 (by decide) ?_
      refine lv_goto (tgt := 23) G.1 G.2.1 d_Hp_lockedByOther_19 (by decide) ?_
      refine hret (nI 1) () _ _ _ _ _ ls (by decide) (Or.inr rfl) (hP.sub [0, 1, 2, 3] rfl) (hD.sub [0, 1, 2, 3] (by decide) rfl) hS (Nat.le_of_ble_eq_true rfl) (Nat.le_of_ble_eq_true rfl) d_Hp_lockedByOther_23
def y_Hp_enter : MethodName := ⟨"ClassWorks$Heap", "enter", "(II)V"⟩
abbrev b_Hp_enter : ByteArray := prog_4_method_12_code
theorem q2035 : Cond.code y_Hp_setLock b_Hp_setLock 4 (none) ∈ lw_ok := lw_okmem (List.mem_of_getElem? (i := 2035) (by decide +kernel)) rfl
theorem q2034 : Cond.instanceMethod y_Hp_setLock ∈ lw_ok := lw_okmem (List.mem_of_getElem? (i := 2034) (by decide +kernel)) rfl
theorem q104 : Cond.selects y_Hp_setLock.cls y_Hp_setLock y_Hp_setLock ∈ lw_ok := lw_okmem (List.mem_of_getElem? (i := 104) (by decide +kernel)) rfl
theorem w_Hp_setLock : CWv y_Hp_setLock b_Hp_setLock 4 (none) 2 ∧ Cond.instanceMethod y_Hp_setLock ∈ lw_ok ∧ Cond.selects y_Hp_setLock.cls y_Hp_setLock y_Hp_setLock ∈ lw_ok := ⟨⟨q2035, q346, by decide +kernel, by decide +kernel, by decide +kernel⟩, q2034, q104⟩
theorem q2032 : Cond.methodLink "ClassWorks$Heap" 90 y_Hp_setLock ∈ lw_ok := lw_okmem (List.mem_of_getElem? (i := 2032) (by decide +kernel)) rfl
theorem d_Hp_enter_0 : decode b_Hp_enter 0 = .ok (.aload_n 0, 1) := by decide +kernel
theorem d_Hp_enter_1 : decode b_Hp_enter 1 = .ok (.iload_n 1, 1) := by decide +kernel
theorem d_Hp_enter_2 : decode b_Hp_enter 2 = .ok (.aload_n 0, 1) := by decide +kernel
theorem d_Hp_enter_3 : decode b_Hp_enter 3 = .ok (.iload_n 1, 1) := by decide +kernel
theorem d_Hp_enter_4 : decode b_Hp_enter 4 = .ok (.invokevirtual 87, 3) := by decide +kernel
theorem d_Hp_enter_7 : decode b_Hp_enter 7 = .ok (.iconst 4, 1) := by decide +kernel
theorem d_Hp_enter_8 : decode b_Hp_enter 8 = .ok (.idiv, 1) := by decide +kernel
theorem d_Hp_enter_9 : decode b_Hp_enter 9 = .ok (.iconst 4, 1) := by decide +kernel
theorem d_Hp_enter_10 : decode b_Hp_enter 10 = .ok (.imul, 1) := by decide +kernel
theorem d_Hp_enter_11 : decode b_Hp_enter 11 = .ok (.iconst 4, 1) := by decide +kernel
theorem d_Hp_enter_12 : decode b_Hp_enter 12 = .ok (.iadd, 1) := by decide +kernel
theorem d_Hp_enter_13 : decode b_Hp_enter 13 = .ok (.iload_n 2, 1) := by decide +kernel
theorem d_Hp_enter_14 : decode b_Hp_enter 14 = .ok (.iadd, 1) := by decide +kernel
theorem d_Hp_enter_15 : decode b_Hp_enter 15 = .ok (.invokevirtual 90, 3) := by decide +kernel
theorem d_Hp_enter_18 : decode b_Hp_enter 18 = .ok (.return_, 1) := by decide +kernel
abbrev rm_Hp_enter : Room := { frames := 1, cells := 0, slots := 0, locals := 23 }
set_option maxHeartbeats 4000000 in
set_option maxRecDepth 100000 in
/-- enter -/
theorem c_Hp_enter (l : Launch) (D : va_G) (g : Nat → ClassId) (h0 : Nat) (rr : Int32) (t9 : Int32) (r_kind : Nat) (r_base : Nat) (r_length : Nat) (r_data : Nat) (f_objects : Int32) (f_top : Int32) (r_lock : Nat) (r_spare : Nat) (f_leastFree : Int32) (f_highest : Int32) (r_faults : Nat) (r_faultLocks : Nat) (r_touched : Nat) (r_open : Nat) (f_opened : Int32) (d_lock : Nat → Int32) (i_faultLocks : Nat) (s_faultLocks : Nat) (c_faultLocks : Nat) (d_faultLocks : Nat → Int32) (sz : Nat) (hs_faultLocks : s_faultLocks ≤ c_faultLocks) (hc_faultLocks : c_faultLocks < 2 ^ 24) : Met l y_Hp_enter (mw y_Hp_enter b_Hp_enter 3 (none)) (rm_Hp_enter) (PC g D [] [.ref h0, .int rr, .int t9] sz [(h0, .inr (2, [.ref r_kind, .ref r_base, .ref r_length, .ref r_data, .int f_objects, .int f_top, .ref r_lock, .ref r_spare, .int f_leastFree, .int f_highest, .ref r_faults, .ref r_faultLocks, .ref r_touched, .ref r_open, .int f_opened])), (r_lock, .inl (g 0, 801, .inl d_lock)), (r_faultLocks, .inr (3, [.ref i_faultLocks, .int (nI s_faultLocks)])), (i_faultLocks, .inl (g 0, c_faultLocks, .inl d_faultLocks))]) (va_Qv (fun u : (Nat → Int32) × (Nat → Int32) => True) (QW D (va_A [(h0, .inr (2, [.ref r_kind, .ref r_base, .ref r_length, .ref r_data, .int f_objects, .int f_top, .ref r_lock, .ref r_spare, .int f_leastFree, .int f_highest, .ref r_faults, .ref r_faultLocks, .ref r_touched, .ref r_open, .int f_opened])), (r_lock, .inl (g 0, 801, .inl d_lock)), (r_faultLocks, .inr (3, [.ref i_faultLocks, .int (nI s_faultLocks)])), (i_faultLocks, .inl (g 0, c_faultLocks, .inl d_faultLocks))] sz) (fun u : (Nat → Int32) × (Nat → Int32) => [(h0, .inr (2, [.ref r_kind, .ref r_base, .ref r_length, .ref r_data, .int f_objects, .int f_top, .ref r_lock, .ref r_spare, .int f_leastFree, .int f_highest, .ref r_faults, .ref r_faultLocks, .ref r_touched, .ref r_open, .int f_opened])), (r_lock, .inl (g 0, 801, .inl u.1)), (r_faultLocks, .inr (3, [.ref i_faultLocks, .int (nI s_faultLocks)])), (i_faultLocks, .inl (g 0, c_faultLocks, .inl u.2))])) (va_A [(h0, .inr (2, [.ref r_kind, .ref r_base, .ref r_length, .ref r_data, .int f_objects, .int f_top, .ref r_lock, .ref r_spare, .int f_leastFree, .int f_highest, .ref r_faults, .ref r_faultLocks, .ref r_touched, .ref r_open, .int f_opened])), (r_lock, .inl (g 0, 801, .inl d_lock)), (r_faultLocks, .inr (3, [.ref i_faultLocks, .int (nI s_faultLocks)])), (i_faultLocks, .inl (g 0, c_faultLocks, .inl d_faultLocks))] sz)) 0 0 (va_A [(h0, .inr (2, [.ref r_kind, .ref r_base, .ref r_length, .ref r_data, .int f_objects, .int f_top, .ref r_lock, .ref r_spare, .int f_leastFree, .int f_highest, .ref r_faults, .ref r_faultLocks, .ref r_touched, .ref r_open, .int f_opened])), (r_lock, .inl (g 0, 801, .inl d_lock)), (r_faultLocks, .inr (3, [.ref i_faultLocks, .int (nI s_faultLocks)])), (i_faultLocks, .inl (g 0, c_faultLocks, .inl d_faultLocks))] sz) := by
  refine ofV (by decide +kernel) (Nat.le_of_ble_eq_true rfl) ?_
  intro p e s m args below meth c A Q ls H locs G hsz hP hD hS hl hret
  subst hsz
  have hl : lv_has ls 3 [(0, .ref h0), (1, .int rr), (2, .int t9)] := hl
  refine lv_aload_n G.1 G.2.1 d_Hp_enter_0 rfl (lv_at hl 0 rfl) ?_
  refine lv_iload_n G.1 G.2.1 d_Hp_enter_1 rfl (lv_at hl 1 rfl) ?_
  refine lv_aload_n G.1 G.2.1 d_Hp_enter_2 rfl (lv_at hl 0 rfl) ?_
  refine lv_iload_n G.1 G.2.1 d_Hp_enter_3 rfl (lv_at hl 1 rfl) ?_
  refine kEi (wr := []) G (kV (As := [.int rr]) (rest := [.int rr, .ref h0]) G hP hD hS [0, 1, 2, 3] rfl rfl (c_Hp_lockOf l D g h0 rr r_kind r_base r_length r_data f_objects f_top r_lock r_spare f_leastFree f_highest r_faults r_faultLocks r_touched r_open f_opened d_lock i_faultLocks s_faultLocks c_faultLocks d_faultLocks H.size hs_faultLocks hc_faultLocks) w_Hp_lockOf q1849 rfl rfl ⟨Nat.le_of_ble_eq_true rfl, Nat.le_of_ble_eq_true rfl⟩ (fun _ h => absurd h List.not_mem_nil) 0 (ci := 2) rfl rfl rfl hl.1 rfl (Nat.le_of_ble_eq_true rfl) rfl ⟨Nat.le_of_ble_eq_true rfl, (Nat.le_of_ble_eq_true rfl)⟩ d_Hp_enter_4) hP hD hS [0, 1, 2, 3] [] rfl rfl rfl rfl (fun r_1 u_2 H locs hw hP hD hS hzH => ?_)
  have hw : True := hw
  have hP : va_P D CL [(h0, .inr (2, [.ref r_kind, .ref r_base, .ref r_length, .ref r_data, .int f_objects, .int f_top, .ref r_lock, .ref r_spare, .int f_leastFree, .int f_highest, .ref r_faults, .ref r_faultLocks, .ref r_touched, .ref r_open, .int f_opened])), (r_lock, .inl (g 0, 801, .inl d_lock)), (r_faultLocks, .inr (3, [.ref i_faultLocks, .int (nI s_faultLocks)])), (i_faultLocks, .inl (g 0, c_faultLocks, .inl d_faultLocks))] H := hP
  have hD : va_D A [(h0, .inr (2, [.ref r_kind, .ref r_base, .ref r_length, .ref r_data, .int f_objects, .int f_top, .ref r_lock, .ref r_spare, .int f_leastFree, .int f_highest, .ref r_faults, .ref r_faultLocks, .ref r_touched, .ref r_open, .int f_opened])), (r_lock, .inl (g 0, 801, .inl d_lock)), (r_faultLocks, .inr (3, [.ref i_faultLocks, .int (nI s_faultLocks)])), (i_faultLocks, .inl (g 0, c_faultLocks, .inl d_faultLocks))] := hD
  refine lv_iconst (v := nI 4) G.1 G.2.1 d_Hp_enter_7 (by decide) ?_
  refine lv_idiv G.1 G.2.1 d_Hp_enter_8 (by decide) ?_
  refine lv_iconst (v := nI 4) G.1 G.2.1 d_Hp_enter_9 (by decide) ?_
  refine lv_imul G.1 G.2.1 d_Hp_enter_10 ?_
  refine lv_iconst (v := nI 4) G.1 G.2.1 d_Hp_enter_11 (by decide) ?_
  refine lv_iadd G.1 G.2.1 d_Hp_enter_12 ?_
  refine W.eq (g2 := F0 m 13 ls [.int (((r_1 / (nI 4)) * (nI 4)) + (nI 4)), .int rr, .ref h0]) rfl ?_
  refine lv_iload_n G.1 G.2.1 d_Hp_enter_13 rfl (lv_at hl 2 rfl) ?_
  refine lv_iadd G.1 G.2.1 d_Hp_enter_14 ?_
  refine kEv (wr := []) G (kV (As := [.int rr, .int ((((r_1 / (nI 4)) * (nI 4)) + (nI 4)) + t9)]) (rest := []) G hP hD hS [0, 1, 2, 3] rfl rfl (c_Hp_setLock l D g h0 rr ((((r_1 / (nI 4)) * (nI 4)) + (nI 4)) + t9) r_kind r_base r_length r_data f_objects f_top r_lock r_spare f_leastFree f_highest r_faults r_faultLocks r_touched r_open f_opened d_lock i_faultLocks s_faultLocks c_faultLocks d_faultLocks H.size hs_faultLocks hc_faultLocks) w_Hp_setLock q2032 rfl rfl ⟨Nat.le_of_ble_eq_true rfl, Nat.le_of_ble_eq_true rfl⟩ (fun _ h => absurd h List.not_mem_nil) 0 (ci := 2) rfl rfl rfl hl.1 rfl (Nat.le_of_ble_eq_true rfl) rfl ⟨Nat.le_of_ble_eq_true rfl, (Nat.le_of_ble_eq_true rfl)⟩ d_Hp_enter_15) hP hD hS [0, 1, 2, 3] [] rfl rfl rfl rfl (fun u_4 H locs hw hP hD hS hzH => ?_)
  obtain ⟨x_5, x_6⟩ := u_4
  have hw : True := hw
  have hP : va_P D CL [(h0, .inr (2, [.ref r_kind, .ref r_base, .ref r_length, .ref r_data, .int f_objects, .int f_top, .ref r_lock, .ref r_spare, .int f_leastFree, .int f_highest, .ref r_faults, .ref r_faultLocks, .ref r_touched, .ref r_open, .int f_opened])), (r_lock, .inl (g 0, 801, .inl x_5)), (r_faultLocks, .inr (3, [.ref i_faultLocks, .int (nI s_faultLocks)])), (i_faultLocks, .inl (g 0, c_faultLocks, .inl x_6))] H := hP
  have hD : va_D A [(h0, .inr (2, [.ref r_kind, .ref r_base, .ref r_length, .ref r_data, .int f_objects, .int f_top, .ref r_lock, .ref r_spare, .int f_leastFree, .int f_highest, .ref r_faults, .ref r_faultLocks, .ref r_touched, .ref r_open, .int f_opened])), (r_lock, .inl (g 0, 801, .inl x_5)), (r_faultLocks, .inr (3, [.ref i_faultLocks, .int (nI s_faultLocks)])), (i_faultLocks, .inl (g 0, c_faultLocks, .inl x_6))] := hD
  refine hret (x_5, x_6) _ _ _ _ _ ls (show True from trivial) (hP.sub [0, 1, 2, 3] rfl) (hD.sub [0, 1, 2, 3] (by decide) rfl) hS (Nat.le_of_ble_eq_true rfl) (Nat.le_of_ble_eq_true rfl) d_Hp_enter_18
def y_Hp_leave : MethodName := ⟨"ClassWorks$Heap", "leave", "(I)V"⟩
abbrev b_Hp_leave : ByteArray := prog_4_method_13_code
theorem d_Hp_leave_0 : decode b_Hp_leave 0 = .ok (.aload_n 0, 1) := by decide +kernel
theorem d_Hp_leave_1 : decode b_Hp_leave 1 = .ok (.iload_n 1, 1) := by decide +kernel
theorem d_Hp_leave_2 : decode b_Hp_leave 2 = .ok (.aload_n 0, 1) := by decide +kernel
theorem d_Hp_leave_3 : decode b_Hp_leave 3 = .ok (.iload_n 1, 1) := by decide +kernel
theorem d_Hp_leave_4 : decode b_Hp_leave 4 = .ok (.invokevirtual 87, 3) := by decide +kernel
theorem d_Hp_leave_7 : decode b_Hp_leave 7 = .ok (.iconst 4, 1) := by decide +kernel
theorem d_Hp_leave_8 : decode b_Hp_leave 8 = .ok (.isub, 1) := by decide +kernel
theorem d_Hp_leave_9 : decode b_Hp_leave 9 = .ok (.invokevirtual 90, 3) := by decide +kernel
theorem d_Hp_leave_12 : decode b_Hp_leave 12 = .ok (.return_, 1) := by decide +kernel
abbrev rm_Hp_leave : Room := { frames := 1, cells := 0, slots := 0, locals := 23 }
set_option maxHeartbeats 4000000 in
set_option maxRecDepth 100000 in
/-- leave -/
theorem c_Hp_leave (l : Launch) (D : va_G) (g : Nat → ClassId) (h0 : Nat) (rr : Int32) (r_kind : Nat) (r_base : Nat) (r_length : Nat) (r_data : Nat) (f_objects : Int32) (f_top : Int32) (r_lock : Nat) (r_spare : Nat) (f_leastFree : Int32) (f_highest : Int32) (r_faults : Nat) (r_faultLocks : Nat) (r_touched : Nat) (r_open : Nat) (f_opened : Int32) (d_lock : Nat → Int32) (i_faultLocks : Nat) (s_faultLocks : Nat) (c_faultLocks : Nat) (d_faultLocks : Nat → Int32) (sz : Nat) (hs_faultLocks : s_faultLocks ≤ c_faultLocks) (hc_faultLocks : c_faultLocks < 2 ^ 24) : Met l y_Hp_leave (mw y_Hp_leave b_Hp_leave 2 (none)) (rm_Hp_leave) (PC g D [] [.ref h0, .int rr] sz [(h0, .inr (2, [.ref r_kind, .ref r_base, .ref r_length, .ref r_data, .int f_objects, .int f_top, .ref r_lock, .ref r_spare, .int f_leastFree, .int f_highest, .ref r_faults, .ref r_faultLocks, .ref r_touched, .ref r_open, .int f_opened])), (r_lock, .inl (g 0, 801, .inl d_lock)), (r_faultLocks, .inr (3, [.ref i_faultLocks, .int (nI s_faultLocks)])), (i_faultLocks, .inl (g 0, c_faultLocks, .inl d_faultLocks))]) (va_Qv (fun u : (Nat → Int32) × (Nat → Int32) => True) (QW D (va_A [(h0, .inr (2, [.ref r_kind, .ref r_base, .ref r_length, .ref r_data, .int f_objects, .int f_top, .ref r_lock, .ref r_spare, .int f_leastFree, .int f_highest, .ref r_faults, .ref r_faultLocks, .ref r_touched, .ref r_open, .int f_opened])), (r_lock, .inl (g 0, 801, .inl d_lock)), (r_faultLocks, .inr (3, [.ref i_faultLocks, .int (nI s_faultLocks)])), (i_faultLocks, .inl (g 0, c_faultLocks, .inl d_faultLocks))] sz) (fun u : (Nat → Int32) × (Nat → Int32) => [(h0, .inr (2, [.ref r_kind, .ref r_base, .ref r_length, .ref r_data, .int f_objects, .int f_top, .ref r_lock, .ref r_spare, .int f_leastFree, .int f_highest, .ref r_faults, .ref r_faultLocks, .ref r_touched, .ref r_open, .int f_opened])), (r_lock, .inl (g 0, 801, .inl u.1)), (r_faultLocks, .inr (3, [.ref i_faultLocks, .int (nI s_faultLocks)])), (i_faultLocks, .inl (g 0, c_faultLocks, .inl u.2))])) (va_A [(h0, .inr (2, [.ref r_kind, .ref r_base, .ref r_length, .ref r_data, .int f_objects, .int f_top, .ref r_lock, .ref r_spare, .int f_leastFree, .int f_highest, .ref r_faults, .ref r_faultLocks, .ref r_touched, .ref r_open, .int f_opened])), (r_lock, .inl (g 0, 801, .inl d_lock)), (r_faultLocks, .inr (3, [.ref i_faultLocks, .int (nI s_faultLocks)])), (i_faultLocks, .inl (g 0, c_faultLocks, .inl d_faultLocks))] sz)) 0 0 (va_A [(h0, .inr (2, [.ref r_kind, .ref r_base, .ref r_length, .ref r_data, .int f_objects, .int f_top, .ref r_lock, .ref r_spare, .int f_leastFree, .int f_highest, .ref r_faults, .ref r_faultLocks, .ref r_touched, .ref r_open, .int f_opened])), (r_lock, .inl (g 0, 801, .inl d_lock)), (r_faultLocks, .inr (3, [.ref i_faultLocks, .int (nI s_faultLocks)])), (i_faultLocks, .inl (g 0, c_faultLocks, .inl d_faultLocks))] sz) := by
  refine ofV (by decide +kernel) (Nat.le_of_ble_eq_true rfl) ?_
  intro p e s m args below meth c A Q ls H locs G hsz hP hD hS hl hret
  subst hsz
  have hl : lv_has ls 2 [(0, .ref h0), (1, .int rr)] := hl
  refine lv_aload_n G.1 G.2.1 d_Hp_leave_0 rfl (lv_at hl 0 rfl) ?_
  refine lv_iload_n G.1 G.2.1 d_Hp_leave_1 rfl (lv_at hl 1 rfl) ?_
  refine lv_aload_n G.1 G.2.1 d_Hp_leave_2 rfl (lv_at hl 0 rfl) ?_
  refine lv_iload_n G.1 G.2.1 d_Hp_leave_3 rfl (lv_at hl 1 rfl) ?_
  refine kEi (wr := []) G (kV (As := [.int rr]) (rest := [.int rr, .ref h0]) G hP hD hS [0, 1, 2, 3] rfl rfl (c_Hp_lockOf l D g h0 rr r_kind r_base r_length r_data f_objects f_top r_lock r_spare f_leastFree f_highest r_faults r_faultLocks r_touched r_open f_opened d_lock i_faultLocks s_faultLocks c_faultLocks d_faultLocks H.size hs_faultLocks hc_faultLocks) w_Hp_lockOf q1849 rfl rfl ⟨Nat.le_of_ble_eq_true rfl, Nat.le_of_ble_eq_true rfl⟩ (fun _ h => absurd h List.not_mem_nil) 0 (ci := 2) rfl rfl rfl hl.1 rfl (Nat.le_of_ble_eq_true rfl) rfl ⟨Nat.le_of_ble_eq_true rfl, (Nat.le_of_ble_eq_true rfl)⟩ d_Hp_leave_4) hP hD hS [0, 1, 2, 3] [] rfl rfl rfl rfl (fun r_1 u_2 H locs hw hP hD hS hzH => ?_)
  have hw : True := hw
  have hP : va_P D CL [(h0, .inr (2, [.ref r_kind, .ref r_base, .ref r_length, .ref r_data, .int f_objects, .int f_top, .ref r_lock, .ref r_spare, .int f_leastFree, .int f_highest, .ref r_faults, .ref r_faultLocks, .ref r_touched, .ref r_open, .int f_opened])), (r_lock, .inl (g 0, 801, .inl d_lock)), (r_faultLocks, .inr (3, [.ref i_faultLocks, .int (nI s_faultLocks)])), (i_faultLocks, .inl (g 0, c_faultLocks, .inl d_faultLocks))] H := hP
  have hD : va_D A [(h0, .inr (2, [.ref r_kind, .ref r_base, .ref r_length, .ref r_data, .int f_objects, .int f_top, .ref r_lock, .ref r_spare, .int f_leastFree, .int f_highest, .ref r_faults, .ref r_faultLocks, .ref r_touched, .ref r_open, .int f_opened])), (r_lock, .inl (g 0, 801, .inl d_lock)), (r_faultLocks, .inr (3, [.ref i_faultLocks, .int (nI s_faultLocks)])), (i_faultLocks, .inl (g 0, c_faultLocks, .inl d_faultLocks))] := hD
  refine lv_iconst (v := nI 4) G.1 G.2.1 d_Hp_leave_7 (by decide) ?_
  refine lv_isub G.1 G.2.1 d_Hp_leave_8 ?_
  refine kEv (wr := []) G (kV (As := [.int rr, .int (r_1 - (nI 4))]) (rest := []) G hP hD hS [0, 1, 2, 3] rfl rfl (c_Hp_setLock l D g h0 rr (r_1 - (nI 4)) r_kind r_base r_length r_data f_objects f_top r_lock r_spare f_leastFree f_highest r_faults r_faultLocks r_touched r_open f_opened d_lock i_faultLocks s_faultLocks c_faultLocks d_faultLocks H.size hs_faultLocks hc_faultLocks) w_Hp_setLock q2032 rfl rfl ⟨Nat.le_of_ble_eq_true rfl, Nat.le_of_ble_eq_true rfl⟩ (fun _ h => absurd h List.not_mem_nil) 0 (ci := 2) rfl rfl rfl hl.1 rfl (Nat.le_of_ble_eq_true rfl) rfl ⟨Nat.le_of_ble_eq_true rfl, (Nat.le_of_ble_eq_true rfl)⟩ d_Hp_leave_9) hP hD hS [0, 1, 2, 3] [] rfl rfl rfl rfl (fun u_4 H locs hw hP hD hS hzH => ?_)
  obtain ⟨x_5, x_6⟩ := u_4
  have hw : True := hw
  have hP : va_P D CL [(h0, .inr (2, [.ref r_kind, .ref r_base, .ref r_length, .ref r_data, .int f_objects, .int f_top, .ref r_lock, .ref r_spare, .int f_leastFree, .int f_highest, .ref r_faults, .ref r_faultLocks, .ref r_touched, .ref r_open, .int f_opened])), (r_lock, .inl (g 0, 801, .inl x_5)), (r_faultLocks, .inr (3, [.ref i_faultLocks, .int (nI s_faultLocks)])), (i_faultLocks, .inl (g 0, c_faultLocks, .inl x_6))] H := hP
  have hD : va_D A [(h0, .inr (2, [.ref r_kind, .ref r_base, .ref r_length, .ref r_data, .int f_objects, .int f_top, .ref r_lock, .ref r_spare, .int f_leastFree, .int f_highest, .ref r_faults, .ref r_faultLocks, .ref r_touched, .ref r_open, .int f_opened])), (r_lock, .inl (g 0, 801, .inl x_5)), (r_faultLocks, .inr (3, [.ref i_faultLocks, .int (nI s_faultLocks)])), (i_faultLocks, .inl (g 0, c_faultLocks, .inl x_6))] := hD
  refine hret (x_5, x_6) _ _ _ _ _ ls (show True from trivial) (hP.sub [0, 1, 2, 3] rfl) (hD.sub [0, 1, 2, 3] (by decide) rfl) hS (Nat.le_of_ble_eq_true rfl) (Nat.le_of_ble_eq_true rfl) d_Hp_leave_12
def y_Hp_nextTouched : MethodName := ⟨"ClassWorks$Heap", "nextTouched", "()I"⟩
abbrev b_Hp_nextTouched : ByteArray := prog_4_method_20_code
theorem q935 : Cond.fieldLink "ClassWorks$Heap" 62 "ClassWorks$Heap" "opened" "I" ∈ lw_ok := lw_okmem (List.mem_of_getElem? (i := 935) (by decide +kernel)) rfl
theorem q934 : Cond.fieldLink "ClassWorks$Heap" 59 "ClassWorks$Heap" "open" "[I" ∈ lw_ok := lw_okmem (List.mem_of_getElem? (i := 934) (by decide +kernel)) rfl
theorem d_Hp_nextTouched_0 : decode b_Hp_nextTouched 0 = .ok (.aload_n 0, 1) := by decide +kernel
theorem d_Hp_nextTouched_1 : decode b_Hp_nextTouched 1 = .ok (.getfield 62, 3) := by decide +kernel
theorem d_Hp_nextTouched_4 : decode b_Hp_nextTouched 4 = .ok (.ifCond .ne 5, 3) := by decide +kernel
theorem d_Hp_nextTouched_7 : decode b_Hp_nextTouched 7 = .ok (.iconst 0, 1) := by decide +kernel
theorem d_Hp_nextTouched_8 : decode b_Hp_nextTouched 8 = .ok (.ireturn, 1) := by decide +kernel
theorem d_Hp_nextTouched_9 : decode b_Hp_nextTouched 9 = .ok (.aload_n 0, 1) := by decide +kernel
theorem d_Hp_nextTouched_10 : decode b_Hp_nextTouched 10 = .ok (.dup, 1) := by decide +kernel
theorem d_Hp_nextTouched_11 : decode b_Hp_nextTouched 11 = .ok (.getfield 62, 3) := by decide +kernel
theorem d_Hp_nextTouched_14 : decode b_Hp_nextTouched 14 = .ok (.iconst 1, 1) := by decide +kernel
theorem d_Hp_nextTouched_15 : decode b_Hp_nextTouched 15 = .ok (.isub, 1) := by decide +kernel
theorem d_Hp_nextTouched_16 : decode b_Hp_nextTouched 16 = .ok (.putfield 62, 3) := by decide +kernel
theorem d_Hp_nextTouched_19 : decode b_Hp_nextTouched 19 = .ok (.aload_n 0, 1) := by decide +kernel
theorem d_Hp_nextTouched_20 : decode b_Hp_nextTouched 20 = .ok (.getfield 59, 3) := by decide +kernel
theorem d_Hp_nextTouched_23 : decode b_Hp_nextTouched 23 = .ok (.aload_n 0, 1) := by decide +kernel
theorem d_Hp_nextTouched_24 : decode b_Hp_nextTouched 24 = .ok (.getfield 62, 3) := by decide +kernel
theorem d_Hp_nextTouched_27 : decode b_Hp_nextTouched 27 = .ok (.iaload, 1) := by decide +kernel
theorem d_Hp_nextTouched_28 : decode b_Hp_nextTouched 28 = .ok (.ireturn, 1) := by decide +kernel
abbrev rm_Hp_nextTouched : Room := { frames := 0, cells := 0, slots := 0, locals := 0 }
set_option maxHeartbeats 4000000 in
set_option maxRecDepth 100000 in
/-- nextTouched -/
theorem c_Hp_nextTouched (l : Launch) (D : va_G) (g : Nat → ClassId) (h0 : Nat) (r_kind : Nat) (r_base : Nat) (r_length : Nat) (r_data : Nat) (f_objects : Int32) (f_top : Int32) (r_lock : Nat) (r_spare : Nat) (f_leastFree : Int32) (f_highest : Int32) (r_faults : Nat) (r_faultLocks : Nat) (r_touched : Nat) (r_open : Nat) (nop : Nat) (d_kind : Nat → Int32) (d_touched : Nat → Int32) (d_open : Nat → Int32) (sz : Nat) (hno : nop ≤ 801) : Met l y_Hp_nextTouched (mw y_Hp_nextTouched b_Hp_nextTouched 1 (some .int)) (rm_Hp_nextTouched) (PC g D [] [.ref h0] sz [(h0, .inr (2, [.ref r_kind, .ref r_base, .ref r_length, .ref r_data, .int f_objects, .int f_top, .ref r_lock, .ref r_spare, .int f_leastFree, .int f_highest, .ref r_faults, .ref r_faultLocks, .ref r_touched, .ref r_open, .int (nI nop)])), (r_kind, .inl (g 0, 801, .inl d_kind)), (r_touched, .inl (g 1, 801, .inl d_touched)), (r_open, .inl (g 0, 801, .inl d_open))]) (va_Qi (fun (r : Int32) (u : Nat) => (nop = 0 ∧ u = nop ∧ r = 0) ∨ (nop = u + 1 ∧ r = d_open u)) (QW D (va_A [(h0, .inr (2, [.ref r_kind, .ref r_base, .ref r_length, .ref r_data, .int f_objects, .int f_top, .ref r_lock, .ref r_spare, .int f_leastFree, .int f_highest, .ref r_faults, .ref r_faultLocks, .ref r_touched, .ref r_open, .int (nI nop)])), (r_kind, .inl (g 0, 801, .inl d_kind)), (r_touched, .inl (g 1, 801, .inl d_touched)), (r_open, .inl (g 0, 801, .inl d_open))] sz) (fun u : Nat => [(h0, .inr (2, [.ref r_kind, .ref r_base, .ref r_length, .ref r_data, .int f_objects, .int f_top, .ref r_lock, .ref r_spare, .int f_leastFree, .int f_highest, .ref r_faults, .ref r_faultLocks, .ref r_touched, .ref r_open, .int (nI u)])), (r_kind, .inl (g 0, 801, .inl d_kind)), (r_touched, .inl (g 1, 801, .inl d_touched)), (r_open, .inl (g 0, 801, .inl d_open))])) (va_A [(h0, .inr (2, [.ref r_kind, .ref r_base, .ref r_length, .ref r_data, .int f_objects, .int f_top, .ref r_lock, .ref r_spare, .int f_leastFree, .int f_highest, .ref r_faults, .ref r_faultLocks, .ref r_touched, .ref r_open, .int (nI nop)])), (r_kind, .inl (g 0, 801, .inl d_kind)), (r_touched, .inl (g 1, 801, .inl d_touched)), (r_open, .inl (g 0, 801, .inl d_open))] sz)) 0 0 (va_A [(h0, .inr (2, [.ref r_kind, .ref r_base, .ref r_length, .ref r_data, .int f_objects, .int f_top, .ref r_lock, .ref r_spare, .int f_leastFree, .int f_highest, .ref r_faults, .ref r_faultLocks, .ref r_touched, .ref r_open, .int (nI nop)])), (r_kind, .inl (g 0, 801, .inl d_kind)), (r_touched, .inl (g 1, 801, .inl d_touched)), (r_open, .inl (g 0, 801, .inl d_open))] sz) := by
  refine ofI (by decide +kernel) (Nat.le_of_ble_eq_true rfl) ?_
  intro p e s m args below meth c A Q ls H locs G hsz hP hD hS hl hret
  subst hsz
  have hl : lv_has ls 1 [(0, .ref h0)] := hl
  refine lv_aload_n G.1 G.2.1 d_Hp_nextTouched_0 rfl (lv_at hl 0 rfl) ?_
  refine kg (ci := 2) G iHp hP 0 rfl rfl 14 (by decide) q935 rfl rfl d_Hp_nextTouched_1 ?_
  refine lv_if_ne (tgt := 9) G.1 G.2.1 d_Hp_nextTouched_4 (by decide) (fun c4 => ?_) (fun c4 => ?_)
  · skip
    have c4 : ¬ (nop = 0) := fun h => c4 ((nI_z_eq (by omega)).mpr h)
    refine lv_aload_n G.1 G.2.1 d_Hp_nextTouched_9 rfl (lv_at hl 0 rfl) ?_
    refine lv_dup G.1 G.2.1 d_Hp_nextTouched_10 rfl ?_
    refine kg (ci := 2) G iHp hP 0 rfl rfl 14 (by decide) q935 rfl rfl d_Hp_nextTouched_11 ?_
    refine lv_iconst (v := nI 1) G.1 G.2.1 d_Hp_nextTouched_14 (by decide) ?_
    refine lv_isub G.1 G.2.1 d_Hp_nextTouched_15 ?_
    refine tpi (w := nI (nop - 1)) (pk_sub (by omega)) ?_
    refine kp (ci := 2) G iHp tHp tHp_ok nHp hP hD hS 0 rfl rfl 14 (by decide) q935 rfl rfl rfl rfl (Nat.le_of_ble_eq_true rfl) d_Hp_nextTouched_16 (fun H locs hP hD hS => ?_)
    have hP : va_P D CL [(h0, .inr (2, [.ref r_kind, .ref r_base, .ref r_length, .ref r_data, .int f_objects, .int f_top, .ref r_lock, .ref r_spare, .int f_leastFree, .int f_highest, .ref r_faults, .ref r_faultLocks, .ref r_touched, .ref r_open, .int (nI (nop - 1))])), (r_kind, .inl (g 0, 801, .inl d_kind)), (r_touched, .inl (g 1, 801, .inl d_touched)), (r_open, .inl (g 0, 801, .inl d_open))] H := hP
    have hD : va_D A [(h0, .inr (2, [.ref r_kind, .ref r_base, .ref r_length, .ref r_data, .int f_objects, .int f_top, .ref r_lock, .ref r_spare, .int f_leastFree, .int f_highest, .ref r_faults, .ref r_faultLocks, .ref r_touched, .ref r_open, .int (nI (nop - 1))])), (r_kind, .inl (g 0, 801, .inl d_kind)), (r_touched, .inl (g 1, 801, .inl d_touched)), (r_open, .inl (g 0, 801, .inl d_open))] := hD
    refine lv_aload_n G.1 G.2.1 d_Hp_nextTouched_19 rfl (lv_at hl 0 rfl) ?_
    refine kg (ci := 2) G iHp hP 0 rfl rfl 13 (by decide) q934 rfl rfl d_Hp_nextTouched_20 ?_
    refine W.eq (g2 := F0 m 23 ls [.ref r_open]) rfl ?_
    refine lv_aload_n G.1 G.2.1 d_Hp_nextTouched_23 rfl (lv_at hl 0 rfl) ?_
    refine kg (ci := 2) G iHp hP 0 rfl rfl 14 (by decide) q935 rfl rfl d_Hp_nextTouched_24 ?_
    refine kiald G hP 3 0 rfl rfl (by omega) (by omega) d_Hp_nextTouched_27 ?_
    refine hret (d_open (nop - 1)) (nop - 1) _ _ _ _ _ ls (show (nop = 0 ∧ (nop - 1) = nop ∧ (d_open (nop - 1)) = 0) ∨ (nop = (nop - 1) + 1 ∧ (d_open (nop - 1)) = d_open (nop - 1)) from (Or.inr ⟨by omega, rfl⟩)) (hP.sub [0, 1, 2, 3] rfl) (hD.sub [0, 1, 2, 3] (by decide) rfl) hS (Nat.le_of_ble_eq_true rfl) (Nat.le_of_ble_eq_true rfl) d_Hp_nextTouched_28
  · skip
    have c4 : nop = 0 := (nI_z_eq (by omega)).mp c4
    refine lv_iconst (v := nI 0) G.1 G.2.1 d_Hp_nextTouched_7 (by decide) ?_
    refine hret (nI 0) nop _ _ _ _ _ ls (show (nop = 0 ∧ nop = nop ∧ (nI 0) = 0) ∨ (nop = nop + 1 ∧ (nI 0) = d_open nop) from (Or.inl ⟨by omega, rfl, rfl⟩)) (hP.sub [0, 1, 2, 3] rfl) (hD.sub [0, 1, 2, 3] (by decide) rfl) hS (Nat.le_of_ble_eq_true rfl) (Nat.le_of_ble_eq_true rfl) d_Hp_nextTouched_8
def y_Hp_makeFault : MethodName := ⟨"ClassWorks$Heap", "makeFault", "(I)I"⟩
abbrev b_Hp_makeFault : ByteArray := prog_4_method_5_code
theorem q2048 : Cond.methodLink "ClassWorks$Heap" 80 y_In_add ∈ lw_ok := lw_okmem (List.mem_of_getElem? (i := 2048) (by decide +kernel)) rfl
theorem d_Hp_makeFault_0 : decode b_Hp_makeFault 0 = .ok (.aload_n 0, 1) := by decide +kernel
theorem d_Hp_makeFault_1 : decode b_Hp_makeFault 1 = .ok (.getfield 52, 3) := by decide +kernel
theorem d_Hp_makeFault_4 : decode b_Hp_makeFault 4 = .ok (.iconst 0, 1) := by decide +kernel
theorem d_Hp_makeFault_5 : decode b_Hp_makeFault 5 = .ok (.invokevirtual 80, 3) := by decide +kernel
theorem d_Hp_makeFault_8 : decode b_Hp_makeFault 8 = .ok (.pop, 1) := by decide +kernel
theorem d_Hp_makeFault_9 : decode b_Hp_makeFault 9 = .ok (.sipush 1001, 3) := by decide +kernel
theorem d_Hp_makeFault_12 : decode b_Hp_makeFault 12 = .ok (.aload_n 0, 1) := by decide +kernel
theorem d_Hp_makeFault_13 : decode b_Hp_makeFault 13 = .ok (.getfield 48, 3) := by decide +kernel
theorem d_Hp_makeFault_16 : decode b_Hp_makeFault 16 = .ok (.iload_n 1, 1) := by decide +kernel
theorem d_Hp_makeFault_17 : decode b_Hp_makeFault 17 = .ok (.invokevirtual 80, 3) := by decide +kernel
theorem d_Hp_makeFault_20 : decode b_Hp_makeFault 20 = .ok (.iadd, 1) := by decide +kernel
theorem d_Hp_makeFault_21 : decode b_Hp_makeFault 21 = .ok (.ireturn, 1) := by decide +kernel
abbrev rm_Hp_makeFault (s_faults : Nat) (s_faultLocks : Nat) : Room := { frames := 3, cells := (s_faults + s_faultLocks + 20), slots := 2 * (s_faults + s_faultLocks + 20), locals := 163 }
set_option maxHeartbeats 4000000 in
set_option maxRecDepth 100000 in
/-- makeFault -/
theorem c_Hp_makeFault (l : Launch) (D : va_G) (g : Nat → ClassId) (h0 : Nat) (cd : Int32) (r_kind : Nat) (r_base : Nat) (r_length : Nat) (r_data : Nat) (f_objects : Int32) (f_top : Int32) (r_lock : Nat) (r_spare : Nat) (f_leastFree : Int32) (f_highest : Int32) (r_faults : Nat) (r_faultLocks : Nat) (r_touched : Nat) (r_open : Nat) (f_opened : Int32) (i_faults : Nat) (s_faults : Nat) (c_faults : Nat) (d_faults : Nat → Int32) (i_faultLocks : Nat) (s_faultLocks : Nat) (c_faultLocks : Nat) (d_faultLocks : Nat → Int32) (sz uz : Nat) (hs_faults : s_faults ≤ c_faults) (hc_faults : c_faults < 2 ^ 24) (hs_faultLocks : s_faultLocks ≤ c_faultLocks) (hc_faultLocks : c_faultLocks < 2 ^ 24) : Met l y_Hp_makeFault (mw y_Hp_makeFault b_Hp_makeFault 2 (some .int)) (rm_Hp_makeFault s_faults s_faultLocks) (PCu g D [] [.ref h0, .int cd] sz uz [(h0, .inr (2, [.ref r_kind, .ref r_base, .ref r_length, .ref r_data, .int f_objects, .int f_top, .ref r_lock, .ref r_spare, .int f_leastFree, .int f_highest, .ref r_faults, .ref r_faultLocks, .ref r_touched, .ref r_open, .int f_opened])), (r_faults, .inr (3, [.ref i_faults, .int (nI s_faults)])), (i_faults, .inl (g 0, c_faults, .inl d_faults)), (r_faultLocks, .inr (3, [.ref i_faultLocks, .int (nI s_faultLocks)])), (i_faultLocks, .inl (g 0, c_faultLocks, .inl d_faultLocks))]) (va_Qi (fun (r : Int32) (u : Nat × Nat × (Nat → Int32) × Nat × Nat × (Nat → Int32)) => s_faults + 1 ≤ u.2.2.2.2.1 ∧ s_faultLocks + 1 ≤ u.2.1 ∧ u.2.2.2.2.2 s_faults = cd ∧ (∀ i, i < s_faults → u.2.2.2.2.2 i = d_faults i) ∧ (u.2.1 = c_faultLocks ∨ u.2.1 ≤ 2 * s_faultLocks + 8) ∧ (u.2.2.2.2.1 = c_faults ∨ u.2.2.2.2.1 ≤ 2 * s_faults + 8)) (QU D (va_A [(h0, .inr (2, [.ref r_kind, .ref r_base, .ref r_length, .ref r_data, .int f_objects, .int f_top, .ref r_lock, .ref r_spare, .int f_leastFree, .int f_highest, .ref r_faults, .ref r_faultLocks, .ref r_touched, .ref r_open, .int f_opened])), (r_faults, .inr (3, [.ref i_faults, .int (nI s_faults)])), (i_faults, .inl (g 0, c_faults, .inl d_faults)), (r_faultLocks, .inr (3, [.ref i_faultLocks, .int (nI s_faultLocks)])), (i_faultLocks, .inl (g 0, c_faultLocks, .inl d_faultLocks))] sz) (fun u : Nat × Nat × (Nat → Int32) × Nat × Nat × (Nat → Int32) => [(h0, .inr (2, [.ref r_kind, .ref r_base, .ref r_length, .ref r_data, .int f_objects, .int f_top, .ref r_lock, .ref r_spare, .int f_leastFree, .int f_highest, .ref r_faults, .ref r_faultLocks, .ref r_touched, .ref r_open, .int f_opened])), (r_faults, .inr (3, [.ref u.2.2.2.1, .int (nI (s_faults + 1))])), (u.2.2.2.1, .inl (g 0, u.2.2.2.2.1, .inl u.2.2.2.2.2)), (r_faultLocks, .inr (3, [.ref u.1, .int (nI (s_faultLocks + 1))])), (u.1, .inl (g 0, u.2.1, .inl u.2.2.1))]) sz uz (fun u : Nat × Nat × (Nat → Int32) × Nat × Nat × (Nat → Int32) => (u.2.1 - c_faultLocks) + (u.2.2.2.2.1 - c_faults)) (fun u : Nat × Nat × (Nat → Int32) × Nat × Nat × (Nat → Int32) => 2 * ((u.2.1 - c_faultLocks) + (u.2.2.2.2.1 - c_faults)))) (va_A [(h0, .inr (2, [.ref r_kind, .ref r_base, .ref r_length, .ref r_data, .int f_objects, .int f_top, .ref r_lock, .ref r_spare, .int f_leastFree, .int f_highest, .ref r_faults, .ref r_faultLocks, .ref r_touched, .ref r_open, .int f_opened])), (r_faults, .inr (3, [.ref i_faults, .int (nI s_faults)])), (i_faults, .inl (g 0, c_faults, .inl d_faults)), (r_faultLocks, .inr (3, [.ref i_faultLocks, .int (nI s_faultLocks)])), (i_faultLocks, .inl (g 0, c_faultLocks, .inl d_faultLocks))] sz)) (s_faults + s_faultLocks + 20) (2 * (s_faults + s_faultLocks + 20)) (va_A [(h0, .inr (2, [.ref r_kind, .ref r_base, .ref r_length, .ref r_data, .int f_objects, .int f_top, .ref r_lock, .ref r_spare, .int f_leastFree, .int f_highest, .ref r_faults, .ref r_faultLocks, .ref r_touched, .ref r_open, .int f_opened])), (r_faults, .inr (3, [.ref i_faults, .int (nI s_faults)])), (i_faults, .inl (g 0, c_faults, .inl d_faults)), (r_faultLocks, .inr (3, [.ref i_faultLocks, .int (nI s_faultLocks)])), (i_faultLocks, .inl (g 0, c_faultLocks, .inl d_faultLocks))] sz) := by
  refine ofIu (by decide +kernel) (Nat.le_of_ble_eq_true rfl) ?_
  intro p e s m args below meth c A Q ls H locs G hsz hP hD hS hl hret
  subst hsz
  have hl : lv_has ls 2 [(0, .ref h0), (1, .int cd)] := hl
  refine lv_aload_n G.1 G.2.1 d_Hp_makeFault_0 rfl (lv_at hl 0 rfl) ?_
  refine kg (ci := 2) G iHp hP 0 rfl rfl 11 (by decide) q932 rfl rfl d_Hp_makeFault_1 ?_
  refine lv_iconst (v := nI 0) G.1 G.2.1 d_Hp_makeFault_4 (by decide) ?_
  refine kEiu (wr := [(h0, .inr (2, [.ref r_kind, .ref r_base, .ref r_length, .ref r_data, .int f_objects, .int f_top, .ref r_lock, .ref r_spare, .int f_leastFree, .int f_highest, .ref r_faults, .ref r_faultLocks, .ref r_touched, .ref r_open, .int f_opened])), (r_faults, .inr (3, [.ref i_faults, .int (nI s_faults)])), (i_faults, .inl (g 0, c_faults, .inl d_faults))]) G (kVu (As := [.int (nI 0)]) (rest := []) G hP hD hS [3, 4] rfl rfl (c_In_add_u l D g r_faultLocks i_faultLocks c_faultLocks s_faultLocks d_faultLocks (nI 0) H.size (us H) (by omega) (by omega)) w_In_add q2048 rfl rfl ⟨Nat.le_of_ble_eq_true rfl, Nat.le_of_ble_eq_true rfl⟩ (fun _ h => absurd h List.not_mem_nil) 3 (ci := 3) rfl rfl rfl hl.1 rfl (Nat.le_of_ble_eq_true rfl) rfl ⟨by show _ ≤ (s_faults + s_faultLocks + 20); omega, by show _ ≤ 2 * (s_faults + s_faultLocks + 20); omega⟩ d_Hp_makeFault_5) hP hD hS [3, 4] [0, 1, 2] rfl rfl rfl rfl (fun r_1 u_2 H locs hw hP hD hS hzH => ?_)
  obtain ⟨e1, m1, g1⟩ := u_2
  have hw : r_1 = nI s_faultLocks ∧ s_faultLocks + 1 ≤ m1 ∧ g1 s_faultLocks = (nI 0) ∧ (∀ i, i < s_faultLocks → g1 i = d_faultLocks i) ∧ ((s_faultLocks < c_faultLocks ∧ m1 = c_faultLocks) ∨ (¬ s_faultLocks < c_faultLocks ∧ m1 = 2 * s_faultLocks + 8)) := hw
  obtain ⟨hr1, hc1, hv1, hg1, hm1⟩ := hw
  have hP : va_P D CL [(h0, .inr (2, [.ref r_kind, .ref r_base, .ref r_length, .ref r_data, .int f_objects, .int f_top, .ref r_lock, .ref r_spare, .int f_leastFree, .int f_highest, .ref r_faults, .ref r_faultLocks, .ref r_touched, .ref r_open, .int f_opened])), (r_faults, .inr (3, [.ref i_faults, .int (nI s_faults)])), (i_faults, .inl (g 0, c_faults, .inl d_faults)), (r_faultLocks, .inr (3, [.ref e1, .int (nI (s_faultLocks + 1))])), (e1, .inl (g 0, m1, .inl g1))] H := hP
  have hD : va_D A [(h0, .inr (2, [.ref r_kind, .ref r_base, .ref r_length, .ref r_data, .int f_objects, .int f_top, .ref r_lock, .ref r_spare, .int f_leastFree, .int f_highest, .ref r_faults, .ref r_faultLocks, .ref r_touched, .ref r_open, .int f_opened])), (r_faults, .inr (3, [.ref i_faults, .int (nI s_faults)])), (i_faults, .inl (g 0, c_faults, .inl d_faults)), (r_faultLocks, .inr (3, [.ref e1, .int (nI (s_faultLocks + 1))])), (e1, .inl (g 0, m1, .inl g1))] := hD
  refine W.widen (k := (m1 - c_faultLocks)) (n := 2 * (m1 - c_faultLocks)) (by first | (split <;> omega) | omega) (by first | (split <;> omega) | omega) ?_
  refine lv_pop G.1 G.2.1 d_Hp_makeFault_8 rfl ?_
  refine lv_sipush (v := nI 1001) G.1 G.2.1 d_Hp_makeFault_9 (by decide) ?_
  refine lv_aload_n G.1 G.2.1 d_Hp_makeFault_12 rfl (lv_at hl 0 rfl) ?_
  refine kg (ci := 2) G iHp hP 0 rfl rfl 10 (by decide) q931 rfl rfl d_Hp_makeFault_13 ?_
  refine lv_iload_n G.1 G.2.1 d_Hp_makeFault_16 rfl (lv_at hl 1 rfl) ?_
  refine kEiu (wr := [(h0, .inr (2, [.ref r_kind, .ref r_base, .ref r_length, .ref r_data, .int f_objects, .int f_top, .ref r_lock, .ref r_spare, .int f_leastFree, .int f_highest, .ref r_faults, .ref r_faultLocks, .ref r_touched, .ref r_open, .int f_opened])), (r_faultLocks, .inr (3, [.ref e1, .int (nI (s_faultLocks + 1))])), (e1, .inl (g 0, m1, .inl g1))]) G (kVu (As := [.int cd]) (rest := [.int (nI 1001)]) G hP hD hS [1, 2] rfl rfl (c_In_add_u l D g r_faults i_faults c_faults s_faults d_faults cd H.size (us H) (by omega) (by omega)) w_In_add q2048 rfl rfl ⟨Nat.le_of_ble_eq_true rfl, Nat.le_of_ble_eq_true rfl⟩ (fun _ h => absurd h List.not_mem_nil) 1 (ci := 3) rfl rfl rfl hl.1 rfl (Nat.le_of_ble_eq_true rfl) rfl ⟨by show _ ≤ (s_faults + s_faultLocks + 20); omega, by show _ ≤ 2 * (s_faults + s_faultLocks + 20); omega⟩ d_Hp_makeFault_17) hP hD hS [1, 2] [0, 3, 4] rfl rfl rfl rfl (fun r_3 u_4 H locs hw hP hD hS hzH => ?_)
  obtain ⟨e2, m2, g2⟩ := u_4
  have hw : r_3 = nI s_faults ∧ s_faults + 1 ≤ m2 ∧ g2 s_faults = cd ∧ (∀ i, i < s_faults → g2 i = d_faults i) ∧ ((s_faults < c_faults ∧ m2 = c_faults) ∨ (¬ s_faults < c_faults ∧ m2 = 2 * s_faults + 8)) := hw
  obtain ⟨hr2, hc2, hv2, hg2, hm2⟩ := hw
  have hP : va_P D CL [(h0, .inr (2, [.ref r_kind, .ref r_base, .ref r_length, .ref r_data, .int f_objects, .int f_top, .ref r_lock, .ref r_spare, .int f_leastFree, .int f_highest, .ref r_faults, .ref r_faultLocks, .ref r_touched, .ref r_open, .int f_opened])), (r_faultLocks, .inr (3, [.ref e1, .int (nI (s_faultLocks + 1))])), (e1, .inl (g 0, m1, .inl g1)), (r_faults, .inr (3, [.ref e2, .int (nI (s_faults + 1))])), (e2, .inl (g 0, m2, .inl g2))] H := hP
  have hD : va_D A [(h0, .inr (2, [.ref r_kind, .ref r_base, .ref r_length, .ref r_data, .int f_objects, .int f_top, .ref r_lock, .ref r_spare, .int f_leastFree, .int f_highest, .ref r_faults, .ref r_faultLocks, .ref r_touched, .ref r_open, .int f_opened])), (r_faultLocks, .inr (3, [.ref e1, .int (nI (s_faultLocks + 1))])), (e1, .inl (g 0, m1, .inl g1)), (r_faults, .inr (3, [.ref e2, .int (nI (s_faults + 1))])), (e2, .inl (g 0, m2, .inl g2))] := hD
  refine W.widen (k := (m1 - c_faultLocks) + (m2 - c_faults)) (n := 2 * (m1 - c_faultLocks) + 2 * (m2 - c_faults)) (by first | (split <;> omega) | omega) (by first | (split <;> omega) | omega) ?_
  refine lv_iadd G.1 G.2.1 d_Hp_makeFault_20 ?_
  refine W.eq (g2 := F0 m 21 ls [.int ((nI 1001) + r_3)]) rfl ?_
  refine hret ((nI 1001) + r_3) (e1, m1, g1, e2, m2, g2) _ _ _ _ _ ls (show s_faults + 1 ≤ m2 ∧ s_faultLocks + 1 ≤ m1 ∧ g2 s_faults = cd ∧ (∀ i, i < s_faults → g2 i = d_faults i) ∧ (m1 = c_faultLocks ∨ m1 ≤ 2 * s_faultLocks + 8) ∧ (m2 = c_faults ∨ m2 ≤ 2 * s_faults + 8) from ⟨by omega, by omega, hv2, hg2, by omega, by omega⟩) (hP.sub [0, 3, 4, 1, 2] rfl) (hD.sub [0, 3, 4, 1, 2] (by decide) rfl) hS (by show _ ≤ (m1 - c_faultLocks) + (m2 - c_faults); omega) (by show _ ≤ 2 * ((m1 - c_faultLocks) + (m2 - c_faults)); omega) (by show (m1 - c_faultLocks) + (m2 - c_faults) ≤ _; omega) (by show 2 * ((m1 - c_faultLocks) + (m2 - c_faults)) ≤ _; omega) d_Hp_makeFault_21
