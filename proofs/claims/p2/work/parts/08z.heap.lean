/-- a number between two others is a natural one -/
theorem i_range {r : Int32} {a b : Nat} (ha : a < 2 ^ 31) (hb : b < 2 ^ 31) (h1 : ¬ r < nI a) (h2 : ¬ nI b < r) : ∃ x : Nat, r = nI x ∧ a ≤ x ∧ x ≤ b := by
  have a1 : ¬ (r.toInt < (a : Int)) := fun h => h1 (Int32.lt_iff_toInt_lt.mpr (by rw [nI_toInt ha]; exact h))
  have a2 : ¬ ((b : Int) < r.toInt) := fun h => h2 (Int32.lt_iff_toInt_lt.mpr (by rw [nI_toInt hb]; exact h))
  exact ⟨r.toInt.toNat, Int32.toInt_inj.mp (by rw [nI_toInt (by omega)]; omega), by omega, by omega⟩
/-- what is there: a number of an object or row -/
def hpT (fk : Nat → Int32) (r : Int32) : Prop := ∃ x : Nat, r = nI x ∧ 1 ≤ x ∧ x ≤ 800 ∧ ¬ fk x = (-2)
theorem hpT.low {fk : Nat → Int32} {r : Int32} (h : r < nI 1) : ¬ hpT fk r := fun ⟨x, e, h1, h2, _⟩ => by
  rw [e] at h
  have := (nI_ltI (by omega) (by decide)).mp h
  omega
theorem hpT.high {fk : Nat → Int32} {r : Int32} (h : nI 800 < r) : ¬ hpT fk r := fun ⟨x, e, h1, h2, _⟩ => by
  rw [e] at h
  have := (nI_ltI (by decide) (by omega)).mp h
  omega
theorem hpT.free {fk : Nat → Int32} {r : Int32} {x : Nat} (hr : r = nI x) (hx : x ≤ 800) (h : fk x = (-2)) : ¬ hpT fk r := fun ⟨y, e, h1, h2, h3⟩ => by
  have hxy : x = y := (nI_eq (by omega) (by omega)).mp (hr.symm.trans e)
  subst hxy
  exact h3 h
/-- an element of what is there -/
def hpE (fk fl : Nat → Int32) (r i : Int32) : Prop := hpT fk r ∧ ∃ x j n : Nat, r = nI x ∧ 1 ≤ x ∧ x ≤ 800 ∧ ¬ fk x = (-2) ∧ i = nI j ∧ fl x = nI n ∧ j < n ∧ n ≤ 4000
/-- the heap's rows: what is there lies in the data -/
def HI (fk fb fl : Nat → Int32) : Prop := ∀ x : Nat, 1 ≤ x → x ≤ 800 → ¬ fk x = (-2) → ∃ a n : Nat, fb x = nI a ∧ fl x = nI n ∧ a + n ≤ 4000
theorem i_below {i : Int32} {n : Nat} (hn : n < 2 ^ 31) (h1 : ¬ i < 0) (h2 : ¬ nI n ≤ i) : ∃ j : Nat, i = nI j ∧ j < n := by
  have a1 : ¬ (i.toInt < 0) := fun h => h1 (Int32.lt_iff_toInt_lt.mpr h)
  have a2 : ¬ ((n : Int) ≤ i.toInt) := fun h => h2 (Int32.le_iff_toInt_le.mpr (by rw [nI_toInt hn]; exact h))
  exact ⟨i.toInt.toNat, Int32.toInt_inj.mp (by rw [nI_toInt (by omega)]; omega), by omega⟩

def y_Hp_there : MethodName := ⟨"ClassWorks$Heap", "there", "(I)Z"⟩
abbrev b_Hp_there : ByteArray := prog_4_method_3_code
theorem q913 : Cond.fieldLink "ClassWorks$Heap" 9 "ClassWorks$Heap" "kind" "[I" ∈ lw_ok := lw_okmem (List.mem_of_getElem? (i := 913) (by decide +kernel)) rfl
theorem d_Hp_there_0 : decode b_Hp_there 0 = .ok (.iload_n 1, 1) := by decide +kernel
theorem d_Hp_there_1 : decode b_Hp_there 1 = .ok (.iconst 1, 1) := by decide +kernel
theorem d_Hp_there_2 : decode b_Hp_there 2 = .ok (.if_icmp .lt 25, 3) := by decide +kernel
theorem d_Hp_there_5 : decode b_Hp_there 5 = .ok (.iload_n 1, 1) := by decide +kernel
theorem d_Hp_there_6 : decode b_Hp_there 6 = .ok (.sipush 800, 3) := by decide +kernel
theorem d_Hp_there_9 : decode b_Hp_there 9 = .ok (.if_icmp .gt 18, 3) := by decide +kernel
theorem d_Hp_there_12 : decode b_Hp_there 12 = .ok (.aload_n 0, 1) := by decide +kernel
theorem d_Hp_there_13 : decode b_Hp_there 13 = .ok (.getfield 9, 3) := by decide +kernel
theorem d_Hp_there_16 : decode b_Hp_there 16 = .ok (.iload_n 1, 1) := by decide +kernel
theorem d_Hp_there_17 : decode b_Hp_there 17 = .ok (.iaload, 1) := by decide +kernel
theorem d_Hp_there_18 : decode b_Hp_there 18 = .ok (.bipush (-2), 2) := by decide +kernel
theorem d_Hp_there_20 : decode b_Hp_there 20 = .ok (.if_icmp .eq 7, 3) := by decide +kernel
theorem d_Hp_there_23 : decode b_Hp_there 23 = .ok (.iconst 1, 1) := by decide +kernel
theorem d_Hp_there_24 : decode b_Hp_there 24 = .ok (.goto 4, 3) := by decide +kernel
theorem d_Hp_there_27 : decode b_Hp_there 27 = .ok (.iconst 0, 1) := by decide +kernel
theorem d_Hp_there_28 : decode b_Hp_there 28 = .ok (.ireturn, 1) := by decide +kernel
abbrev rm_Hp_there : Room := { frames := 0, cells := 0, slots := 0, locals := 0 }
set_option maxHeartbeats 4000000 in
set_option maxRecDepth 100000 in
/-- there(r) -/
theorem c_Hp_there (l : Launch) (D : va_G) (g : Nat → ClassId) (h0 : Nat) (rr : Int32) (r_kind : Nat) (r_base : Nat) (r_length : Nat) (r_data : Nat) (f_objects : Int32) (f_top : Int32) (r_lock : Nat) (r_spare : Nat) (f_leastFree : Int32) (f_highest : Int32) (r_faults : Nat) (r_faultLocks : Nat) (r_touched : Nat) (r_open : Nat) (f_opened : Int32) (d_kind : Nat → Int32) (sz : Nat)  : Met l y_Hp_there (mw y_Hp_there b_Hp_there 2 (some (.boolean))) (rm_Hp_there) (PC g D [] [.ref h0, .int rr] sz [(h0, .inr (2, [.ref r_kind, .ref r_base, .ref r_length, .ref r_data, .int f_objects, .int f_top, .ref r_lock, .ref r_spare, .int f_leastFree, .int f_highest, .ref r_faults, .ref r_faultLocks, .ref r_touched, .ref r_open, .int f_opened])), (r_kind, .inl (g 0, 801, .inl d_kind))]) (va_Qi (fun (r : Int32) (u : Unit) => (r = 1 ∧ hpT d_kind rr) ∨ (r = 0 ∧ ¬ hpT d_kind rr)) (QW D (va_A [(h0, .inr (2, [.ref r_kind, .ref r_base, .ref r_length, .ref r_data, .int f_objects, .int f_top, .ref r_lock, .ref r_spare, .int f_leastFree, .int f_highest, .ref r_faults, .ref r_faultLocks, .ref r_touched, .ref r_open, .int f_opened])), (r_kind, .inl (g 0, 801, .inl d_kind))] sz) (fun u : Unit => [(h0, .inr (2, [.ref r_kind, .ref r_base, .ref r_length, .ref r_data, .int f_objects, .int f_top, .ref r_lock, .ref r_spare, .int f_leastFree, .int f_highest, .ref r_faults, .ref r_faultLocks, .ref r_touched, .ref r_open, .int f_opened])), (r_kind, .inl (g 0, 801, .inl d_kind))])) (va_A [(h0, .inr (2, [.ref r_kind, .ref r_base, .ref r_length, .ref r_data, .int f_objects, .int f_top, .ref r_lock, .ref r_spare, .int f_leastFree, .int f_highest, .ref r_faults, .ref r_faultLocks, .ref r_touched, .ref r_open, .int f_opened])), (r_kind, .inl (g 0, 801, .inl d_kind))] sz)) 0 0 (va_A [(h0, .inr (2, [.ref r_kind, .ref r_base, .ref r_length, .ref r_data, .int f_objects, .int f_top, .ref r_lock, .ref r_spare, .int f_leastFree, .int f_highest, .ref r_faults, .ref r_faultLocks, .ref r_touched, .ref r_open, .int f_opened])), (r_kind, .inl (g 0, 801, .inl d_kind))] sz) := by
  refine ofZ (by decide +kernel) (Nat.le_of_ble_eq_true rfl) ?_
  intro p e s m args below meth c A Q ls H locs G hsz hP hD hS hl hret
  subst hsz
  have hl : lv_has ls 2 [(0, .ref h0), (1, .int rr)] := hl
  refine lv_iload_n G.1 G.2.1 d_Hp_there_0 rfl (lv_at hl 1 rfl) ?_
  refine lv_iconst (v := nI 1) G.1 G.2.1 d_Hp_there_1 (by decide) ?_
  refine lv_icmp_lt (tgt := 27) G.1 G.2.1 d_Hp_there_2 (by decide) (fun c2 => ?_) (fun c2 => ?_)
  · skip
    refine lv_iconst (v := nI 0) G.1 G.2.1 d_Hp_there_27 (by decide) ?_
    refine hret (nI 0) () _ _ _ _ _ ls (by decide) (Or.inr ⟨rfl, hpT.low c2⟩) (hP.sub [0, 1] rfl) (hD.sub [0, 1] (by decide) rfl) hS (Nat.le_of_ble_eq_true rfl) (Nat.le_of_ble_eq_true rfl) d_Hp_there_28
  · skip
    refine lv_iload_n G.1 G.2.1 d_Hp_there_5 rfl (lv_at hl 1 rfl) ?_
    refine lv_sipush (v := nI 800) G.1 G.2.1 d_Hp_there_6 (by decide) ?_
    refine lv_icmp_gt (tgt := 27) G.1 G.2.1 d_Hp_there_9 (by decide) (fun c9 => ?_) (fun c9 => ?_)
    · skip
      refine lv_iconst (v := nI 0) G.1 G.2.1 d_Hp_there_27 (by decide) ?_
      refine hret (nI 0) () _ _ _ _ _ ls (by decide) (Or.inr ⟨rfl, hpT.high c9⟩) (hP.sub [0, 1] rfl) (hD.sub [0, 1] (by decide) rfl) hS (Nat.le_of_ble_eq_true rfl) (Nat.le_of_ble_eq_true rfl) d_Hp_there_28
    · skip
      obtain ⟨x, hxr, hx1, hx2⟩ := i_range (by decide) (by decide) c2 c9
      refine lv_aload_n G.1 G.2.1 d_Hp_there_12 rfl (lv_at hl 0 rfl) ?_
      refine kg (ci := 2) G iHp hP 0 rfl rfl 0 (by decide) q913 rfl rfl d_Hp_there_13 ?_
      refine lv_iload_n G.1 G.2.1 d_Hp_there_16 rfl (lv_at hl 1 rfl) ?_
      refine tpi (w := nI x) hxr ?_
      refine kiald G hP 1 0 rfl rfl (by omega) (by omega) d_Hp_there_17 ?_
      refine lv_bipush (v := (-2)) G.1 G.2.1 d_Hp_there_18 (by decide) ?_
      refine W.eq (g2 := F0 m 20 ls [.int (-2), .int (d_kind x)]) rfl ?_
      refine lv_icmp_eq (tgt := 27) G.1 G.2.1 d_Hp_there_20 (by decide) (fun c20 => ?_) (fun c20 => ?_)
      · skip
        refine lv_iconst (v := nI 0) G.1 G.2.1 d_Hp_there_27 (by decide) ?_
        refine hret (nI 0) () _ _ _ _ _ ls (by decide) (Or.inr ⟨rfl, hpT.free hxr hx2 c20⟩) (hP.sub [0, 1] rfl) (hD.sub [0, 1] (by decide) rfl) hS (Nat.le_of_ble_eq_true rfl) (Nat.le_of_ble_eq_true rfl) d_Hp_there_28
      · skip
        refine lv_iconst (v := nI 1) G.1 G.2.1 d_Hp_there_23 (by decide) ?_
        refine lv_goto (tgt := 28) G.1 G.2.1 d_Hp_there_24 (by decide) ?_
        refine hret (nI 1) () _ _ _ _ _ ls (by decide) (Or.inl ⟨rfl, x, hxr, hx1, hx2, c20⟩) (hP.sub [0, 1] rfl) (hD.sub [0, 1] (by decide) rfl) hS (Nat.le_of_ble_eq_true rfl) (Nat.le_of_ble_eq_true rfl) d_Hp_there_28
def y_Hp_isElement : MethodName := ⟨"ClassWorks$Heap", "isElement", "(II)Z"⟩
abbrev b_Hp_isElement : ByteArray := prog_4_method_15_code
theorem q918 : Cond.fieldLink "ClassWorks$Heap" 18 "ClassWorks$Heap" "length" "[I" ∈ lw_ok := lw_okmem (List.mem_of_getElem? (i := 918) (by decide +kernel)) rfl
theorem d_Hp_isElement_0 : decode b_Hp_isElement 0 = .ok (.iload_n 1, 1) := by decide +kernel
theorem d_Hp_isElement_1 : decode b_Hp_isElement 1 = .ok (.iconst 1, 1) := by decide +kernel
theorem d_Hp_isElement_2 : decode b_Hp_isElement 2 = .ok (.if_icmp .lt 39, 3) := by decide +kernel
theorem d_Hp_isElement_5 : decode b_Hp_isElement 5 = .ok (.iload_n 1, 1) := by decide +kernel
theorem d_Hp_isElement_6 : decode b_Hp_isElement 6 = .ok (.sipush 800, 3) := by decide +kernel
theorem d_Hp_isElement_9 : decode b_Hp_isElement 9 = .ok (.if_icmp .gt 32, 3) := by decide +kernel
theorem d_Hp_isElement_12 : decode b_Hp_isElement 12 = .ok (.aload_n 0, 1) := by decide +kernel
theorem d_Hp_isElement_13 : decode b_Hp_isElement 13 = .ok (.getfield 9, 3) := by decide +kernel
theorem d_Hp_isElement_16 : decode b_Hp_isElement 16 = .ok (.iload_n 1, 1) := by decide +kernel
theorem d_Hp_isElement_17 : decode b_Hp_isElement 17 = .ok (.iaload, 1) := by decide +kernel
theorem d_Hp_isElement_18 : decode b_Hp_isElement 18 = .ok (.bipush (-2), 2) := by decide +kernel
theorem d_Hp_isElement_20 : decode b_Hp_isElement 20 = .ok (.if_icmp .eq 21, 3) := by decide +kernel
theorem d_Hp_isElement_23 : decode b_Hp_isElement 23 = .ok (.iload_n 2, 1) := by decide +kernel
theorem d_Hp_isElement_24 : decode b_Hp_isElement 24 = .ok (.ifCond .lt 17, 3) := by decide +kernel
theorem d_Hp_isElement_27 : decode b_Hp_isElement 27 = .ok (.iload_n 2, 1) := by decide +kernel
theorem d_Hp_isElement_28 : decode b_Hp_isElement 28 = .ok (.aload_n 0, 1) := by decide +kernel
theorem d_Hp_isElement_29 : decode b_Hp_isElement 29 = .ok (.getfield 18, 3) := by decide +kernel
theorem d_Hp_isElement_32 : decode b_Hp_isElement 32 = .ok (.iload_n 1, 1) := by decide +kernel
theorem d_Hp_isElement_33 : decode b_Hp_isElement 33 = .ok (.iaload, 1) := by decide +kernel
theorem d_Hp_isElement_34 : decode b_Hp_isElement 34 = .ok (.if_icmp .ge 7, 3) := by decide +kernel
theorem d_Hp_isElement_37 : decode b_Hp_isElement 37 = .ok (.iconst 1, 1) := by decide +kernel
theorem d_Hp_isElement_38 : decode b_Hp_isElement 38 = .ok (.goto 4, 3) := by decide +kernel
theorem d_Hp_isElement_41 : decode b_Hp_isElement 41 = .ok (.iconst 0, 1) := by decide +kernel
theorem d_Hp_isElement_42 : decode b_Hp_isElement 42 = .ok (.ireturn, 1) := by decide +kernel
abbrev rm_Hp_isElement : Room := { frames := 0, cells := 0, slots := 0, locals := 0 }
set_option maxHeartbeats 4000000 in
set_option maxRecDepth 100000 in
/-- isElement(r, i) -/
theorem c_Hp_isElement (l : Launch) (D : va_G) (g : Nat → ClassId) (h0 : Nat) (rr : Int32) (i : Int32) (r_kind : Nat) (r_base : Nat) (r_length : Nat) (r_data : Nat) (f_objects : Int32) (f_top : Int32) (r_lock : Nat) (r_spare : Nat) (f_leastFree : Int32) (f_highest : Int32) (r_faults : Nat) (r_faultLocks : Nat) (r_touched : Nat) (r_open : Nat) (f_opened : Int32) (d_kind : Nat → Int32) (d_length : Nat → Int32) (d_base : Nat → Int32) (sz : Nat) (hI : HI d_kind d_base d_length) : Met l y_Hp_isElement (mw y_Hp_isElement b_Hp_isElement 3 (some (.boolean))) (rm_Hp_isElement) (PC g D [] [.ref h0, .int rr, .int i] sz [(h0, .inr (2, [.ref r_kind, .ref r_base, .ref r_length, .ref r_data, .int f_objects, .int f_top, .ref r_lock, .ref r_spare, .int f_leastFree, .int f_highest, .ref r_faults, .ref r_faultLocks, .ref r_touched, .ref r_open, .int f_opened])), (r_kind, .inl (g 0, 801, .inl d_kind)), (r_length, .inl (g 0, 801, .inl d_length))]) (va_Qi (fun (r : Int32) (u : Unit) => (r = 1 ∧ hpE d_kind d_length rr i) ∨ r = 0) (QW D (va_A [(h0, .inr (2, [.ref r_kind, .ref r_base, .ref r_length, .ref r_data, .int f_objects, .int f_top, .ref r_lock, .ref r_spare, .int f_leastFree, .int f_highest, .ref r_faults, .ref r_faultLocks, .ref r_touched, .ref r_open, .int f_opened])), (r_kind, .inl (g 0, 801, .inl d_kind)), (r_length, .inl (g 0, 801, .inl d_length))] sz) (fun u : Unit => [(h0, .inr (2, [.ref r_kind, .ref r_base, .ref r_length, .ref r_data, .int f_objects, .int f_top, .ref r_lock, .ref r_spare, .int f_leastFree, .int f_highest, .ref r_faults, .ref r_faultLocks, .ref r_touched, .ref r_open, .int f_opened])), (r_kind, .inl (g 0, 801, .inl d_kind)), (r_length, .inl (g 0, 801, .inl d_length))])) (va_A [(h0, .inr (2, [.ref r_kind, .ref r_base, .ref r_length, .ref r_data, .int f_objects, .int f_top, .ref r_lock, .ref r_spare, .int f_leastFree, .int f_highest, .ref r_faults, .ref r_faultLocks, .ref r_touched, .ref r_open, .int f_opened])), (r_kind, .inl (g 0, 801, .inl d_kind)), (r_length, .inl (g 0, 801, .inl d_length))] sz)) 0 0 (va_A [(h0, .inr (2, [.ref r_kind, .ref r_base, .ref r_length, .ref r_data, .int f_objects, .int f_top, .ref r_lock, .ref r_spare, .int f_leastFree, .int f_highest, .ref r_faults, .ref r_faultLocks, .ref r_touched, .ref r_open, .int f_opened])), (r_kind, .inl (g 0, 801, .inl d_kind)), (r_length, .inl (g 0, 801, .inl d_length))] sz) := by
  refine ofZ (by decide +kernel) (Nat.le_of_ble_eq_true rfl) ?_
  intro p e s m args below meth c A Q ls H locs G hsz hP hD hS hl hret
  subst hsz
  have hl : lv_has ls 3 [(0, .ref h0), (1, .int rr), (2, .int i)] := hl
  refine lv_iload_n G.1 G.2.1 d_Hp_isElement_0 rfl (lv_at hl 1 rfl) ?_
  refine lv_iconst (v := nI 1) G.1 G.2.1 d_Hp_isElement_1 (by decide) ?_
  refine lv_icmp_lt (tgt := 41) G.1 G.2.1 d_Hp_isElement_2 (by decide) (fun c2 => ?_) (fun c2 => ?_)
  · skip
    refine lv_iconst (v := nI 0) G.1 G.2.1 d_Hp_isElement_41 (by decide) ?_
    refine hret (nI 0) () _ _ _ _ _ ls (by decide) (Or.inr rfl) (hP.sub [0, 1, 2] rfl) (hD.sub [0, 1, 2] (by decide) rfl) hS (Nat.le_of_ble_eq_true rfl) (Nat.le_of_ble_eq_true rfl) d_Hp_isElement_42
  · skip
    refine lv_iload_n G.1 G.2.1 d_Hp_isElement_5 rfl (lv_at hl 1 rfl) ?_
    refine lv_sipush (v := nI 800) G.1 G.2.1 d_Hp_isElement_6 (by decide) ?_
    refine lv_icmp_gt (tgt := 41) G.1 G.2.1 d_Hp_isElement_9 (by decide) (fun c9 => ?_) (fun c9 => ?_)
    · skip
      refine lv_iconst (v := nI 0) G.1 G.2.1 d_Hp_isElement_41 (by decide) ?_
      refine hret (nI 0) () _ _ _ _ _ ls (by decide) (Or.inr rfl) (hP.sub [0, 1, 2] rfl) (hD.sub [0, 1, 2] (by decide) rfl) hS (Nat.le_of_ble_eq_true rfl) (Nat.le_of_ble_eq_true rfl) d_Hp_isElement_42
    · skip
      obtain ⟨x, hxr, hx1, hx2⟩ := i_range (by decide) (by decide) c2 c9
      refine lv_aload_n G.1 G.2.1 d_Hp_isElement_12 rfl (lv_at hl 0 rfl) ?_
      refine kg (ci := 2) G iHp hP 0 rfl rfl 0 (by decide) q913 rfl rfl d_Hp_isElement_13 ?_
      refine lv_iload_n G.1 G.2.1 d_Hp_isElement_16 rfl (lv_at hl 1 rfl) ?_
      refine tpi (w := nI x) hxr ?_
      refine kiald G hP 1 0 rfl rfl (by omega) (by omega) d_Hp_isElement_17 ?_
      refine lv_bipush (v := (-2)) G.1 G.2.1 d_Hp_isElement_18 (by decide) ?_
      refine W.eq (g2 := F0 m 20 ls [.int (-2), .int (d_kind x)]) rfl ?_
      refine lv_icmp_eq (tgt := 41) G.1 G.2.1 d_Hp_isElement_20 (by decide) (fun c20 => ?_) (fun c20 => ?_)
      · skip
        refine lv_iconst (v := nI 0) G.1 G.2.1 d_Hp_isElement_41 (by decide) ?_
        refine hret (nI 0) () _ _ _ _ _ ls (by decide) (Or.inr rfl) (hP.sub [0, 1, 2] rfl) (hD.sub [0, 1, 2] (by decide) rfl) hS (Nat.le_of_ble_eq_true rfl) (Nat.le_of_ble_eq_true rfl) d_Hp_isElement_42
      · skip
        refine lv_iload_n G.1 G.2.1 d_Hp_isElement_23 rfl (lv_at hl 2 rfl) ?_
        refine lv_if_lt (tgt := 41) G.1 G.2.1 d_Hp_isElement_24 (by decide) (fun c24 => ?_) (fun c24 => ?_)
        · skip
          refine lv_iconst (v := nI 0) G.1 G.2.1 d_Hp_isElement_41 (by decide) ?_
          refine hret (nI 0) () _ _ _ _ _ ls (by decide) (Or.inr rfl) (hP.sub [0, 1, 2] rfl) (hD.sub [0, 1, 2] (by decide) rfl) hS (Nat.le_of_ble_eq_true rfl) (Nat.le_of_ble_eq_true rfl) d_Hp_isElement_42
        · skip
          refine lv_iload_n G.1 G.2.1 d_Hp_isElement_27 rfl (lv_at hl 2 rfl) ?_
          refine lv_aload_n G.1 G.2.1 d_Hp_isElement_28 rfl (lv_at hl 0 rfl) ?_
          refine kg (ci := 2) G iHp hP 0 rfl rfl 2 (by decide) q918 rfl rfl d_Hp_isElement_29 ?_
          refine lv_iload_n G.1 G.2.1 d_Hp_isElement_32 rfl (lv_at hl 1 rfl) ?_
          refine tpi (w := nI x) hxr ?_
          obtain ⟨a, n, hba, hln, han⟩ := hI x hx1 hx2 c20
          refine kiald G hP 2 0 rfl rfl (by omega) (by omega) d_Hp_isElement_33 ?_
          refine tpi (w := nI n) hln ?_
          refine lv_icmp_ge (tgt := 41) G.1 G.2.1 d_Hp_isElement_34 (by decide) (fun c34 => ?_) (fun c34 => ?_)
          · skip
            refine lv_iconst (v := nI 0) G.1 G.2.1 d_Hp_isElement_41 (by decide) ?_
            refine hret (nI 0) () _ _ _ _ _ ls (by decide) (Or.inr rfl) (hP.sub [0, 1, 2] rfl) (hD.sub [0, 1, 2] (by decide) rfl) hS (Nat.le_of_ble_eq_true rfl) (Nat.le_of_ble_eq_true rfl) d_Hp_isElement_42
          · skip
            have h34 : ∃ j : Nat, i = nI j ∧ j < n := i_below (by omega) c24 c34
            obtain ⟨j, hij, hjn⟩ := h34
            refine lv_iconst (v := nI 1) G.1 G.2.1 d_Hp_isElement_37 (by decide) ?_
            refine lv_goto (tgt := 42) G.1 G.2.1 d_Hp_isElement_38 (by decide) ?_
            refine hret (nI 1) () _ _ _ _ _ ls (by decide) (Or.inl ⟨rfl, ⟨x, hxr, hx1, hx2, c20⟩, x, j, n, hxr, hx1, hx2, c20, hij, hln, hjn, by omega⟩) (hP.sub [0, 1, 2] rfl) (hD.sub [0, 1, 2] (by decide) rfl) hS (Nat.le_of_ble_eq_true rfl) (Nat.le_of_ble_eq_true rfl) d_Hp_isElement_42
def y_Hp_get : MethodName := ⟨"ClassWorks$Heap", "get", "(II)I"⟩
abbrev b_Hp_get : ByteArray := prog_4_method_16_code
theorem q2001 : Cond.code y_Hp_isElement b_Hp_isElement 3 (some (.boolean)) ∈ lw_ok := lw_okmem (List.mem_of_getElem? (i := 2001) (by decide +kernel)) rfl
theorem q346 : Cond.initialized "ClassWorks$Heap" ∈ lw_ok := lw_okmem (List.mem_of_getElem? (i := 346) (by decide +kernel)) rfl
theorem q1999 : Cond.instanceMethod y_Hp_isElement ∈ lw_ok := lw_okmem (List.mem_of_getElem? (i := 1999) (by decide +kernel)) rfl
theorem q2000 : Cond.selects y_Hp_isElement.cls y_Hp_isElement y_Hp_isElement ∈ lw_ok := lw_okmem (List.mem_of_getElem? (i := 2000) (by decide +kernel)) rfl
theorem w_Hp_isElement : CWv y_Hp_isElement b_Hp_isElement 3 (some (.boolean)) 2 ∧ Cond.instanceMethod y_Hp_isElement ∈ lw_ok ∧ Cond.selects y_Hp_isElement.cls y_Hp_isElement y_Hp_isElement ∈ lw_ok := ⟨⟨q2001, q346, by decide +kernel, by decide +kernel, by decide +kernel⟩, q1999, q2000⟩
theorem q1998 : Cond.methodLink "ClassWorks$Heap" 94 y_Hp_isElement ∈ lw_ok := lw_okmem (List.mem_of_getElem? (i := 1998) (by decide +kernel)) rfl
theorem q921 : Cond.fieldLink "ClassWorks$Heap" 21 "ClassWorks$Heap" "data" "[I" ∈ lw_ok := lw_okmem (List.mem_of_getElem? (i := 921) (by decide +kernel)) rfl
theorem q916 : Cond.fieldLink "ClassWorks$Heap" 15 "ClassWorks$Heap" "base" "[I" ∈ lw_ok := lw_okmem (List.mem_of_getElem? (i := 916) (by decide +kernel)) rfl
theorem d_Hp_get_0 : decode b_Hp_get 0 = .ok (.aload_n 0, 1) := by decide +kernel
theorem d_Hp_get_1 : decode b_Hp_get 1 = .ok (.iload_n 1, 1) := by decide +kernel
theorem d_Hp_get_2 : decode b_Hp_get 2 = .ok (.iload_n 2, 1) := by decide +kernel
theorem d_Hp_get_3 : decode b_Hp_get 3 = .ok (.invokevirtual 94, 3) := by decide +kernel
theorem d_Hp_get_6 : decode b_Hp_get 6 = .ok (.ifCond .eq 19, 3) := by decide +kernel
theorem d_Hp_get_9 : decode b_Hp_get 9 = .ok (.aload_n 0, 1) := by decide +kernel
theorem d_Hp_get_10 : decode b_Hp_get 10 = .ok (.getfield 21, 3) := by decide +kernel
theorem d_Hp_get_13 : decode b_Hp_get 13 = .ok (.aload_n 0, 1) := by decide +kernel
theorem d_Hp_get_14 : decode b_Hp_get 14 = .ok (.getfield 15, 3) := by decide +kernel
theorem d_Hp_get_17 : decode b_Hp_get 17 = .ok (.iload_n 1, 1) := by decide +kernel
theorem d_Hp_get_18 : decode b_Hp_get 18 = .ok (.iaload, 1) := by decide +kernel
theorem d_Hp_get_19 : decode b_Hp_get 19 = .ok (.iload_n 2, 1) := by decide +kernel
theorem d_Hp_get_20 : decode b_Hp_get 20 = .ok (.iadd, 1) := by decide +kernel
theorem d_Hp_get_21 : decode b_Hp_get 21 = .ok (.iaload, 1) := by decide +kernel
theorem d_Hp_get_22 : decode b_Hp_get 22 = .ok (.goto 4, 3) := by decide +kernel
theorem d_Hp_get_25 : decode b_Hp_get 25 = .ok (.iconst 0, 1) := by decide +kernel
theorem d_Hp_get_26 : decode b_Hp_get 26 = .ok (.ireturn, 1) := by decide +kernel
abbrev rm_Hp_get : Room := { frames := 1, cells := 0, slots := 0, locals := 22 }
set_option maxHeartbeats 4000000 in
set_option maxRecDepth 100000 in
/-- get(r, i) -/
theorem c_Hp_get (l : Launch) (D : va_G) (g : Nat → ClassId) (h0 : Nat) (rr : Int32) (i : Int32) (r_kind : Nat) (r_base : Nat) (r_length : Nat) (r_data : Nat) (f_objects : Int32) (f_top : Int32) (r_lock : Nat) (r_spare : Nat) (f_leastFree : Int32) (f_highest : Int32) (r_faults : Nat) (r_faultLocks : Nat) (r_touched : Nat) (r_open : Nat) (f_opened : Int32) (d_kind : Nat → Int32) (d_base : Nat → Int32) (d_length : Nat → Int32) (d_data : Nat → Int32) (sz : Nat) (hI : HI d_kind d_base d_length) : Met l y_Hp_get (mw y_Hp_get b_Hp_get 3 (some .int)) (rm_Hp_get) (PC g D [] [.ref h0, .int rr, .int i] sz [(h0, .inr (2, [.ref r_kind, .ref r_base, .ref r_length, .ref r_data, .int f_objects, .int f_top, .ref r_lock, .ref r_spare, .int f_leastFree, .int f_highest, .ref r_faults, .ref r_faultLocks, .ref r_touched, .ref r_open, .int f_opened])), (r_kind, .inl (g 0, 801, .inl d_kind)), (r_base, .inl (g 0, 801, .inl d_base)), (r_length, .inl (g 0, 801, .inl d_length)), (r_data, .inl (g 0, 4000, .inl d_data))]) (va_Qi (fun (r : Int32) (u : Unit) => True) (QW D (va_A [(h0, .inr (2, [.ref r_kind, .ref r_base, .ref r_length, .ref r_data, .int f_objects, .int f_top, .ref r_lock, .ref r_spare, .int f_leastFree, .int f_highest, .ref r_faults, .ref r_faultLocks, .ref r_touched, .ref r_open, .int f_opened])), (r_kind, .inl (g 0, 801, .inl d_kind)), (r_base, .inl (g 0, 801, .inl d_base)), (r_length, .inl (g 0, 801, .inl d_length)), (r_data, .inl (g 0, 4000, .inl d_data))] sz) (fun u : Unit => [(h0, .inr (2, [.ref r_kind, .ref r_base, .ref r_length, .ref r_data, .int f_objects, .int f_top, .ref r_lock, .ref r_spare, .int f_leastFree, .int f_highest, .ref r_faults, .ref r_faultLocks, .ref r_touched, .ref r_open, .int f_opened])), (r_kind, .inl (g 0, 801, .inl d_kind)), (r_base, .inl (g 0, 801, .inl d_base)), (r_length, .inl (g 0, 801, .inl d_length)), (r_data, .inl (g 0, 4000, .inl d_data))])) (va_A [(h0, .inr (2, [.ref r_kind, .ref r_base, .ref r_length, .ref r_data, .int f_objects, .int f_top, .ref r_lock, .ref r_spare, .int f_leastFree, .int f_highest, .ref r_faults, .ref r_faultLocks, .ref r_touched, .ref r_open, .int f_opened])), (r_kind, .inl (g 0, 801, .inl d_kind)), (r_base, .inl (g 0, 801, .inl d_base)), (r_length, .inl (g 0, 801, .inl d_length)), (r_data, .inl (g 0, 4000, .inl d_data))] sz)) 0 0 (va_A [(h0, .inr (2, [.ref r_kind, .ref r_base, .ref r_length, .ref r_data, .int f_objects, .int f_top, .ref r_lock, .ref r_spare, .int f_leastFree, .int f_highest, .ref r_faults, .ref r_faultLocks, .ref r_touched, .ref r_open, .int f_opened])), (r_kind, .inl (g 0, 801, .inl d_kind)), (r_base, .inl (g 0, 801, .inl d_base)), (r_length, .inl (g 0, 801, .inl d_length)), (r_data, .inl (g 0, 4000, .inl d_data))] sz) := by
  refine ofI (by decide +kernel) (Nat.le_of_ble_eq_true rfl) ?_
  intro p e s m args below meth c A Q ls H locs G hsz hP hD hS hl hret
  subst hsz
  have hl : lv_has ls 3 [(0, .ref h0), (1, .int rr), (2, .int i)] := hl
  refine lv_aload_n G.1 G.2.1 d_Hp_get_0 rfl (lv_at hl 0 rfl) ?_
  refine lv_iload_n G.1 G.2.1 d_Hp_get_1 rfl (lv_at hl 1 rfl) ?_
  refine lv_iload_n G.1 G.2.1 d_Hp_get_2 rfl (lv_at hl 2 rfl) ?_
  refine kEi (wr := [(r_base, .inl (g 0, 801, .inl d_base)), (r_data, .inl (g 0, 4000, .inl d_data))]) G (kV (As := [.int rr, .int i]) (rest := []) G hP hD hS [0, 1, 3] rfl rfl (c_Hp_isElement l D g h0 rr i r_kind r_base r_length r_data f_objects f_top r_lock r_spare f_leastFree f_highest r_faults r_faultLocks r_touched r_open f_opened d_kind d_length d_base H.size hI) w_Hp_isElement q1998 rfl rfl ⟨Nat.le_of_ble_eq_true rfl, Nat.le_of_ble_eq_true rfl⟩ (fun _ h => absurd h List.not_mem_nil) 0 (ci := 2) rfl rfl rfl hl.1 rfl (Nat.le_of_ble_eq_true rfl) rfl ⟨Nat.le_of_ble_eq_true rfl, (Nat.le_of_ble_eq_true rfl)⟩ d_Hp_get_3) hP hD hS [0, 1, 3] [2, 4] rfl rfl rfl rfl (fun r_1 u_2 H locs hw hP hD hS hzH => ?_)
  have hw : (r_1 = 1 ∧ hpE d_kind d_length rr i) ∨ r_1 = 0 := hw
  have hP : va_P D CL [(r_base, .inl (g 0, 801, .inl d_base)), (r_data, .inl (g 0, 4000, .inl d_data)), (h0, .inr (2, [.ref r_kind, .ref r_base, .ref r_length, .ref r_data, .int f_objects, .int f_top, .ref r_lock, .ref r_spare, .int f_leastFree, .int f_highest, .ref r_faults, .ref r_faultLocks, .ref r_touched, .ref r_open, .int f_opened])), (r_kind, .inl (g 0, 801, .inl d_kind)), (r_length, .inl (g 0, 801, .inl d_length))] H := hP
  have hD : va_D A [(r_base, .inl (g 0, 801, .inl d_base)), (r_data, .inl (g 0, 4000, .inl d_data)), (h0, .inr (2, [.ref r_kind, .ref r_base, .ref r_length, .ref r_data, .int f_objects, .int f_top, .ref r_lock, .ref r_spare, .int f_leastFree, .int f_highest, .ref r_faults, .ref r_faultLocks, .ref r_touched, .ref r_open, .int f_opened])), (r_kind, .inl (g 0, 801, .inl d_kind)), (r_length, .inl (g 0, 801, .inl d_length))] := hD
  rcases hw with ⟨hw, hE⟩ | hw
  · skip
    refine tpi (w := nI 1) hw ?_
    obtain ⟨-, x, j, n, hxr, hx1, hx2, hxk, hij, hln, hjn, hn4⟩ := hE
    obtain ⟨a, n9, hba, hln9, han⟩ := hI x hx1 hx2 hxk
    have hn9 : n9 = n := (nI_eq (by omega) (by omega)).mp (hln9.symm.trans hln)
    refine lv_if_eq (tgt := 25) G.1 G.2.1 d_Hp_get_6 (by decide) (fun c6 => absurd c6 (by decide)) (fun c6 => ?_)
    refine lv_aload_n G.1 G.2.1 d_Hp_get_9 rfl (lv_at hl 0 rfl) ?_
    refine kg (ci := 2) G iHp hP 2 rfl rfl 3 (by decide) q921 rfl rfl d_Hp_get_10 ?_
    refine lv_aload_n G.1 G.2.1 d_Hp_get_13 rfl (lv_at hl 0 rfl) ?_
    refine kg (ci := 2) G iHp hP 2 rfl rfl 1 (by decide) q916 rfl rfl d_Hp_get_14 ?_
    refine lv_iload_n G.1 G.2.1 d_Hp_get_17 rfl (lv_at hl 1 rfl) ?_
    refine tpi (w := nI x) hxr ?_
    refine kiald G hP 0 0 rfl rfl (by omega) (by omega) d_Hp_get_18 ?_
    refine tpi (w := nI a) hba ?_
    refine W.eq (g2 := F0 m 19 ls [.int (nI a), .ref r_data]) rfl ?_
    refine lv_iload_n G.1 G.2.1 d_Hp_get_19 rfl (lv_at hl 2 rfl) ?_
    refine tpi (w := nI j) hij ?_
    refine lv_iadd G.1 G.2.1 d_Hp_get_20 ?_
    refine tpi (w := nI (a + j)) (nI_add _ _) ?_
    refine kiald G hP 1 0 rfl rfl (by omega) (by omega) d_Hp_get_21 ?_
    refine lv_goto (tgt := 26) G.1 G.2.1 d_Hp_get_22 (by decide) ?_
    refine hret (d_data (a + j)) () _ _ _ _ _ ls trivial (hP.sub [2, 3, 0, 4, 1] rfl) (hD.sub [2, 3, 0, 4, 1] (by decide) rfl) hS (Nat.le_of_ble_eq_true rfl) (Nat.le_of_ble_eq_true rfl) d_Hp_get_26
  · skip
    refine tpi (w := nI 0) hw ?_
    refine lv_if_eq (tgt := 25) G.1 G.2.1 d_Hp_get_6 (by decide) (fun c6 => ?_) (fun c6 => absurd c6 (by decide))
    refine lv_iconst (v := nI 0) G.1 G.2.1 d_Hp_get_25 (by decide) ?_
    refine hret (nI 0) () _ _ _ _ _ ls trivial (hP.sub [2, 3, 0, 4, 1] rfl) (hD.sub [2, 3, 0, 4, 1] (by decide) rfl) hS (Nat.le_of_ble_eq_true rfl) (Nat.le_of_ble_eq_true rfl) d_Hp_get_26
def y_Hp_put : MethodName := ⟨"ClassWorks$Heap", "put", "(III)V"⟩
abbrev b_Hp_put : ByteArray := prog_4_method_17_code
theorem d_Hp_put_0 : decode b_Hp_put 0 = .ok (.aload_n 0, 1) := by decide +kernel
theorem d_Hp_put_1 : decode b_Hp_put 1 = .ok (.iload_n 1, 1) := by decide +kernel
theorem d_Hp_put_2 : decode b_Hp_put 2 = .ok (.iload_n 2, 1) := by decide +kernel
theorem d_Hp_put_3 : decode b_Hp_put 3 = .ok (.invokevirtual 94, 3) := by decide +kernel
theorem d_Hp_put_6 : decode b_Hp_put 6 = .ok (.ifCond .eq 17, 3) := by decide +kernel
theorem d_Hp_put_9 : decode b_Hp_put 9 = .ok (.aload_n 0, 1) := by decide +kernel
theorem d_Hp_put_10 : decode b_Hp_put 10 = .ok (.getfield 21, 3) := by decide +kernel
theorem d_Hp_put_13 : decode b_Hp_put 13 = .ok (.aload_n 0, 1) := by decide +kernel
theorem d_Hp_put_14 : decode b_Hp_put 14 = .ok (.getfield 15, 3) := by decide +kernel
theorem d_Hp_put_17 : decode b_Hp_put 17 = .ok (.iload_n 1, 1) := by decide +kernel
theorem d_Hp_put_18 : decode b_Hp_put 18 = .ok (.iaload, 1) := by decide +kernel
theorem d_Hp_put_19 : decode b_Hp_put 19 = .ok (.iload_n 2, 1) := by decide +kernel
theorem d_Hp_put_20 : decode b_Hp_put 20 = .ok (.iadd, 1) := by decide +kernel
theorem d_Hp_put_21 : decode b_Hp_put 21 = .ok (.iload_n 3, 1) := by decide +kernel
theorem d_Hp_put_22 : decode b_Hp_put 22 = .ok (.iastore, 1) := by decide +kernel
theorem d_Hp_put_23 : decode b_Hp_put 23 = .ok (.return_, 1) := by decide +kernel
abbrev rm_Hp_put : Room := { frames := 1, cells := 0, slots := 0, locals := 22 }
set_option maxHeartbeats 4000000 in
set_option maxRecDepth 100000 in
/-- put(r, i, v) -/
theorem c_Hp_put (l : Launch) (D : va_G) (g : Nat → ClassId) (h0 : Nat) (rr : Int32) (i : Int32) (v : Int32) (r_kind : Nat) (r_base : Nat) (r_length : Nat) (r_data : Nat) (f_objects : Int32) (f_top : Int32) (r_lock : Nat) (r_spare : Nat) (f_leastFree : Int32) (f_highest : Int32) (r_faults : Nat) (r_faultLocks : Nat) (r_touched : Nat) (r_open : Nat) (f_opened : Int32) (d_kind : Nat → Int32) (d_base : Nat → Int32) (d_length : Nat → Int32) (d_data : Nat → Int32) (sz : Nat) (hI : HI d_kind d_base d_length) : Met l y_Hp_put (mw y_Hp_put b_Hp_put 4 (none)) (rm_Hp_put) (PC g D [] [.ref h0, .int rr, .int i, .int v] sz [(h0, .inr (2, [.ref r_kind, .ref r_base, .ref r_length, .ref r_data, .int f_objects, .int f_top, .ref r_lock, .ref r_spare, .int f_leastFree, .int f_highest, .ref r_faults, .ref r_faultLocks, .ref r_touched, .ref r_open, .int f_opened])), (r_kind, .inl (g 0, 801, .inl d_kind)), (r_base, .inl (g 0, 801, .inl d_base)), (r_length, .inl (g 0, 801, .inl d_length)), (r_data, .inl (g 0, 4000, .inl d_data))]) (va_Qv (fun u : (Nat → Int32) => True) (QW D (va_A [(h0, .inr (2, [.ref r_kind, .ref r_base, .ref r_length, .ref r_data, .int f_objects, .int f_top, .ref r_lock, .ref r_spare, .int f_leastFree, .int f_highest, .ref r_faults, .ref r_faultLocks, .ref r_touched, .ref r_open, .int f_opened])), (r_kind, .inl (g 0, 801, .inl d_kind)), (r_base, .inl (g 0, 801, .inl d_base)), (r_length, .inl (g 0, 801, .inl d_length)), (r_data, .inl (g 0, 4000, .inl d_data))] sz) (fun u : (Nat → Int32) => [(h0, .inr (2, [.ref r_kind, .ref r_base, .ref r_length, .ref r_data, .int f_objects, .int f_top, .ref r_lock, .ref r_spare, .int f_leastFree, .int f_highest, .ref r_faults, .ref r_faultLocks, .ref r_touched, .ref r_open, .int f_opened])), (r_kind, .inl (g 0, 801, .inl d_kind)), (r_base, .inl (g 0, 801, .inl d_base)), (r_length, .inl (g 0, 801, .inl d_length)), (r_data, .inl (g 0, 4000, .inl u))])) (va_A [(h0, .inr (2, [.ref r_kind, .ref r_base, .ref r_length, .ref r_data, .int f_objects, .int f_top, .ref r_lock, .ref r_spare, .int f_leastFree, .int f_highest, .ref r_faults, .ref r_faultLocks, .ref r_touched, .ref r_open, .int f_opened])), (r_kind, .inl (g 0, 801, .inl d_kind)), (r_base, .inl (g 0, 801, .inl d_base)), (r_length, .inl (g 0, 801, .inl d_length)), (r_data, .inl (g 0, 4000, .inl d_data))] sz)) 0 0 (va_A [(h0, .inr (2, [.ref r_kind, .ref r_base, .ref r_length, .ref r_data, .int f_objects, .int f_top, .ref r_lock, .ref r_spare, .int f_leastFree, .int f_highest, .ref r_faults, .ref r_faultLocks, .ref r_touched, .ref r_open, .int f_opened])), (r_kind, .inl (g 0, 801, .inl d_kind)), (r_base, .inl (g 0, 801, .inl d_base)), (r_length, .inl (g 0, 801, .inl d_length)), (r_data, .inl (g 0, 4000, .inl d_data))] sz) := by
  refine ofV (by decide +kernel) (Nat.le_of_ble_eq_true rfl) ?_
  intro p e s m args below meth c A Q ls H locs G hsz hP hD hS hl hret
  subst hsz
  have hl : lv_has ls 4 [(0, .ref h0), (1, .int rr), (2, .int i), (3, .int v)] := hl
  refine lv_aload_n G.1 G.2.1 d_Hp_put_0 rfl (lv_at hl 0 rfl) ?_
  refine lv_iload_n G.1 G.2.1 d_Hp_put_1 rfl (lv_at hl 1 rfl) ?_
  refine lv_iload_n G.1 G.2.1 d_Hp_put_2 rfl (lv_at hl 2 rfl) ?_
  refine kEi (wr := [(r_base, .inl (g 0, 801, .inl d_base)), (r_data, .inl (g 0, 4000, .inl d_data))]) G (kV (As := [.int rr, .int i]) (rest := []) G hP hD hS [0, 1, 3] rfl rfl (c_Hp_isElement l D g h0 rr i r_kind r_base r_length r_data f_objects f_top r_lock r_spare f_leastFree f_highest r_faults r_faultLocks r_touched r_open f_opened d_kind d_length d_base H.size hI) w_Hp_isElement q1998 rfl rfl ⟨Nat.le_of_ble_eq_true rfl, Nat.le_of_ble_eq_true rfl⟩ (fun _ h => absurd h List.not_mem_nil) 0 (ci := 2) rfl rfl rfl hl.1 rfl (Nat.le_of_ble_eq_true rfl) rfl ⟨Nat.le_of_ble_eq_true rfl, (Nat.le_of_ble_eq_true rfl)⟩ d_Hp_put_3) hP hD hS [0, 1, 3] [2, 4] rfl rfl rfl rfl (fun r_1 u_2 H locs hw hP hD hS hzH => ?_)
  have hw : (r_1 = 1 ∧ hpE d_kind d_length rr i) ∨ r_1 = 0 := hw
  have hP : va_P D CL [(r_base, .inl (g 0, 801, .inl d_base)), (r_data, .inl (g 0, 4000, .inl d_data)), (h0, .inr (2, [.ref r_kind, .ref r_base, .ref r_length, .ref r_data, .int f_objects, .int f_top, .ref r_lock, .ref r_spare, .int f_leastFree, .int f_highest, .ref r_faults, .ref r_faultLocks, .ref r_touched, .ref r_open, .int f_opened])), (r_kind, .inl (g 0, 801, .inl d_kind)), (r_length, .inl (g 0, 801, .inl d_length))] H := hP
  have hD : va_D A [(r_base, .inl (g 0, 801, .inl d_base)), (r_data, .inl (g 0, 4000, .inl d_data)), (h0, .inr (2, [.ref r_kind, .ref r_base, .ref r_length, .ref r_data, .int f_objects, .int f_top, .ref r_lock, .ref r_spare, .int f_leastFree, .int f_highest, .ref r_faults, .ref r_faultLocks, .ref r_touched, .ref r_open, .int f_opened])), (r_kind, .inl (g 0, 801, .inl d_kind)), (r_length, .inl (g 0, 801, .inl d_length))] := hD
  rcases hw with ⟨hw, hE⟩ | hw
  · skip
    refine tpi (w := nI 1) hw ?_
    obtain ⟨-, x, j, n, hxr, hx1, hx2, hxk, hij, hln, hjn, hn4⟩ := hE
    obtain ⟨a, n9, hba, hln9, han⟩ := hI x hx1 hx2 hxk
    have hn9 : n9 = n := (nI_eq (by omega) (by omega)).mp (hln9.symm.trans hln)
    refine lv_if_eq (tgt := 23) G.1 G.2.1 d_Hp_put_6 (by decide) (fun c6 => absurd c6 (by decide)) (fun c6 => ?_)
    refine lv_aload_n G.1 G.2.1 d_Hp_put_9 rfl (lv_at hl 0 rfl) ?_
    refine kg (ci := 2) G iHp hP 2 rfl rfl 3 (by decide) q921 rfl rfl d_Hp_put_10 ?_
    refine lv_aload_n G.1 G.2.1 d_Hp_put_13 rfl (lv_at hl 0 rfl) ?_
    refine kg (ci := 2) G iHp hP 2 rfl rfl 1 (by decide) q916 rfl rfl d_Hp_put_14 ?_
    refine lv_iload_n G.1 G.2.1 d_Hp_put_17 rfl (lv_at hl 1 rfl) ?_
    refine tpi (w := nI x) hxr ?_
    refine kiald G hP 0 0 rfl rfl (by omega) (by omega) d_Hp_put_18 ?_
    refine tpi (w := nI a) hba ?_
    refine W.eq (g2 := F0 m 19 ls [.int (nI a), .ref r_data]) rfl ?_
    refine lv_iload_n G.1 G.2.1 d_Hp_put_19 rfl (lv_at hl 2 rfl) ?_
    refine tpi (w := nI j) hij ?_
    refine lv_iadd G.1 G.2.1 d_Hp_put_20 ?_
    refine tpi (w := nI (a + j)) (nI_add _ _) ?_
    refine lv_iload_n G.1 G.2.1 d_Hp_put_21 rfl (lv_at hl 3 rfl) ?_
    refine kiast G hP hD hS 1 0 rfl rfl (by omega) (by omega) d_Hp_put_22 (fun H locs hP hD hS => ?_)
    have hP : va_P D CL [(r_base, .inl (g 0, 801, .inl d_base)), (r_data, .inl (g 0, 4000, .inl (upd d_data (a + j) v))), (h0, .inr (2, [.ref r_kind, .ref r_base, .ref r_length, .ref r_data, .int f_objects, .int f_top, .ref r_lock, .ref r_spare, .int f_leastFree, .int f_highest, .ref r_faults, .ref r_faultLocks, .ref r_touched, .ref r_open, .int f_opened])), (r_kind, .inl (g 0, 801, .inl d_kind)), (r_length, .inl (g 0, 801, .inl d_length))] H := hP
    have hD : va_D A [(r_base, .inl (g 0, 801, .inl d_base)), (r_data, .inl (g 0, 4000, .inl (upd d_data (a + j) v))), (h0, .inr (2, [.ref r_kind, .ref r_base, .ref r_length, .ref r_data, .int f_objects, .int f_top, .ref r_lock, .ref r_spare, .int f_leastFree, .int f_highest, .ref r_faults, .ref r_faultLocks, .ref r_touched, .ref r_open, .int f_opened])), (r_kind, .inl (g 0, 801, .inl d_kind)), (r_length, .inl (g 0, 801, .inl d_length))] := hD
    refine hret (upd d_data (a + j) v) _ _ _ _ _ ls (show True from trivial) (hP.sub [2, 3, 0, 4, 1] rfl) (hD.sub [2, 3, 0, 4, 1] (by decide) rfl) hS (Nat.le_of_ble_eq_true rfl) (Nat.le_of_ble_eq_true rfl) d_Hp_put_23
  · skip
    refine tpi (w := nI 0) hw ?_
    refine lv_if_eq (tgt := 23) G.1 G.2.1 d_Hp_put_6 (by decide) (fun c6 => ?_) (fun c6 => absurd c6 (by decide))
    refine hret d_data _ _ _ _ _ ls (show True from trivial) (hP.sub [2, 3, 0, 4, 1] rfl) (hD.sub [2, 3, 0, 4, 1] (by decide) rfl) hS (Nat.le_of_ble_eq_true rfl) (Nat.le_of_ble_eq_true rfl) d_Hp_put_23
