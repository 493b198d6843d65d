theorem lset_same {l : List Value} {k : Nat} {v : Value} (h : l[k]? = some v) : l.set k v = l := by
  apply List.ext_getElem?
  intro j
  by_cases e : k = j
  · subst e
    have hk : k < l.length := (List.getElem?_eq_some_iff.mp h).1
    rw [List.getElem?_set_self hk, h]
  · rw [List.getElem?_set_ne e]
theorem lset_ne {l : List Value} {k j : Nat} {v w : Value} (h : k ≠ j) (hj : l[j]? = some w) : (l.set k v)[j]? = some w := by rw [List.getElem?_set_ne h]; exact hj
theorem lset_eq {l : List Value} {k : Nat} {v : Value} (h : k < l.length) : (l.set k v)[k]? = some v := List.getElem?_set_self h
theorem llen_set {l : List Value} {k n : Nat} {v : Value} (h : l.length = n) : (l.set k v).length = n := by rw [List.length_set]; exact h
theorem lset_set {l : List Value} {k : Nat} {v w : Value} : (l.set k v).set k w = l.set k w := List.set_set ..
/-- the reference's numbers of names: links are 0, or one more than a lesser number -/
def MI (k : Nat) (fn fh : Nat → Int32) : Prop := (∀ i, i < k → ∃ z : Nat, z ≤ i ∧ fn i = nI z) ∧ ∀ h, h < 4096 → ∃ z : Nat, z ≤ k ∧ fh h = nI z
theorem MI.add {k hx z : Nat} {fn fh : Nat → Int32} (h : MI k fn fh) (hz : z ≤ k) (ez : fh hx = nI z) : MI (k + 1) (upd fn k (nI z)) (upd fh hx (nI (k + 1))) := by
  obtain ⟨h2, h3⟩ := h
  refine ⟨fun i hi => ?_, fun j hj => ?_⟩
  · by_cases e : i = k
    · subst e; exact ⟨z, hz, by simp [upd]⟩
    · obtain ⟨z, q1, q2⟩ := h2 i (by omega)
      exact ⟨z, q1, by simp [upd, e, q2]⟩
  · by_cases e : j = hx
    · subst e; exact ⟨k + 1, by omega, by simp [upd]⟩
    · obtain ⟨z, q1, q2⟩ := h3 j hj
      exact ⟨z, by omega, by simp [upd, e, q2]⟩
theorem MI_0 : MI 0 (fun _ => nI 0) (fun _ => nI 0) := ⟨fun i hi => absurd hi (Nat.not_lt_zero _), fun j hj => ⟨0, Nat.le_refl _, rfl⟩⟩
/-- how long the word is that ends before place i -/
def rl (l : List Int32) : Nat → Nat
  | 0 => 0
  | i + 1 => if l.getD i 0 &&& 255 = nI 32 then 0 else rl l i + 1
/-- how many blanks stand before place i -/
def cbl (l : List Int32) : Nat → Nat
  | 0 => 0
  | i + 1 => cbl l i + if l.getD i 0 &&& 255 = nI 32 then 1 else 0
theorem cbl_mono (l : List Int32) : ∀ {i j : Nat}, i ≤ j → cbl l i ≤ cbl l j := by
  intro i j h
  induction h with
  | refl => exact Nat.le_refl _
  | step h ih => exact Nat.le_trans ih (by rw [cbl]; omega)
def y_Mo_room : MethodName := ⟨"ClassWorksModel", "room", "([II)[I"⟩
abbrev b_Mo_room : ByteArray := prog_14_method_1_code
theorem d_Mo_room_0 : decode b_Mo_room 0 = .ok (.iload_n 1, 1) := by decide +kernel
theorem d_Mo_room_1 : decode b_Mo_room 1 = .ok (.aload_n 0, 1) := by decide +kernel
theorem d_Mo_room_2 : decode b_Mo_room 2 = .ok (.arraylength, 1) := by decide +kernel
theorem d_Mo_room_3 : decode b_Mo_room 3 = .ok (.if_icmp .gt 5, 3) := by decide +kernel
theorem d_Mo_room_6 : decode b_Mo_room 6 = .ok (.aload_n 0, 1) := by decide +kernel
theorem d_Mo_room_7 : decode b_Mo_room 7 = .ok (.areturn, 1) := by decide +kernel
abbrev rm_Mo_room : Room := { frames := 0, cells := 0, slots := 0, locals := 0 }
set_option maxHeartbeats 4000000 in
set_option maxRecDepth 100000 in
/-- room: it is large enough -/
theorem c_Mo_room (l : Launch) (D : va_G) (g : Nat → ClassId) (q : Nat) (n : Nat) (N : Nat) (f : Nat → Int32) (sz : Nat) (hn : n ≤ N) (hN : N < 2 ^ 30) : Met l y_Mo_room (mw y_Mo_room b_Mo_room 3 (some ((.array .int)))) (rm_Mo_room) (PC g D [] [.ref q, .int (nI n)] sz [(q, .inl (g 0, N, .inl f))]) (va_Qq (fun (r : Option Nat) (u : Unit) => r = some q) (QW D (va_A [(q, .inl (g 0, N, .inl f))] sz) (fun u : Unit => [(q, .inl (g 0, N, .inl f))])) (va_A [(q, .inl (g 0, N, .inl f))] sz)) 0 0 (va_A [(q, .inl (g 0, N, .inl f))] sz) := by
  refine ofQ (Or.inr ⟨_, rfl⟩) (by decide +kernel) (Nat.le_of_ble_eq_true rfl) ?_
  intro p e s m args below meth c A Q ls H locs G hsz hP hD hS hl hret
  subst hsz
  have hl : lv_has ls 3 [(0, .ref q), (1, .int (nI n))] := hl
  refine lv_iload_n G.1 G.2.1 d_Mo_room_0 rfl (lv_at hl 1 rfl) ?_
  refine lv_aload_n G.1 G.2.1 d_Mo_room_1 rfl (lv_at hl 0 rfl) ?_
  refine kalen G hP 0 0 rfl rfl d_Mo_room_2 ?_
  refine tpi (w := nI N) rfl ?_
  refine lv_icmp_gt (tgt := 8) G.1 G.2.1 d_Mo_room_3 (by decide) (fun c3 => absurd c3 (fun h => absurd ((nI_ltI (by omega) (by omega)).mp h) (by omega))) (fun c3 => ?_)
  have c3 : ¬ (N < n) := fun h => c3 ((nI_ltI (by omega) (by omega)).mpr h)
  refine lv_aload_n G.1 G.2.1 d_Mo_room_6 rfl (lv_at hl 0 rfl) ?_
  refine hret (some q) () _ _ _ _ _ ls rfl (hP.sub [0] rfl) (hD.sub [0] (by decide) rfl) hS (Nat.le_of_ble_eq_true rfl) (Nat.le_of_ble_eq_true rfl) d_Mo_room_7
def y_Mo_roomy : MethodName := ⟨"ClassWorksModel", "roomy", "([BI)[B"⟩
abbrev b_Mo_roomy : ByteArray := prog_14_method_2_code
theorem d_Mo_roomy_0 : decode b_Mo_roomy 0 = .ok (.iload_n 1, 1) := by decide +kernel
theorem d_Mo_roomy_1 : decode b_Mo_roomy 1 = .ok (.aload_n 0, 1) := by decide +kernel
theorem d_Mo_roomy_2 : decode b_Mo_roomy 2 = .ok (.arraylength, 1) := by decide +kernel
theorem d_Mo_roomy_3 : decode b_Mo_roomy 3 = .ok (.if_icmp .gt 5, 3) := by decide +kernel
theorem d_Mo_roomy_6 : decode b_Mo_roomy 6 = .ok (.aload_n 0, 1) := by decide +kernel
theorem d_Mo_roomy_7 : decode b_Mo_roomy 7 = .ok (.areturn, 1) := by decide +kernel
abbrev rm_Mo_roomy : Room := { frames := 0, cells := 0, slots := 0, locals := 0 }
set_option maxHeartbeats 4000000 in
set_option maxRecDepth 100000 in
/-- roomy: it is large enough -/
theorem c_Mo_roomy (l : Launch) (D : va_G) (g : Nat → ClassId) (q : Nat) (n : Nat) (N : Nat) (f : Nat → Int32) (sz : Nat) (hn : n ≤ N) (hN : N < 2 ^ 30) : Met l y_Mo_roomy (mw y_Mo_roomy b_Mo_roomy 3 (some ((.array .byte)))) (rm_Mo_roomy) (PC g D [] [.ref q, .int (nI n)] sz [(q, .inl (g 1, N, .inl f))]) (va_Qq (fun (r : Option Nat) (u : Unit) => r = some q) (QW D (va_A [(q, .inl (g 1, N, .inl f))] sz) (fun u : Unit => [(q, .inl (g 1, N, .inl f))])) (va_A [(q, .inl (g 1, N, .inl f))] sz)) 0 0 (va_A [(q, .inl (g 1, N, .inl f))] sz) := by
  refine ofQ (Or.inr ⟨_, rfl⟩) (by decide +kernel) (Nat.le_of_ble_eq_true rfl) ?_
  intro p e s m args below meth c A Q ls H locs G hsz hP hD hS hl hret
  subst hsz
  have hl : lv_has ls 3 [(0, .ref q), (1, .int (nI n))] := hl
  refine lv_iload_n G.1 G.2.1 d_Mo_roomy_0 rfl (lv_at hl 1 rfl) ?_
  refine lv_aload_n G.1 G.2.1 d_Mo_roomy_1 rfl (lv_at hl 0 rfl) ?_
  refine kalen G hP 0 1 rfl rfl d_Mo_roomy_2 ?_
  refine tpi (w := nI N) rfl ?_
  refine lv_icmp_gt (tgt := 8) G.1 G.2.1 d_Mo_roomy_3 (by decide) (fun c3 => absurd c3 (fun h => absurd ((nI_ltI (by omega) (by omega)).mp h) (by omega))) (fun c3 => ?_)
  have c3 : ¬ (N < n) := fun h => c3 ((nI_ltI (by omega) (by omega)).mpr h)
  refine lv_aload_n G.1 G.2.1 d_Mo_roomy_6 rfl (lv_at hl 0 rfl) ?_
  refine hret (some q) () _ _ _ _ _ ls rfl (hP.sub [0] rfl) (hD.sub [0] (by decide) rfl) hS (Nat.le_of_ble_eq_true rfl) (Nat.le_of_ble_eq_true rfl) d_Mo_roomy_7
def y_Mo_isName : MethodName := ⟨"ClassWorksModel", "isName", "(I[BII)Z"⟩
abbrev b_Mo_isName : ByteArray := prog_14_method_4_code
theorem q3065 : Cond.fieldLink "ClassWorksModel" 40 "ClassWorksModel" "nameSizes" "[B" ∈ lw_ok := lw_okmem (List.mem_of_getElem? (i := 3065) (by decide +kernel)) rfl
theorem q3064 : Cond.fieldLink "ClassWorksModel" 28 "ClassWorksModel" "nameBytes" "[B" ∈ lw_ok := lw_okmem (List.mem_of_getElem? (i := 3064) (by decide +kernel)) rfl
theorem d_Mo_isName_0 : decode b_Mo_isName 0 = .ok (.aload_n 0, 1) := by decide +kernel
theorem d_Mo_isName_1 : decode b_Mo_isName 1 = .ok (.getfield 40, 3) := by decide +kernel
theorem d_Mo_isName_4 : decode b_Mo_isName 4 = .ok (.iload_n 1, 1) := by decide +kernel
theorem d_Mo_isName_5 : decode b_Mo_isName 5 = .ok (.baload, 1) := by decide +kernel
theorem d_Mo_isName_6 : decode b_Mo_isName 6 = .ok (.iload 4, 2) := by decide +kernel
theorem d_Mo_isName_8 : decode b_Mo_isName 8 = .ok (.if_icmp .ne 7, 3) := by decide +kernel
theorem d_Mo_isName_11 : decode b_Mo_isName 11 = .ok (.iconst 1, 1) := by decide +kernel
theorem d_Mo_isName_12 : decode b_Mo_isName 12 = .ok (.goto 4, 3) := by decide +kernel
theorem d_Mo_isName_15 : decode b_Mo_isName 15 = .ok (.iconst 0, 1) := by decide +kernel
theorem d_Mo_isName_16 : decode b_Mo_isName 16 = .ok (.istore 5, 2) := by decide +kernel
theorem d_Mo_isName_18 : decode b_Mo_isName 18 = .ok (.iconst 0, 1) := by decide +kernel
theorem d_Mo_isName_19 : decode b_Mo_isName 19 = .ok (.istore 6, 2) := by decide +kernel
theorem d_Mo_isName_21 : decode b_Mo_isName 21 = .ok (.iload 6, 2) := by decide +kernel
theorem d_Mo_isName_23 : decode b_Mo_isName 23 = .ok (.iload 4, 2) := by decide +kernel
theorem d_Mo_isName_25 : decode b_Mo_isName 25 = .ok (.if_icmp .ge 42, 3) := by decide +kernel
theorem d_Mo_isName_28 : decode b_Mo_isName 28 = .ok (.iload 5, 2) := by decide +kernel
theorem d_Mo_isName_30 : decode b_Mo_isName 30 = .ok (.ifCond .eq 37, 3) := by decide +kernel
theorem d_Mo_isName_33 : decode b_Mo_isName 33 = .ok (.aload_n 0, 1) := by decide +kernel
theorem d_Mo_isName_34 : decode b_Mo_isName 34 = .ok (.getfield 28, 3) := by decide +kernel
theorem d_Mo_isName_37 : decode b_Mo_isName 37 = .ok (.bipush 12, 2) := by decide +kernel
theorem d_Mo_isName_39 : decode b_Mo_isName 39 = .ok (.iload_n 1, 1) := by decide +kernel
theorem d_Mo_isName_40 : decode b_Mo_isName 40 = .ok (.imul, 1) := by decide +kernel
theorem d_Mo_isName_41 : decode b_Mo_isName 41 = .ok (.iload 6, 2) := by decide +kernel
theorem d_Mo_isName_43 : decode b_Mo_isName 43 = .ok (.iadd, 1) := by decide +kernel
theorem d_Mo_isName_44 : decode b_Mo_isName 44 = .ok (.baload, 1) := by decide +kernel
theorem d_Mo_isName_45 : decode b_Mo_isName 45 = .ok (.aload_n 2, 1) := by decide +kernel
theorem d_Mo_isName_46 : decode b_Mo_isName 46 = .ok (.iload_n 3, 1) := by decide +kernel
theorem d_Mo_isName_47 : decode b_Mo_isName 47 = .ok (.iload 6, 2) := by decide +kernel
theorem d_Mo_isName_49 : decode b_Mo_isName 49 = .ok (.iadd, 1) := by decide +kernel
theorem d_Mo_isName_50 : decode b_Mo_isName 50 = .ok (.baload, 1) := by decide +kernel
theorem d_Mo_isName_51 : decode b_Mo_isName 51 = .ok (.if_icmp .ne 7, 3) := by decide +kernel
theorem d_Mo_isName_54 : decode b_Mo_isName 54 = .ok (.iconst 1, 1) := by decide +kernel
theorem d_Mo_isName_55 : decode b_Mo_isName 55 = .ok (.goto 4, 3) := by decide +kernel
theorem d_Mo_isName_58 : decode b_Mo_isName 58 = .ok (.iconst 0, 1) := by decide +kernel
theorem d_Mo_isName_59 : decode b_Mo_isName 59 = .ok (.istore 5, 2) := by decide +kernel
theorem d_Mo_isName_61 : decode b_Mo_isName 61 = .ok (.iinc 6 1, 3) := by decide +kernel
theorem d_Mo_isName_64 : decode b_Mo_isName 64 = .ok (.goto (-43), 3) := by decide +kernel
theorem d_Mo_isName_67 : decode b_Mo_isName 67 = .ok (.iload 5, 2) := by decide +kernel
theorem d_Mo_isName_69 : decode b_Mo_isName 69 = .ok (.ireturn, 1) := by decide +kernel
abbrev rm_Mo_isName : Room := { frames := 0, cells := 0, slots := 0, locals := 0 }
set_option maxHeartbeats 4000000 in
set_option maxRecDepth 100000 in
/-- isName -/
theorem c_Mo_isName (l : Launch) (D : va_G) (g : Nat → ClassId) (h0 : Nat) (w : Nat) (tx : Nat) (n : Nat) (fs : List Value) (nb : Nat) (nz : Nat) (nx : Nat) (nf : Nat) (k : Nat) (kr : Nat) (fb : Nat → Int32) (fz : Nat → Int32) (fn : Nat → Int32) (fh : Nat → Int32) (ft : Nat → Int32) (sz : Nat) (glen : fs.length = 131) (g0 : fs[0]? = some (.ref nb)) (g1 : fs[1]? = some (.ref nz)) (g2 : fs[2]? = some (.ref nx)) (g3 : fs[3]? = some (.ref nf)) (g4 : fs[4]? = some (.int (nI k))) (g5 : fs[5]? = some (.ref kr)) (hw : w < 512) (hn : n ≤ 12) : Met l y_Mo_isName (mw y_Mo_isName b_Mo_isName 7 (some (.boolean))) (rm_Mo_isName) (PC g D [] [.ref h0, .int (nI w), .ref tx, .int (nI 0), .int (nI n)] sz [(h0, .inr (14, fs)), (nb, .inl (g 1, 6144, .inl fb)), (nz, .inl (g 1, 512, .inl fz)), (nx, .inl (g 0, 512, .inl fn)), (nf, .inl (g 0, 4096, .inl fh)), (tx, .inl (g 1, 16, .inl ft))]) (va_Qi (fun (r : Int32) (u : Unit) => r = 0 ∨ r = 1) (QW D (va_A [(h0, .inr (14, fs)), (nb, .inl (g 1, 6144, .inl fb)), (nz, .inl (g 1, 512, .inl fz)), (nx, .inl (g 0, 512, .inl fn)), (nf, .inl (g 0, 4096, .inl fh)), (tx, .inl (g 1, 16, .inl ft))] sz) (fun u : Unit => [(h0, .inr (14, fs)), (nb, .inl (g 1, 6144, .inl fb)), (nz, .inl (g 1, 512, .inl fz)), (nx, .inl (g 0, 512, .inl fn)), (nf, .inl (g 0, 4096, .inl fh)), (tx, .inl (g 1, 16, .inl ft))])) (va_A [(h0, .inr (14, fs)), (nb, .inl (g 1, 6144, .inl fb)), (nz, .inl (g 1, 512, .inl fz)), (nx, .inl (g 0, 512, .inl fn)), (nf, .inl (g 0, 4096, .inl fh)), (tx, .inl (g 1, 16, .inl ft))] sz)) 0 0 (va_A [(h0, .inr (14, fs)), (nb, .inl (g 1, 6144, .inl fb)), (nz, .inl (g 1, 512, .inl fz)), (nx, .inl (g 0, 512, .inl fn)), (nf, .inl (g 0, 4096, .inl fh)), (tx, .inl (g 1, 16, .inl ft))] sz) := by
  refine ofZ (by decide +kernel) (Nat.le_of_ble_eq_true rfl) ?_
  intro p e s m args below meth c A Q ls H locs G hsz hP hD hS hl hret
  subst hsz
  have hl : lv_has ls 7 [(0, .ref h0), (1, .int (nI w)), (2, .ref tx), (3, .int (nI 0)), (4, .int (nI n))] := hl
  refine lv_aload_n G.1 G.2.1 d_Mo_isName_0 rfl (lv_at hl 0 rfl) ?_
  refine kg (ci := 14) (v := .ref nz) G iMo hP 0 rfl rfl 1 (by decide) q3065 rfl g1 d_Mo_isName_1 ?_
  refine lv_iload_n G.1 G.2.1 d_Mo_isName_4 rfl (lv_at hl 1 rfl) ?_
  refine kbald G hP 2 1 rfl rfl (by omega) (by omega) d_Mo_isName_5 ?_
  refine lv_iload G.1 G.2.1 d_Mo_isName_6 (lv_at hl 4 rfl) ?_
  have J_1 : ∀ (e1 : Nat), (e1 ≤ 1) → ∀ (H : Heap) (locs : List Loc), va_P D CL [(h0, .inr (14, fs)), (nb, .inl (g 1, 6144, .inl fb)), (nz, .inl (g 1, 512, .inl fz)), (nx, .inl (g 0, 512, .inl fn)), (nf, .inl (g 0, 4096, .inl fh)), (tx, .inl (g 1, 16, .inl ft))] H → va_D A [(h0, .inr (14, fs)), (nb, .inl (g 1, 6144, .inl fb)), (nz, .inl (g 1, 512, .inl fz)), (nx, .inl (g 0, 512, .inl fn)), (nf, .inl (g 0, 4096, .inl fh)), (tx, .inl (g 1, 16, .inl ft))] → va_S A s.heap H locs → ∀ ls, lv_has ls 7 [(0, .ref h0), (1, .int (nI w)), (2, .ref tx), (3, .int (nI 0)), (4, .int (nI n))] → W p l e rm_Mo_isName s m args below meth c H locs 0 0 Q (F0 m 16 ls [.int (nI e1)]) := by
    intro e1 he1 H locs hP hD hS ls hl
    refine lv_istore (lv' := [(5, .int (nI e1)), (0, .ref h0), (1, .int (nI w)), (2, .ref tx), (3, .int (nI 0)), (4, .int (nI n))]) G.1 G.2.1 d_Mo_isName_16 hl (by decide) rfl (fun ls hl => ?_)
    refine lv_iconst (v := nI 0) G.1 G.2.1 d_Mo_isName_18 (by decide) ?_
    refine lv_istore (lv' := [(6, .int (nI 0)), (5, .int (nI e1)), (0, .ref h0), (1, .int (nI w)), (2, .ref tx), (3, .int (nI 0)), (4, .int (nI n))]) G.1 G.2.1 d_Mo_isName_19 hl (by decide) rfl (fun ls hl => ?_)
    have L_2 : ∀ (k_L_2 : Nat) (i : Nat) (e2 : Nat), (n - i) < k_L_2 → (i ≤ n) → (e2 ≤ 1) → ∀ (H : Heap) (locs : List Loc), va_P D CL [(h0, .inr (14, fs)), (nb, .inl (g 1, 6144, .inl fb)), (nz, .inl (g 1, 512, .inl fz)), (nx, .inl (g 0, 512, .inl fn)), (nf, .inl (g 0, 4096, .inl fh)), (tx, .inl (g 1, 16, .inl ft))] H → va_D A [(h0, .inr (14, fs)), (nb, .inl (g 1, 6144, .inl fb)), (nz, .inl (g 1, 512, .inl fz)), (nx, .inl (g 0, 512, .inl fn)), (nf, .inl (g 0, 4096, .inl fh)), (tx, .inl (g 1, 16, .inl ft))] → va_S A s.heap H locs → ∀ ls, lv_has ls 7 [(0, .ref h0), (1, .int (nI w)), (2, .ref tx), (3, .int (nI 0)), (4, .int (nI n)), (5, .int (nI e2)), (6, .int (nI i))] → W p l e rm_Mo_isName s m args below meth c H locs 0 0 Q (F0 m 21 ls []) := by
      intro k_L_2
      induction k_L_2 with
      | zero => intro i e2 hk_L_2; exact absurd hk_L_2 (Nat.not_lt_zero _)
      | succ k_L_2 ih_L_2 =>
        intro i e2 hk_L_2 hi he2 H locs hP hD hS ls hl
        refine lv_iload G.1 G.2.1 d_Mo_isName_21 (lv_at hl 6 rfl) ?_
        refine lv_iload G.1 G.2.1 d_Mo_isName_23 (lv_at hl 4 rfl) ?_
        refine lv_icmp_ge (tgt := 67) G.1 G.2.1 d_Mo_isName_25 (by decide) (fun c25 => ?_) (fun c25 => ?_)
        · skip
          have c25 : n ≤ i := (nI_leI (by omega) (by omega)).mp c25
          refine lv_iload G.1 G.2.1 d_Mo_isName_67 (lv_at hl 5 rfl) ?_
          refine hret (nI e2) () _ _ _ _ _ ls (by rcases (show e2 = 0 ∨ e2 = 1 by omega) with h | h <;> subst h <;> decide) (by rcases (show e2 = 0 ∨ e2 = 1 by omega) with h | h <;> subst h <;> decide) (hP.sub [0, 1, 2, 3, 4, 5] rfl) (hD.sub [0, 1, 2, 3, 4, 5] (by decide) rfl) hS (Nat.le_of_ble_eq_true rfl) (Nat.le_of_ble_eq_true rfl) d_Mo_isName_69
        · skip
          have c25 : ¬ (n ≤ i) := fun h => c25 ((nI_leI (by omega) (by omega)).mpr h)
          refine lv_iload G.1 G.2.1 d_Mo_isName_28 (lv_at hl 5 rfl) ?_
          refine lv_if_eq (tgt := 67) G.1 G.2.1 d_Mo_isName_30 (by decide) (fun c30 => ?_) (fun c30 => ?_)
          · skip
            have c30 : e2 = 0 := (nI_z_eq (by omega)).mp c30
            refine lv_iload G.1 G.2.1 d_Mo_isName_67 (lv_at hl 5 rfl) ?_
            refine hret (nI e2) () _ _ _ _ _ ls (by rcases (show e2 = 0 ∨ e2 = 1 by omega) with h | h <;> subst h <;> decide) (by rcases (show e2 = 0 ∨ e2 = 1 by omega) with h | h <;> subst h <;> decide) (hP.sub [0, 1, 2, 3, 4, 5] rfl) (hD.sub [0, 1, 2, 3, 4, 5] (by decide) rfl) hS (Nat.le_of_ble_eq_true rfl) (Nat.le_of_ble_eq_true rfl) d_Mo_isName_69
          · skip
            have c30 : ¬ (e2 = 0) := fun h => c30 ((nI_z_eq (by omega)).mpr h)
            refine lv_aload_n G.1 G.2.1 d_Mo_isName_33 rfl (lv_at hl 0 rfl) ?_
            refine kg (ci := 14) (v := .ref nb) G iMo hP 0 rfl rfl 0 (by decide) q3064 rfl g0 d_Mo_isName_34 ?_
            refine lv_bipush (v := nI 12) G.1 G.2.1 d_Mo_isName_37 (by decide) ?_
            refine lv_iload_n G.1 G.2.1 d_Mo_isName_39 rfl (lv_at hl 1 rfl) ?_
            refine W.eq (g2 := F0 m 40 ls [.int (nI w), .int (nI 12), .ref nb]) rfl ?_
            refine lv_imul G.1 G.2.1 d_Mo_isName_40 ?_
            refine tpi (w := nI (12 * w)) (pk_mul _ _) ?_
            refine lv_iload G.1 G.2.1 d_Mo_isName_41 (lv_at hl 6 rfl) ?_
            refine lv_iadd G.1 G.2.1 d_Mo_isName_43 ?_
            refine tpi (w := nI (12 * w + i)) (nI_add _ _) ?_
            refine kbald G hP 1 1 rfl rfl (by omega) (by omega) d_Mo_isName_44 ?_
            refine lv_aload_n G.1 G.2.1 d_Mo_isName_45 rfl (lv_at hl 2 rfl) ?_
            refine lv_iload_n G.1 G.2.1 d_Mo_isName_46 rfl (lv_at hl 3 rfl) ?_
            refine lv_iload G.1 G.2.1 d_Mo_isName_47 (lv_at hl 6 rfl) ?_
            refine lv_iadd G.1 G.2.1 d_Mo_isName_49 ?_
            refine tpi (w := nI (0 + i)) (nI_add _ _) ?_
            refine kbald G hP 5 1 rfl rfl (by omega) (by omega) d_Mo_isName_50 ?_
            have J_3 : ∀ (e3 : Nat), (e3 ≤ 1) → ∀ (H : Heap) (locs : List Loc), va_P D CL [(h0, .inr (14, fs)), (nb, .inl (g 1, 6144, .inl fb)), (nz, .inl (g 1, 512, .inl fz)), (nx, .inl (g 0, 512, .inl fn)), (nf, .inl (g 0, 4096, .inl fh)), (tx, .inl (g 1, 16, .inl ft))] H → va_D A [(h0, .inr (14, fs)), (nb, .inl (g 1, 6144, .inl fb)), (nz, .inl (g 1, 512, .inl fz)), (nx, .inl (g 0, 512, .inl fn)), (nf, .inl (g 0, 4096, .inl fh)), (tx, .inl (g 1, 16, .inl ft))] → va_S A s.heap H locs → ∀ ls, lv_has ls 7 [(0, .ref h0), (1, .int (nI w)), (2, .ref tx), (3, .int (nI 0)), (4, .int (nI n)), (5, .int (nI e2)), (6, .int (nI i))] → W p l e rm_Mo_isName s m args below meth c H locs 0 0 Q (F0 m 59 ls [.int (nI e3)]) := by
              intro e3 he3 H locs hP hD hS ls hl
              refine lv_istore (lv' := [(5, .int (nI e3)), (0, .ref h0), (1, .int (nI w)), (2, .ref tx), (3, .int (nI 0)), (4, .int (nI n)), (6, .int (nI i))]) G.1 G.2.1 d_Mo_isName_59 hl (by decide) rfl (fun ls hl => ?_)
              refine lv_iinc (v := nI (i + 1)) (lv' := [(6, .int (nI (i + 1))), (5, .int (nI e3)), (0, .ref h0), (1, .int (nI w)), (2, .ref tx), (3, .int (nI 0)), (4, .int (nI n))]) G.1 G.2.1 d_Mo_isName_61 hl (k := 6) rfl (show (nI i) + Int32.ofInt 1 = nI (i + 1) from nI_1 _) (by decide) rfl (fun ls hl => ?_)
              refine lv_goto (tgt := 21) G.1 G.2.1 d_Mo_isName_64 (by decide) ?_
              exact ih_L_2 (i + 1) e3 (by omega) (by omega) he3 _ _ (hP.sub [0, 1, 2, 3, 4, 5] rfl) (hD.sub [0, 1, 2, 3, 4, 5] (by decide) rfl) hS ls (lv_sub hl [2, 3, 4, 5, 6, 1, 0] rfl)
            refine lv_icmp_ne (tgt := 58) G.1 G.2.1 d_Mo_isName_51 (by decide) (fun c51 => ?_) (fun c51 => ?_)
            · skip
              refine lv_iconst (v := nI 0) G.1 G.2.1 d_Mo_isName_58 (by decide) ?_
              exact J_3 0 (by decide) _ _ (hP.sub [0, 1, 2, 3, 4, 5] rfl) (hD.sub [0, 1, 2, 3, 4, 5] (by decide) rfl) hS ls (lv_sub hl [0, 1, 2, 3, 4, 5, 6] rfl)
            · skip
              refine lv_iconst (v := nI 1) G.1 G.2.1 d_Mo_isName_54 (by decide) ?_
              refine lv_goto (tgt := 59) G.1 G.2.1 d_Mo_isName_55 (by decide) ?_
              exact J_3 1 (by decide) _ _ (hP.sub [0, 1, 2, 3, 4, 5] rfl) (hD.sub [0, 1, 2, 3, 4, 5] (by decide) rfl) hS ls (lv_sub hl [0, 1, 2, 3, 4, 5, 6] rfl)
    exact L_2 (_ + 1) 0 e1 (Nat.lt_succ_self _) (Nat.zero_le _) he1 _ _ (hP.sub [0, 1, 2, 3, 4, 5] rfl) (hD.sub [0, 1, 2, 3, 4, 5] (by decide) rfl) hS ls (lv_sub hl [2, 3, 4, 5, 6, 1, 0] rfl)
  refine lv_icmp_ne (tgt := 15) G.1 G.2.1 d_Mo_isName_8 (by decide) (fun c8 => ?_) (fun c8 => ?_)
  · skip
    refine lv_iconst (v := nI 0) G.1 G.2.1 d_Mo_isName_15 (by decide) ?_
    exact J_1 0 (by decide) _ _ (hP.sub [0, 1, 2, 3, 4, 5] rfl) (hD.sub [0, 1, 2, 3, 4, 5] (by decide) rfl) hS ls (lv_sub hl [0, 1, 2, 3, 4] rfl)
  · skip
    refine lv_iconst (v := nI 1) G.1 G.2.1 d_Mo_isName_11 (by decide) ?_
    refine lv_goto (tgt := 16) G.1 G.2.1 d_Mo_isName_12 (by decide) ?_
    exact J_1 1 (by decide) _ _ (hP.sub [0, 1, 2, 3, 4, 5] rfl) (hD.sub [0, 1, 2, 3, 4, 5] (by decide) rfl) hS ls (lv_sub hl [0, 1, 2, 3, 4] rfl)
def y_Mo_nameIn : MethodName := ⟨"ClassWorksModel", "nameIn", "([BII)I"⟩
abbrev b_Mo_nameIn : ByteArray := prog_14_method_3_code
theorem q3067 : Cond.fieldLink "ClassWorksModel" 17 "ClassWorksModel" "nameFirsts" "[I" ∈ lw_ok := lw_okmem (List.mem_of_getElem? (i := 3067) (by decide +kernel)) rfl
theorem q3068 : Cond.fieldLink "ClassWorksModel" 32 "ClassWorksModel" "names" "I" ∈ lw_ok := lw_okmem (List.mem_of_getElem? (i := 3068) (by decide +kernel)) rfl
theorem q2593 : Cond.code y_Mo_roomy b_Mo_roomy 3 (some ((.array .byte))) ∈ lw_ok := lw_okmem (List.mem_of_getElem? (i := 2593) (by decide +kernel)) rfl
theorem q348 : Cond.initialized "ClassWorksModel" ∈ lw_ok := lw_okmem (List.mem_of_getElem? (i := 348) (by decide +kernel)) rfl
theorem q2592 : Cond.static y_Mo_roomy ∈ lw_ok := lw_okmem (List.mem_of_getElem? (i := 2592) (by decide +kernel)) rfl
theorem w_Mo_roomy : CWv y_Mo_roomy b_Mo_roomy 3 (some ((.array .byte))) 2 ∧ Cond.static y_Mo_roomy ∈ lw_ok := ⟨⟨q2593, q348, by decide +kernel, by decide +kernel, by decide +kernel⟩, q2592⟩
theorem q2591 : Cond.methodLink "ClassWorksModel" 36 y_Mo_roomy ∈ lw_ok := lw_okmem (List.mem_of_getElem? (i := 2591) (by decide +kernel)) rfl
theorem q3066 : Cond.fieldLink "ClassWorksModel" 25 "ClassWorksModel" "nameNexts" "[I" ∈ lw_ok := lw_okmem (List.mem_of_getElem? (i := 3066) (by decide +kernel)) rfl
theorem q2598 : Cond.code y_Mo_room b_Mo_room 3 (some ((.array .int))) ∈ lw_ok := lw_okmem (List.mem_of_getElem? (i := 2598) (by decide +kernel)) rfl
theorem q2597 : Cond.static y_Mo_room ∈ lw_ok := lw_okmem (List.mem_of_getElem? (i := 2597) (by decide +kernel)) rfl
theorem w_Mo_room : CWv y_Mo_room b_Mo_room 3 (some ((.array .int))) 2 ∧ Cond.static y_Mo_room ∈ lw_ok := ⟨⟨q2598, q348, by decide +kernel, by decide +kernel, by decide +kernel⟩, q2597⟩
theorem q2596 : Cond.methodLink "ClassWorksModel" 43 y_Mo_room ∈ lw_ok := lw_okmem (List.mem_of_getElem? (i := 2596) (by decide +kernel)) rfl
theorem q2590 : Cond.code y_Mo_isName b_Mo_isName 7 (some (.boolean)) ∈ lw_ok := lw_okmem (List.mem_of_getElem? (i := 2590) (by decide +kernel)) rfl
theorem q2589 : Cond.instanceMethod y_Mo_isName ∈ lw_ok := lw_okmem (List.mem_of_getElem? (i := 2589) (by decide +kernel)) rfl
theorem q170 : Cond.selects y_Mo_isName.cls y_Mo_isName y_Mo_isName ∈ lw_ok := lw_okmem (List.mem_of_getElem? (i := 170) (by decide +kernel)) rfl
theorem w_Mo_isName : CWv y_Mo_isName b_Mo_isName 7 (some (.boolean)) 4 ∧ Cond.instanceMethod y_Mo_isName ∈ lw_ok ∧ Cond.selects y_Mo_isName.cls y_Mo_isName y_Mo_isName ∈ lw_ok := ⟨⟨q2590, q348, by decide +kernel, by decide +kernel, by decide +kernel⟩, q2589, q170⟩
theorem q2587 : Cond.methodLink "ClassWorksModel" 21 y_Mo_isName ∈ lw_ok := lw_okmem (List.mem_of_getElem? (i := 2587) (by decide +kernel)) rfl
theorem d_Mo_nameIn_0 : decode b_Mo_nameIn 0 = .ok (.iload_n 3, 1) := by decide +kernel
theorem d_Mo_nameIn_1 : decode b_Mo_nameIn 1 = .ok (.istore 4, 2) := by decide +kernel
theorem d_Mo_nameIn_3 : decode b_Mo_nameIn 3 = .ok (.iconst 0, 1) := by decide +kernel
theorem d_Mo_nameIn_4 : decode b_Mo_nameIn 4 = .ok (.istore 5, 2) := by decide +kernel
theorem d_Mo_nameIn_6 : decode b_Mo_nameIn 6 = .ok (.iload 5, 2) := by decide +kernel
theorem d_Mo_nameIn_8 : decode b_Mo_nameIn 8 = .ok (.iload_n 3, 1) := by decide +kernel
theorem d_Mo_nameIn_9 : decode b_Mo_nameIn 9 = .ok (.if_icmp .ge 23, 3) := by decide +kernel
theorem d_Mo_nameIn_12 : decode b_Mo_nameIn 12 = .ok (.bipush 31, 2) := by decide +kernel
theorem d_Mo_nameIn_14 : decode b_Mo_nameIn 14 = .ok (.iload 4, 2) := by decide +kernel
theorem d_Mo_nameIn_16 : decode b_Mo_nameIn 16 = .ok (.imul, 1) := by decide +kernel
theorem d_Mo_nameIn_17 : decode b_Mo_nameIn 17 = .ok (.aload_n 1, 1) := by decide +kernel
theorem d_Mo_nameIn_18 : decode b_Mo_nameIn 18 = .ok (.iload_n 2, 1) := by decide +kernel
theorem d_Mo_nameIn_19 : decode b_Mo_nameIn 19 = .ok (.iload 5, 2) := by decide +kernel
theorem d_Mo_nameIn_21 : decode b_Mo_nameIn 21 = .ok (.iadd, 1) := by decide +kernel
theorem d_Mo_nameIn_22 : decode b_Mo_nameIn 22 = .ok (.baload, 1) := by decide +kernel
theorem d_Mo_nameIn_23 : decode b_Mo_nameIn 23 = .ok (.iadd, 1) := by decide +kernel
theorem d_Mo_nameIn_24 : decode b_Mo_nameIn 24 = .ok (.istore 4, 2) := by decide +kernel
theorem d_Mo_nameIn_26 : decode b_Mo_nameIn 26 = .ok (.iinc 5 1, 3) := by decide +kernel
theorem d_Mo_nameIn_29 : decode b_Mo_nameIn 29 = .ok (.goto (-23), 3) := by decide +kernel
theorem d_Mo_nameIn_32 : decode b_Mo_nameIn 32 = .ok (.iload 4, 2) := by decide +kernel
theorem d_Mo_nameIn_34 : decode b_Mo_nameIn 34 = .ok (.iload 4, 2) := by decide +kernel
theorem d_Mo_nameIn_36 : decode b_Mo_nameIn 36 = .ok (.bipush 13, 2) := by decide +kernel
theorem d_Mo_nameIn_38 : decode b_Mo_nameIn 38 = .ok (.iushr, 1) := by decide +kernel
theorem d_Mo_nameIn_39 : decode b_Mo_nameIn 39 = .ok (.ixor, 1) := by decide +kernel
theorem d_Mo_nameIn_40 : decode b_Mo_nameIn 40 = .ok (.sipush 4095, 3) := by decide +kernel
theorem d_Mo_nameIn_43 : decode b_Mo_nameIn 43 = .ok (.iand, 1) := by decide +kernel
theorem d_Mo_nameIn_44 : decode b_Mo_nameIn 44 = .ok (.istore 5, 2) := by decide +kernel
theorem d_Mo_nameIn_46 : decode b_Mo_nameIn 46 = .ok (.aload_n 0, 1) := by decide +kernel
theorem d_Mo_nameIn_47 : decode b_Mo_nameIn 47 = .ok (.getfield 17, 3) := by decide +kernel
theorem d_Mo_nameIn_50 : decode b_Mo_nameIn 50 = .ok (.iload 5, 2) := by decide +kernel
theorem d_Mo_nameIn_52 : decode b_Mo_nameIn 52 = .ok (.iaload, 1) := by decide +kernel
theorem d_Mo_nameIn_53 : decode b_Mo_nameIn 53 = .ok (.istore 6, 2) := by decide +kernel
theorem d_Mo_nameIn_55 : decode b_Mo_nameIn 55 = .ok (.iload 6, 2) := by decide +kernel
theorem d_Mo_nameIn_57 : decode b_Mo_nameIn 57 = .ok (.ifCond .le 36, 3) := by decide +kernel
theorem d_Mo_nameIn_60 : decode b_Mo_nameIn 60 = .ok (.aload_n 0, 1) := by decide +kernel
theorem d_Mo_nameIn_61 : decode b_Mo_nameIn 61 = .ok (.iload 6, 2) := by decide +kernel
theorem d_Mo_nameIn_63 : decode b_Mo_nameIn 63 = .ok (.iconst 1, 1) := by decide +kernel
theorem d_Mo_nameIn_64 : decode b_Mo_nameIn 64 = .ok (.isub, 1) := by decide +kernel
theorem d_Mo_nameIn_65 : decode b_Mo_nameIn 65 = .ok (.aload_n 1, 1) := by decide +kernel
theorem d_Mo_nameIn_66 : decode b_Mo_nameIn 66 = .ok (.iload_n 2, 1) := by decide +kernel
theorem d_Mo_nameIn_67 : decode b_Mo_nameIn 67 = .ok (.iload_n 3, 1) := by decide +kernel
theorem d_Mo_nameIn_68 : decode b_Mo_nameIn 68 = .ok (.invokevirtual 21, 3) := by decide +kernel
theorem d_Mo_nameIn_71 : decode b_Mo_nameIn 71 = .ok (.ifCond .eq 8, 3) := by decide +kernel
theorem d_Mo_nameIn_74 : decode b_Mo_nameIn 74 = .ok (.iload 6, 2) := by decide +kernel
theorem d_Mo_nameIn_76 : decode b_Mo_nameIn 76 = .ok (.iconst 1, 1) := by decide +kernel
theorem d_Mo_nameIn_77 : decode b_Mo_nameIn 77 = .ok (.isub, 1) := by decide +kernel
theorem d_Mo_nameIn_78 : decode b_Mo_nameIn 78 = .ok (.ireturn, 1) := by decide +kernel
theorem d_Mo_nameIn_79 : decode b_Mo_nameIn 79 = .ok (.aload_n 0, 1) := by decide +kernel
theorem d_Mo_nameIn_80 : decode b_Mo_nameIn 80 = .ok (.getfield 25, 3) := by decide +kernel
theorem d_Mo_nameIn_83 : decode b_Mo_nameIn 83 = .ok (.iload 6, 2) := by decide +kernel
theorem d_Mo_nameIn_85 : decode b_Mo_nameIn 85 = .ok (.iconst 1, 1) := by decide +kernel
theorem d_Mo_nameIn_86 : decode b_Mo_nameIn 86 = .ok (.isub, 1) := by decide +kernel
theorem d_Mo_nameIn_87 : decode b_Mo_nameIn 87 = .ok (.iaload, 1) := by decide +kernel
theorem d_Mo_nameIn_88 : decode b_Mo_nameIn 88 = .ok (.istore 6, 2) := by decide +kernel
theorem d_Mo_nameIn_90 : decode b_Mo_nameIn 90 = .ok (.goto (-35), 3) := by decide +kernel
theorem d_Mo_nameIn_93 : decode b_Mo_nameIn 93 = .ok (.aload_n 0, 1) := by decide +kernel
theorem d_Mo_nameIn_94 : decode b_Mo_nameIn 94 = .ok (.aload_n 0, 1) := by decide +kernel
theorem d_Mo_nameIn_95 : decode b_Mo_nameIn 95 = .ok (.getfield 28, 3) := by decide +kernel
theorem d_Mo_nameIn_98 : decode b_Mo_nameIn 98 = .ok (.bipush 12, 2) := by decide +kernel
theorem d_Mo_nameIn_100 : decode b_Mo_nameIn 100 = .ok (.aload_n 0, 1) := by decide +kernel
theorem d_Mo_nameIn_101 : decode b_Mo_nameIn 101 = .ok (.getfield 32, 3) := by decide +kernel
theorem d_Mo_nameIn_104 : decode b_Mo_nameIn 104 = .ok (.iconst 1, 1) := by decide +kernel
theorem d_Mo_nameIn_105 : decode b_Mo_nameIn 105 = .ok (.iadd, 1) := by decide +kernel
theorem d_Mo_nameIn_106 : decode b_Mo_nameIn 106 = .ok (.imul, 1) := by decide +kernel
theorem d_Mo_nameIn_107 : decode b_Mo_nameIn 107 = .ok (.invokestatic 36, 3) := by decide +kernel
theorem d_Mo_nameIn_110 : decode b_Mo_nameIn 110 = .ok (.putfield 28, 3) := by decide +kernel
theorem d_Mo_nameIn_113 : decode b_Mo_nameIn 113 = .ok (.aload_n 0, 1) := by decide +kernel
theorem d_Mo_nameIn_114 : decode b_Mo_nameIn 114 = .ok (.aload_n 0, 1) := by decide +kernel
theorem d_Mo_nameIn_115 : decode b_Mo_nameIn 115 = .ok (.getfield 40, 3) := by decide +kernel
theorem d_Mo_nameIn_118 : decode b_Mo_nameIn 118 = .ok (.aload_n 0, 1) := by decide +kernel
theorem d_Mo_nameIn_119 : decode b_Mo_nameIn 119 = .ok (.getfield 32, 3) := by decide +kernel
theorem d_Mo_nameIn_122 : decode b_Mo_nameIn 122 = .ok (.iconst 1, 1) := by decide +kernel
theorem d_Mo_nameIn_123 : decode b_Mo_nameIn 123 = .ok (.iadd, 1) := by decide +kernel
theorem d_Mo_nameIn_124 : decode b_Mo_nameIn 124 = .ok (.invokestatic 36, 3) := by decide +kernel
theorem d_Mo_nameIn_127 : decode b_Mo_nameIn 127 = .ok (.putfield 40, 3) := by decide +kernel
theorem d_Mo_nameIn_130 : decode b_Mo_nameIn 130 = .ok (.aload_n 0, 1) := by decide +kernel
theorem d_Mo_nameIn_131 : decode b_Mo_nameIn 131 = .ok (.aload_n 0, 1) := by decide +kernel
theorem d_Mo_nameIn_132 : decode b_Mo_nameIn 132 = .ok (.getfield 25, 3) := by decide +kernel
theorem d_Mo_nameIn_135 : decode b_Mo_nameIn 135 = .ok (.aload_n 0, 1) := by decide +kernel
theorem d_Mo_nameIn_136 : decode b_Mo_nameIn 136 = .ok (.getfield 32, 3) := by decide +kernel
theorem d_Mo_nameIn_139 : decode b_Mo_nameIn 139 = .ok (.iconst 1, 1) := by decide +kernel
theorem d_Mo_nameIn_140 : decode b_Mo_nameIn 140 = .ok (.iadd, 1) := by decide +kernel
theorem d_Mo_nameIn_141 : decode b_Mo_nameIn 141 = .ok (.invokestatic 43, 3) := by decide +kernel
theorem d_Mo_nameIn_144 : decode b_Mo_nameIn 144 = .ok (.putfield 25, 3) := by decide +kernel
theorem d_Mo_nameIn_147 : decode b_Mo_nameIn 147 = .ok (.iconst 0, 1) := by decide +kernel
theorem d_Mo_nameIn_148 : decode b_Mo_nameIn 148 = .ok (.istore 6, 2) := by decide +kernel
theorem d_Mo_nameIn_150 : decode b_Mo_nameIn 150 = .ok (.iload 6, 2) := by decide +kernel
theorem d_Mo_nameIn_152 : decode b_Mo_nameIn 152 = .ok (.iload_n 3, 1) := by decide +kernel
theorem d_Mo_nameIn_153 : decode b_Mo_nameIn 153 = .ok (.if_icmp .ge 30, 3) := by decide +kernel
theorem d_Mo_nameIn_156 : decode b_Mo_nameIn 156 = .ok (.aload_n 0, 1) := by decide +kernel
theorem d_Mo_nameIn_157 : decode b_Mo_nameIn 157 = .ok (.getfield 28, 3) := by decide +kernel
theorem d_Mo_nameIn_160 : decode b_Mo_nameIn 160 = .ok (.bipush 12, 2) := by decide +kernel
theorem d_Mo_nameIn_162 : decode b_Mo_nameIn 162 = .ok (.aload_n 0, 1) := by decide +kernel
theorem d_Mo_nameIn_163 : decode b_Mo_nameIn 163 = .ok (.getfield 32, 3) := by decide +kernel
theorem d_Mo_nameIn_166 : decode b_Mo_nameIn 166 = .ok (.imul, 1) := by decide +kernel
theorem d_Mo_nameIn_167 : decode b_Mo_nameIn 167 = .ok (.iload 6, 2) := by decide +kernel
theorem d_Mo_nameIn_169 : decode b_Mo_nameIn 169 = .ok (.iadd, 1) := by decide +kernel
theorem d_Mo_nameIn_170 : decode b_Mo_nameIn 170 = .ok (.aload_n 1, 1) := by decide +kernel
theorem d_Mo_nameIn_171 : decode b_Mo_nameIn 171 = .ok (.iload_n 2, 1) := by decide +kernel
theorem d_Mo_nameIn_172 : decode b_Mo_nameIn 172 = .ok (.iload 6, 2) := by decide +kernel
theorem d_Mo_nameIn_174 : decode b_Mo_nameIn 174 = .ok (.iadd, 1) := by decide +kernel
theorem d_Mo_nameIn_175 : decode b_Mo_nameIn 175 = .ok (.baload, 1) := by decide +kernel
theorem d_Mo_nameIn_176 : decode b_Mo_nameIn 176 = .ok (.bastore, 1) := by decide +kernel
theorem d_Mo_nameIn_177 : decode b_Mo_nameIn 177 = .ok (.iinc 6 1, 3) := by decide +kernel
theorem d_Mo_nameIn_180 : decode b_Mo_nameIn 180 = .ok (.goto (-30), 3) := by decide +kernel
theorem d_Mo_nameIn_183 : decode b_Mo_nameIn 183 = .ok (.aload_n 0, 1) := by decide +kernel
theorem d_Mo_nameIn_184 : decode b_Mo_nameIn 184 = .ok (.getfield 40, 3) := by decide +kernel
theorem d_Mo_nameIn_187 : decode b_Mo_nameIn 187 = .ok (.aload_n 0, 1) := by decide +kernel
theorem d_Mo_nameIn_188 : decode b_Mo_nameIn 188 = .ok (.getfield 32, 3) := by decide +kernel
theorem d_Mo_nameIn_191 : decode b_Mo_nameIn 191 = .ok (.iload_n 3, 1) := by decide +kernel
theorem d_Mo_nameIn_192 : decode b_Mo_nameIn 192 = .ok (.i2b, 1) := by decide +kernel
theorem d_Mo_nameIn_193 : decode b_Mo_nameIn 193 = .ok (.bastore, 1) := by decide +kernel
theorem d_Mo_nameIn_194 : decode b_Mo_nameIn 194 = .ok (.aload_n 0, 1) := by decide +kernel
theorem d_Mo_nameIn_195 : decode b_Mo_nameIn 195 = .ok (.getfield 25, 3) := by decide +kernel
theorem d_Mo_nameIn_198 : decode b_Mo_nameIn 198 = .ok (.aload_n 0, 1) := by decide +kernel
theorem d_Mo_nameIn_199 : decode b_Mo_nameIn 199 = .ok (.getfield 32, 3) := by decide +kernel
theorem d_Mo_nameIn_202 : decode b_Mo_nameIn 202 = .ok (.aload_n 0, 1) := by decide +kernel
theorem d_Mo_nameIn_203 : decode b_Mo_nameIn 203 = .ok (.getfield 17, 3) := by decide +kernel
theorem d_Mo_nameIn_206 : decode b_Mo_nameIn 206 = .ok (.iload 5, 2) := by decide +kernel
theorem d_Mo_nameIn_208 : decode b_Mo_nameIn 208 = .ok (.iaload, 1) := by decide +kernel
theorem d_Mo_nameIn_209 : decode b_Mo_nameIn 209 = .ok (.iastore, 1) := by decide +kernel
theorem d_Mo_nameIn_210 : decode b_Mo_nameIn 210 = .ok (.aload_n 0, 1) := by decide +kernel
theorem d_Mo_nameIn_211 : decode b_Mo_nameIn 211 = .ok (.dup, 1) := by decide +kernel
theorem d_Mo_nameIn_212 : decode b_Mo_nameIn 212 = .ok (.getfield 32, 3) := by decide +kernel
theorem d_Mo_nameIn_215 : decode b_Mo_nameIn 215 = .ok (.iconst 1, 1) := by decide +kernel
theorem d_Mo_nameIn_216 : decode b_Mo_nameIn 216 = .ok (.iadd, 1) := by decide +kernel
theorem d_Mo_nameIn_217 : decode b_Mo_nameIn 217 = .ok (.putfield 32, 3) := by decide +kernel
theorem d_Mo_nameIn_220 : decode b_Mo_nameIn 220 = .ok (.aload_n 0, 1) := by decide +kernel
theorem d_Mo_nameIn_221 : decode b_Mo_nameIn 221 = .ok (.getfield 17, 3) := by decide +kernel
theorem d_Mo_nameIn_224 : decode b_Mo_nameIn 224 = .ok (.iload 5, 2) := by decide +kernel
theorem d_Mo_nameIn_226 : decode b_Mo_nameIn 226 = .ok (.aload_n 0, 1) := by decide +kernel
theorem d_Mo_nameIn_227 : decode b_Mo_nameIn 227 = .ok (.getfield 32, 3) := by decide +kernel
theorem d_Mo_nameIn_230 : decode b_Mo_nameIn 230 = .ok (.iastore, 1) := by decide +kernel
theorem d_Mo_nameIn_231 : decode b_Mo_nameIn 231 = .ok (.aload_n 0, 1) := by decide +kernel
theorem d_Mo_nameIn_232 : decode b_Mo_nameIn 232 = .ok (.getfield 32, 3) := by decide +kernel
theorem d_Mo_nameIn_235 : decode b_Mo_nameIn 235 = .ok (.iconst 1, 1) := by decide +kernel
theorem d_Mo_nameIn_236 : decode b_Mo_nameIn 236 = .ok (.isub, 1) := by decide +kernel
theorem d_Mo_nameIn_237 : decode b_Mo_nameIn 237 = .ok (.ireturn, 1) := by decide +kernel
abbrev rm_Mo_nameIn : Room := { frames := 1, cells := 0, slots := 0, locals := 26 }
set_option maxHeartbeats 4000000 in
set_option maxRecDepth 100000 in
/-- nameIn(text, 0, n): one name more at most -/
theorem c_Mo_nameIn (l : Launch) (D : va_G) (g : Nat → ClassId) (h0 : Nat) (tx : Nat) (n : Nat) (fs : List Value) (nb : Nat) (nz : Nat) (nx : Nat) (nf : Nat) (k : Nat) (kr : Nat) (fb : Nat → Int32) (fz : Nat → Int32) (fn : Nat → Int32) (fh : Nat → Int32) (ft : Nat → Int32) (sz : Nat) (glen : fs.length = 131) (g0 : fs[0]? = some (.ref nb)) (g1 : fs[1]? = some (.ref nz)) (g2 : fs[2]? = some (.ref nx)) (g3 : fs[3]? = some (.ref nf)) (g4 : fs[4]? = some (.int (nI k))) (g5 : fs[5]? = some (.ref kr)) (hI : MI k fn fh) (hk : k < 512) (hn : n ≤ 12) : Met l y_Mo_nameIn (mw y_Mo_nameIn b_Mo_nameIn 7 (some .int)) (rm_Mo_nameIn) (PC g D [] [.ref h0, .ref tx, .int (nI 0), .int (nI n)] sz [(h0, .inr (14, fs)), (nb, .inl (g 1, 6144, .inl fb)), (nz, .inl (g 1, 512, .inl fz)), (nx, .inl (g 0, 512, .inl fn)), (nf, .inl (g 0, 4096, .inl fh)), (tx, .inl (g 1, 16, .inl ft))]) (va_Qi (fun (r : Int32) (u : Nat × (Nat → Int32) × (Nat → Int32) × (Nat → Int32) × (Nat → Int32)) => (∃ id : Nat, r = nI id) ∧ k ≤ u.1 ∧ u.1 ≤ k + 1 ∧ MI u.1 u.2.2.2.1 u.2.2.2.2) (QW D (va_A [(h0, .inr (14, fs)), (nb, .inl (g 1, 6144, .inl fb)), (nz, .inl (g 1, 512, .inl fz)), (nx, .inl (g 0, 512, .inl fn)), (nf, .inl (g 0, 4096, .inl fh)), (tx, .inl (g 1, 16, .inl ft))] sz) (fun u : Nat × (Nat → Int32) × (Nat → Int32) × (Nat → Int32) × (Nat → Int32) => [(h0, .inr (14, (fs.set 4 (.int (nI u.1))))), (nb, .inl (g 1, 6144, .inl u.2.1)), (nz, .inl (g 1, 512, .inl u.2.2.1)), (nx, .inl (g 0, 512, .inl u.2.2.2.1)), (nf, .inl (g 0, 4096, .inl u.2.2.2.2)), (tx, .inl (g 1, 16, .inl ft))])) (va_A [(h0, .inr (14, fs)), (nb, .inl (g 1, 6144, .inl fb)), (nz, .inl (g 1, 512, .inl fz)), (nx, .inl (g 0, 512, .inl fn)), (nf, .inl (g 0, 4096, .inl fh)), (tx, .inl (g 1, 16, .inl ft))] sz)) 0 0 (va_A [(h0, .inr (14, fs)), (nb, .inl (g 1, 6144, .inl fb)), (nz, .inl (g 1, 512, .inl fz)), (nx, .inl (g 0, 512, .inl fn)), (nf, .inl (g 0, 4096, .inl fh)), (tx, .inl (g 1, 16, .inl ft))] sz) := by
  refine ofI (by decide +kernel) (Nat.le_of_ble_eq_true rfl) ?_
  intro p e s m args below meth c A Q ls H locs G hsz hP hD hS hl hret
  subst hsz
  have hl : lv_has ls 7 [(0, .ref h0), (1, .ref tx), (2, .int (nI 0)), (3, .int (nI n))] := hl
  refine lv_iload_n G.1 G.2.1 d_Mo_nameIn_0 rfl (lv_at hl 3 rfl) ?_
  refine lv_istore (lv' := [(4, .int (nI n)), (0, .ref h0), (1, .ref tx), (2, .int (nI 0)), (3, .int (nI n))]) G.1 G.2.1 d_Mo_nameIn_1 hl (by decide) rfl (fun ls hl => ?_)
  refine lv_iconst (v := nI 0) G.1 G.2.1 d_Mo_nameIn_3 (by decide) ?_
  refine lv_istore (lv' := [(5, .int (nI 0)), (4, .int (nI n)), (0, .ref h0), (1, .ref tx), (2, .int (nI 0)), (3, .int (nI n))]) G.1 G.2.1 d_Mo_nameIn_4 hl (by decide) rfl (fun ls hl => ?_)
  have L_1 : ∀ (k_L_1 : Nat) (i : Nat) (x : Int32), (n - i) < k_L_1 → (i ≤ n) → ∀ (H : Heap) (locs : List Loc), va_P D CL [(h0, .inr (14, fs)), (nb, .inl (g 1, 6144, .inl fb)), (nz, .inl (g 1, 512, .inl fz)), (nx, .inl (g 0, 512, .inl fn)), (nf, .inl (g 0, 4096, .inl fh)), (tx, .inl (g 1, 16, .inl ft))] H → va_D A [(h0, .inr (14, fs)), (nb, .inl (g 1, 6144, .inl fb)), (nz, .inl (g 1, 512, .inl fz)), (nx, .inl (g 0, 512, .inl fn)), (nf, .inl (g 0, 4096, .inl fh)), (tx, .inl (g 1, 16, .inl ft))] → va_S A s.heap H locs → ∀ ls, lv_has ls 7 [(0, .ref h0), (1, .ref tx), (2, .int (nI 0)), (3, .int (nI n)), (4, .int x), (5, .int (nI i))] → W p l e rm_Mo_nameIn s m args below meth c H locs 0 0 Q (F0 m 6 ls []) := by
    intro k_L_1
    induction k_L_1 with
    | zero => intro i x hk_L_1; exact absurd hk_L_1 (Nat.not_lt_zero _)
    | succ k_L_1 ih_L_1 =>
      intro i x hk_L_1 hi H locs hP hD hS ls hl
      refine lv_iload G.1 G.2.1 d_Mo_nameIn_6 (lv_at hl 5 rfl) ?_
      refine lv_iload_n G.1 G.2.1 d_Mo_nameIn_8 rfl (lv_at hl 3 rfl) ?_
      refine lv_icmp_ge (tgt := 32) G.1 G.2.1 d_Mo_nameIn_9 (by decide) (fun c9 => ?_) (fun c9 => ?_)
      · skip
        have c9 : n ≤ i := (nI_leI (by omega) (by omega)).mp c9
        refine lv_iload G.1 G.2.1 d_Mo_nameIn_32 (lv_at hl 4 rfl) ?_
        refine lv_iload G.1 G.2.1 d_Mo_nameIn_34 (lv_at hl 4 rfl) ?_
        refine lv_bipush (v := nI 13) G.1 G.2.1 d_Mo_nameIn_36 (by decide) ?_
        refine lv_iushr G.1 G.2.1 d_Mo_nameIn_38 rfl ?_
        refine lv_ixor G.1 G.2.1 d_Mo_nameIn_39 ?_
        refine W.eq (g2 := F0 m 40 ls [.int (x ^^^ ((x.toUInt32 >>> ((nI 13).toUInt32 &&& Int32.toUInt32 31)).toInt32))]) rfl ?_
        refine lv_sipush (v := nI 4095) G.1 G.2.1 d_Mo_nameIn_40 (by decide) ?_
        refine lv_iand G.1 G.2.1 d_Mo_nameIn_43 ?_
        obtain ⟨hx, hhx, ehx⟩ := pk_andE ((x ^^^ ((x.toUInt32 >>> ((nI 13).toUInt32 &&& Int32.toUInt32 31)).toInt32))) (m := nI 4095) 12 (by decide)
        refine tpi (w := nI hx) ehx ?_
        refine lv_istore (lv' := [(5, .int (nI hx)), (0, .ref h0), (1, .ref tx), (2, .int (nI 0)), (3, .int (nI n)), (4, .int x)]) G.1 G.2.1 d_Mo_nameIn_44 hl (by decide) rfl (fun ls hl => ?_)
        refine lv_aload_n G.1 G.2.1 d_Mo_nameIn_46 rfl (lv_at hl 1 rfl) ?_
        refine kg (ci := 14) (v := .ref nf) G iMo hP 0 rfl rfl 3 (by decide) q3067 rfl g3 d_Mo_nameIn_47 ?_
        refine lv_iload G.1 G.2.1 d_Mo_nameIn_50 (lv_at hl 0 rfl) ?_
        refine kiald G hP 4 0 rfl rfl (by omega) (by omega) d_Mo_nameIn_52 ?_
        obtain ⟨z, hz, ez⟩ := hI.2 hx (by omega)
        refine tpi (w := nI z) ez ?_
        refine lv_istore (lv' := [(6, .int (nI z)), (5, .int (nI hx)), (0, .ref h0), (1, .ref tx), (2, .int (nI 0)), (3, .int (nI n)), (4, .int x)]) G.1 G.2.1 d_Mo_nameIn_53 hl (by decide) rfl (fun ls hl => ?_)
        have L_2 : ∀ (k_L_2 : Nat) (z9 : Nat), z9 < k_L_2 → (z9 ≤ k) → ∀ (H : Heap) (locs : List Loc), va_P D CL [(h0, .inr (14, fs)), (nb, .inl (g 1, 6144, .inl fb)), (nz, .inl (g 1, 512, .inl fz)), (nx, .inl (g 0, 512, .inl fn)), (nf, .inl (g 0, 4096, .inl fh)), (tx, .inl (g 1, 16, .inl ft))] H → va_D A [(h0, .inr (14, fs)), (nb, .inl (g 1, 6144, .inl fb)), (nz, .inl (g 1, 512, .inl fz)), (nx, .inl (g 0, 512, .inl fn)), (nf, .inl (g 0, 4096, .inl fh)), (tx, .inl (g 1, 16, .inl ft))] → va_S A s.heap H locs → ∀ ls, lv_has ls 7 [(6, .int (nI z9)), (5, .int (nI hx)), (0, .ref h0), (1, .ref tx), (2, .int (nI 0)), (3, .int (nI n)), (4, .int x)] → W p l e rm_Mo_nameIn s m args below meth c H locs 0 0 Q (F0 m 55 ls []) := by
          intro k_L_2
          induction k_L_2 with
          | zero => intro z9 hk_L_2; exact absurd hk_L_2 (Nat.not_lt_zero _)
          | succ k_L_2 ih_L_2 =>
            intro z9 hk_L_2 hz9 H locs hP hD hS ls hl
            refine lv_iload G.1 G.2.1 d_Mo_nameIn_55 (lv_at hl 0 rfl) ?_
            refine lv_if_le (tgt := 93) G.1 G.2.1 d_Mo_nameIn_57 (by decide) (fun c57 => ?_) (fun c57 => ?_)
            · skip
              have c57 : z9 = 0 := (nI_z_le (by omega)).mp c57
              refine lv_aload_n G.1 G.2.1 d_Mo_nameIn_93 rfl (lv_at hl 2 rfl) ?_
              refine lv_aload_n G.1 G.2.1 d_Mo_nameIn_94 rfl (lv_at hl 2 rfl) ?_
              refine kg (ci := 14) (v := .ref nb) G iMo hP 0 rfl rfl 0 (by decide) q3064 rfl g0 d_Mo_nameIn_95 ?_
              refine W.eq (g2 := F0 m 98 ls [.ref nb, .ref h0]) rfl ?_
              refine lv_bipush (v := nI 12) G.1 G.2.1 d_Mo_nameIn_98 (by decide) ?_
              refine lv_aload_n G.1 G.2.1 d_Mo_nameIn_100 rfl (lv_at hl 2 rfl) ?_
              refine kg (ci := 14) (v := .int (nI k)) G iMo hP 0 rfl rfl 4 (by decide) q3068 rfl g4 d_Mo_nameIn_101 ?_
              refine lv_iconst (v := nI 1) G.1 G.2.1 d_Mo_nameIn_104 (by decide) ?_
              refine lv_iadd G.1 G.2.1 d_Mo_nameIn_105 ?_
              refine tpi (w := nI (k + 1)) (nI_add _ _) ?_
              refine lv_imul G.1 G.2.1 d_Mo_nameIn_106 ?_
              refine tpi (w := nI (12 * (k + 1))) (pk_mul _ _) ?_
              refine kEq (wr := [(h0, .inr (14, fs)), (nz, .inl (g 1, 512, .inl fz)), (nx, .inl (g 0, 512, .inl fn)), (nf, .inl (g 0, 4096, .inl fh)), (tx, .inl (g 1, 16, .inl ft))]) G (kS (As := [.ref nb, .int (nI (12 * (k + 1)))]) (rest := [.ref h0]) G hP hD hS [1] rfl rfl (c_Mo_roomy l D g nb (12 * (k + 1)) 6144 fb H.size (by omega) (by decide)) w_Mo_roomy q2591 rfl rfl ⟨Nat.le_of_ble_eq_true rfl, Nat.le_of_ble_eq_true rfl⟩ (fun _ h => absurd h List.not_mem_nil) hl.1 rfl (Nat.le_of_ble_eq_true rfl) rfl ⟨Nat.le_of_ble_eq_true rfl, (Nat.le_of_ble_eq_true rfl)⟩ d_Mo_nameIn_107) hP hD hS [1] [0, 2, 3, 4, 5] rfl rfl rfl rfl (fun r_3 u_4 H locs hw hP hD hS hzH => ?_)
              have hw : r_3 = some nb := hw
              have hP : va_P D CL [(h0, .inr (14, fs)), (nz, .inl (g 1, 512, .inl fz)), (nx, .inl (g 0, 512, .inl fn)), (nf, .inl (g 0, 4096, .inl fh)), (tx, .inl (g 1, 16, .inl ft)), (nb, .inl (g 1, 6144, .inl fb))] H := hP
              have hD : va_D A [(h0, .inr (14, fs)), (nz, .inl (g 1, 512, .inl fz)), (nx, .inl (g 0, 512, .inl fn)), (nf, .inl (g 0, 4096, .inl fh)), (tx, .inl (g 1, 16, .inl ft)), (nb, .inl (g 1, 6144, .inl fb))] := hD
              subst hw
              refine tpst (w := [.ref nb, .ref h0]) rfl ?_
              refine kp (ci := 14) G iMo tMo tMo_ok nMo hP hD hS 0 rfl rfl 0 (by decide) q3064 rfl rfl rfl rfl (by rw [glen]; decide) d_Mo_nameIn_110 (fun H locs hP hD hS => ?_)
              rw [lset_same g0] at hP hD
              have hP : va_P D CL [(h0, .inr (14, fs)), (nz, .inl (g 1, 512, .inl fz)), (nx, .inl (g 0, 512, .inl fn)), (nf, .inl (g 0, 4096, .inl fh)), (tx, .inl (g 1, 16, .inl ft)), (nb, .inl (g 1, 6144, .inl fb))] H := hP
              have hD : va_D A [(h0, .inr (14, fs)), (nz, .inl (g 1, 512, .inl fz)), (nx, .inl (g 0, 512, .inl fn)), (nf, .inl (g 0, 4096, .inl fh)), (tx, .inl (g 1, 16, .inl ft)), (nb, .inl (g 1, 6144, .inl fb))] := hD
              refine lv_aload_n G.1 G.2.1 d_Mo_nameIn_113 rfl (lv_at hl 2 rfl) ?_
              refine lv_aload_n G.1 G.2.1 d_Mo_nameIn_114 rfl (lv_at hl 2 rfl) ?_
              refine kg (ci := 14) (v := .ref nz) G iMo hP 0 rfl rfl 1 (by decide) q3065 rfl g1 d_Mo_nameIn_115 ?_
              refine lv_aload_n G.1 G.2.1 d_Mo_nameIn_118 rfl (lv_at hl 2 rfl) ?_
              refine W.eq (g2 := F0 m 119 ls [.ref h0, .ref nz, .ref h0]) rfl ?_
              refine kg (ci := 14) (v := .int (nI k)) G iMo hP 0 rfl rfl 4 (by decide) q3068 rfl g4 d_Mo_nameIn_119 ?_
              refine lv_iconst (v := nI 1) G.1 G.2.1 d_Mo_nameIn_122 (by decide) ?_
              refine lv_iadd G.1 G.2.1 d_Mo_nameIn_123 ?_
              refine tpi (w := nI (k + 1)) (nI_add _ _) ?_
              refine kEq (wr := [(h0, .inr (14, fs)), (nx, .inl (g 0, 512, .inl fn)), (nf, .inl (g 0, 4096, .inl fh)), (tx, .inl (g 1, 16, .inl ft)), (nb, .inl (g 1, 6144, .inl fb))]) G (kS (As := [.ref nz, .int (nI (k + 1))]) (rest := [.ref h0]) G hP hD hS [1] rfl rfl (c_Mo_roomy l D g nz (k + 1) 512 fz H.size (by omega) (by decide)) w_Mo_roomy q2591 rfl rfl ⟨Nat.le_of_ble_eq_true rfl, Nat.le_of_ble_eq_true rfl⟩ (fun _ h => absurd h List.not_mem_nil) hl.1 rfl (Nat.le_of_ble_eq_true rfl) rfl ⟨Nat.le_of_ble_eq_true rfl, (Nat.le_of_ble_eq_true rfl)⟩ d_Mo_nameIn_124) hP hD hS [1] [0, 2, 3, 4, 5] rfl rfl rfl rfl (fun r_5 u_6 H locs hw hP hD hS hzH => ?_)
              have hw : r_5 = some nz := hw
              have hP : va_P D CL [(h0, .inr (14, fs)), (nx, .inl (g 0, 512, .inl fn)), (nf, .inl (g 0, 4096, .inl fh)), (tx, .inl (g 1, 16, .inl ft)), (nb, .inl (g 1, 6144, .inl fb)), (nz, .inl (g 1, 512, .inl fz))] H := hP
              have hD : va_D A [(h0, .inr (14, fs)), (nx, .inl (g 0, 512, .inl fn)), (nf, .inl (g 0, 4096, .inl fh)), (tx, .inl (g 1, 16, .inl ft)), (nb, .inl (g 1, 6144, .inl fb)), (nz, .inl (g 1, 512, .inl fz))] := hD
              subst hw
              refine tpst (w := [.ref nz, .ref h0]) rfl ?_
              refine kp (ci := 14) G iMo tMo tMo_ok nMo hP hD hS 0 rfl rfl 1 (by decide) q3065 rfl rfl rfl rfl (by rw [glen]; decide) d_Mo_nameIn_127 (fun H locs hP hD hS => ?_)
              rw [lset_same g1] at hP hD
              have hP : va_P D CL [(h0, .inr (14, fs)), (nx, .inl (g 0, 512, .inl fn)), (nf, .inl (g 0, 4096, .inl fh)), (tx, .inl (g 1, 16, .inl ft)), (nb, .inl (g 1, 6144, .inl fb)), (nz, .inl (g 1, 512, .inl fz))] H := hP
              have hD : va_D A [(h0, .inr (14, fs)), (nx, .inl (g 0, 512, .inl fn)), (nf, .inl (g 0, 4096, .inl fh)), (tx, .inl (g 1, 16, .inl ft)), (nb, .inl (g 1, 6144, .inl fb)), (nz, .inl (g 1, 512, .inl fz))] := hD
              refine lv_aload_n G.1 G.2.1 d_Mo_nameIn_130 rfl (lv_at hl 2 rfl) ?_
              refine lv_aload_n G.1 G.2.1 d_Mo_nameIn_131 rfl (lv_at hl 2 rfl) ?_
              refine kg (ci := 14) (v := .ref nx) G iMo hP 0 rfl rfl 2 (by decide) q3066 rfl g2 d_Mo_nameIn_132 ?_
              refine lv_aload_n G.1 G.2.1 d_Mo_nameIn_135 rfl (lv_at hl 2 rfl) ?_
              refine kg (ci := 14) (v := .int (nI k)) G iMo hP 0 rfl rfl 4 (by decide) q3068 rfl g4 d_Mo_nameIn_136 ?_
              refine lv_iconst (v := nI 1) G.1 G.2.1 d_Mo_nameIn_139 (by decide) ?_
              refine lv_iadd G.1 G.2.1 d_Mo_nameIn_140 ?_
              refine tpi (w := nI (k + 1)) (nI_add _ _) ?_
              refine W.eq (g2 := F0 m 141 ls [.int (nI (k + 1)), .ref nx, .ref h0]) rfl ?_
              refine kEq (wr := [(h0, .inr (14, fs)), (nf, .inl (g 0, 4096, .inl fh)), (tx, .inl (g 1, 16, .inl ft)), (nb, .inl (g 1, 6144, .inl fb)), (nz, .inl (g 1, 512, .inl fz))]) G (kS (As := [.ref nx, .int (nI (k + 1))]) (rest := [.ref h0]) G hP hD hS [1] rfl rfl (c_Mo_room l D g nx (k + 1) 512 fn H.size (by omega) (by decide)) w_Mo_room q2596 rfl rfl ⟨Nat.le_of_ble_eq_true rfl, Nat.le_of_ble_eq_true rfl⟩ (fun _ h => absurd h List.not_mem_nil) hl.1 rfl (Nat.le_of_ble_eq_true rfl) rfl ⟨Nat.le_of_ble_eq_true rfl, (Nat.le_of_ble_eq_true rfl)⟩ d_Mo_nameIn_141) hP hD hS [1] [0, 2, 3, 4, 5] rfl rfl rfl rfl (fun r_7 u_8 H locs hw hP hD hS hzH => ?_)
              have hw : r_7 = some nx := hw
              have hP : va_P D CL [(h0, .inr (14, fs)), (nf, .inl (g 0, 4096, .inl fh)), (tx, .inl (g 1, 16, .inl ft)), (nb, .inl (g 1, 6144, .inl fb)), (nz, .inl (g 1, 512, .inl fz)), (nx, .inl (g 0, 512, .inl fn))] H := hP
              have hD : va_D A [(h0, .inr (14, fs)), (nf, .inl (g 0, 4096, .inl fh)), (tx, .inl (g 1, 16, .inl ft)), (nb, .inl (g 1, 6144, .inl fb)), (nz, .inl (g 1, 512, .inl fz)), (nx, .inl (g 0, 512, .inl fn))] := hD
              subst hw
              refine tpst (w := [.ref nx, .ref h0]) rfl ?_
              refine kp (ci := 14) G iMo tMo tMo_ok nMo hP hD hS 0 rfl rfl 2 (by decide) q3066 rfl rfl rfl rfl (by rw [glen]; decide) d_Mo_nameIn_144 (fun H locs hP hD hS => ?_)
              rw [lset_same g2] at hP hD
              have hP : va_P D CL [(h0, .inr (14, fs)), (nf, .inl (g 0, 4096, .inl fh)), (tx, .inl (g 1, 16, .inl ft)), (nb, .inl (g 1, 6144, .inl fb)), (nz, .inl (g 1, 512, .inl fz)), (nx, .inl (g 0, 512, .inl fn))] H := hP
              have hD : va_D A [(h0, .inr (14, fs)), (nf, .inl (g 0, 4096, .inl fh)), (tx, .inl (g 1, 16, .inl ft)), (nb, .inl (g 1, 6144, .inl fb)), (nz, .inl (g 1, 512, .inl fz)), (nx, .inl (g 0, 512, .inl fn))] := hD
              refine lv_iconst (v := nI 0) G.1 G.2.1 d_Mo_nameIn_147 (by decide) ?_
              refine lv_istore (lv' := [(6, .int (nI 0)), (5, .int (nI hx)), (0, .ref h0), (1, .ref tx), (2, .int (nI 0)), (3, .int (nI n)), (4, .int x)]) G.1 G.2.1 d_Mo_nameIn_148 hl (by decide) rfl (fun ls hl => ?_)
              have L_9 : ∀ (k_L_9 : Nat) (i : Nat) (fb2 : Nat → Int32), (n - i) < k_L_9 → (i ≤ n) → ∀ (H : Heap) (locs : List Loc), va_P D CL [(h0, .inr (14, fs)), (nf, .inl (g 0, 4096, .inl fh)), (tx, .inl (g 1, 16, .inl ft)), (nb, .inl (g 1, 6144, .inl fb2)), (nz, .inl (g 1, 512, .inl fz)), (nx, .inl (g 0, 512, .inl fn))] H → va_D A [(h0, .inr (14, fs)), (nf, .inl (g 0, 4096, .inl fh)), (tx, .inl (g 1, 16, .inl ft)), (nb, .inl (g 1, 6144, .inl fb2)), (nz, .inl (g 1, 512, .inl fz)), (nx, .inl (g 0, 512, .inl fn))] → va_S A s.heap H locs → ∀ ls, lv_has ls 7 [(6, .int (nI i)), (5, .int (nI hx)), (0, .ref h0), (1, .ref tx), (2, .int (nI 0)), (3, .int (nI n)), (4, .int x)] → W p l e rm_Mo_nameIn s m args below meth c H locs 0 0 Q (F0 m 150 ls []) := by
                intro k_L_9
                induction k_L_9 with
                | zero => intro i fb2 hk_L_9; exact absurd hk_L_9 (Nat.not_lt_zero _)
                | succ k_L_9 ih_L_9 =>
                  intro i fb2 hk_L_9 hi H locs hP hD hS ls hl
                  refine lv_iload G.1 G.2.1 d_Mo_nameIn_150 (lv_at hl 0 rfl) ?_
                  refine lv_iload_n G.1 G.2.1 d_Mo_nameIn_152 rfl (lv_at hl 5 rfl) ?_
                  refine lv_icmp_ge (tgt := 183) G.1 G.2.1 d_Mo_nameIn_153 (by decide) (fun c153 => ?_) (fun c153 => ?_)
                  · skip
                    have c153 : n ≤ i := (nI_leI (by omega) (by omega)).mp c153
                    refine lv_aload_n G.1 G.2.1 d_Mo_nameIn_183 rfl (lv_at hl 2 rfl) ?_
                    refine kg (ci := 14) (v := .ref nz) G iMo hP 0 rfl rfl 1 (by decide) q3065 rfl g1 d_Mo_nameIn_184 ?_
                    refine lv_aload_n G.1 G.2.1 d_Mo_nameIn_187 rfl (lv_at hl 2 rfl) ?_
                    refine kg (ci := 14) (v := .int (nI k)) G iMo hP 0 rfl rfl 4 (by decide) q3068 rfl g4 d_Mo_nameIn_188 ?_
                    refine lv_iload_n G.1 G.2.1 d_Mo_nameIn_191 rfl (lv_at hl 5 rfl) ?_
                    refine lv_i2b G.1 G.2.1 d_Mo_nameIn_192 rfl ?_
                    refine W.eq (g2 := F0 m 193 ls [.int ((nI n).toInt8.toInt32), .int (nI k), .ref nz]) rfl ?_
                    refine kbast G hP hD hS 4 1 rfl rfl (by omega) (by omega) d_Mo_nameIn_193 (fun H locs hP hD hS => ?_)
                    have hP : va_P D CL [(h0, .inr (14, fs)), (nf, .inl (g 0, 4096, .inl fh)), (tx, .inl (g 1, 16, .inl ft)), (nb, .inl (g 1, 6144, .inl fb2)), (nz, .inl (g 1, 512, .inl (upd fz k (vp_nar .byte ((nI n).toInt8.toInt32))))), (nx, .inl (g 0, 512, .inl fn))] H := hP
                    have hD : va_D A [(h0, .inr (14, fs)), (nf, .inl (g 0, 4096, .inl fh)), (tx, .inl (g 1, 16, .inl ft)), (nb, .inl (g 1, 6144, .inl fb2)), (nz, .inl (g 1, 512, .inl (upd fz k (vp_nar .byte ((nI n).toInt8.toInt32))))), (nx, .inl (g 0, 512, .inl fn))] := hD
                    refine lv_aload_n G.1 G.2.1 d_Mo_nameIn_194 rfl (lv_at hl 2 rfl) ?_
                    refine kg (ci := 14) (v := .ref nx) G iMo hP 0 rfl rfl 2 (by decide) q3066 rfl g2 d_Mo_nameIn_195 ?_
                    refine lv_aload_n G.1 G.2.1 d_Mo_nameIn_198 rfl (lv_at hl 2 rfl) ?_
                    refine kg (ci := 14) (v := .int (nI k)) G iMo hP 0 rfl rfl 4 (by decide) q3068 rfl g4 d_Mo_nameIn_199 ?_
                    refine lv_aload_n G.1 G.2.1 d_Mo_nameIn_202 rfl (lv_at hl 2 rfl) ?_
                    refine kg (ci := 14) (v := .ref nf) G iMo hP 0 rfl rfl 3 (by decide) q3067 rfl g3 d_Mo_nameIn_203 ?_
                    refine lv_iload G.1 G.2.1 d_Mo_nameIn_206 (lv_at hl 1 rfl) ?_
                    refine kiald G hP 1 0 rfl rfl (by omega) (by omega) d_Mo_nameIn_208 ?_
                    refine tpi (w := nI z) ez ?_
                    refine kiast G hP hD hS 5 0 rfl rfl (by omega) (by omega) d_Mo_nameIn_209 (fun H locs hP hD hS => ?_)
                    have hP : va_P D CL [(h0, .inr (14, fs)), (nf, .inl (g 0, 4096, .inl fh)), (tx, .inl (g 1, 16, .inl ft)), (nb, .inl (g 1, 6144, .inl fb2)), (nz, .inl (g 1, 512, .inl (upd fz k (vp_nar .byte ((nI n).toInt8.toInt32))))), (nx, .inl (g 0, 512, .inl (upd fn k (nI z))))] H := hP
                    have hD : va_D A [(h0, .inr (14, fs)), (nf, .inl (g 0, 4096, .inl fh)), (tx, .inl (g 1, 16, .inl ft)), (nb, .inl (g 1, 6144, .inl fb2)), (nz, .inl (g 1, 512, .inl (upd fz k (vp_nar .byte ((nI n).toInt8.toInt32))))), (nx, .inl (g 0, 512, .inl (upd fn k (nI z))))] := hD
                    refine lv_aload_n G.1 G.2.1 d_Mo_nameIn_210 rfl (lv_at hl 2 rfl) ?_
                    refine lv_dup G.1 G.2.1 d_Mo_nameIn_211 rfl ?_
                    refine W.eq (g2 := F0 m 212 ls [.ref h0, .ref h0]) rfl ?_
                    refine kg (ci := 14) (v := .int (nI k)) G iMo hP 0 rfl rfl 4 (by decide) q3068 rfl g4 d_Mo_nameIn_212 ?_
                    refine lv_iconst (v := nI 1) G.1 G.2.1 d_Mo_nameIn_215 (by decide) ?_
                    refine lv_iadd G.1 G.2.1 d_Mo_nameIn_216 ?_
                    refine tpi (w := nI (k + 1)) (nI_add _ _) ?_
                    refine kp (ci := 14) G iMo tMo tMo_ok nMo hP hD hS 0 rfl rfl 4 (by decide) q3068 rfl rfl rfl rfl (by rw [glen]; decide) d_Mo_nameIn_217 (fun H locs hP hD hS => ?_)
                    have hP : va_P D CL [(h0, .inr (14, (fs.set 4 (.int (nI (k + 1)))))), (nf, .inl (g 0, 4096, .inl fh)), (tx, .inl (g 1, 16, .inl ft)), (nb, .inl (g 1, 6144, .inl fb2)), (nz, .inl (g 1, 512, .inl (upd fz k (vp_nar .byte ((nI n).toInt8.toInt32))))), (nx, .inl (g 0, 512, .inl (upd fn k (nI z))))] H := hP
                    have hD : va_D A [(h0, .inr (14, (fs.set 4 (.int (nI (k + 1)))))), (nf, .inl (g 0, 4096, .inl fh)), (tx, .inl (g 1, 16, .inl ft)), (nb, .inl (g 1, 6144, .inl fb2)), (nz, .inl (g 1, 512, .inl (upd fz k (vp_nar .byte ((nI n).toInt8.toInt32))))), (nx, .inl (g 0, 512, .inl (upd fn k (nI z))))] := hD
                    refine lv_aload_n G.1 G.2.1 d_Mo_nameIn_220 rfl (lv_at hl 2 rfl) ?_
                    refine kg (ci := 14) (v := .ref nf) G iMo hP 0 rfl rfl 3 (by decide) q3067 rfl (lset_ne (by decide) g3) d_Mo_nameIn_221 ?_
                    refine lv_iload G.1 G.2.1 d_Mo_nameIn_224 (lv_at hl 1 rfl) ?_
                    refine lv_aload_n G.1 G.2.1 d_Mo_nameIn_226 rfl (lv_at hl 2 rfl) ?_
                    refine kg (ci := 14) (v := .int (nI (k + 1))) G iMo hP 0 rfl rfl 4 (by decide) q3068 rfl (lset_eq (by rw [glen]; decide)) d_Mo_nameIn_227 ?_
                    refine kiast G hP hD hS 1 0 rfl rfl (by omega) (by omega) d_Mo_nameIn_230 (fun H locs hP hD hS => ?_)
                    have hP : va_P D CL [(h0, .inr (14, (fs.set 4 (.int (nI (k + 1)))))), (nf, .inl (g 0, 4096, .inl (upd fh hx (nI (k + 1))))), (tx, .inl (g 1, 16, .inl ft)), (nb, .inl (g 1, 6144, .inl fb2)), (nz, .inl (g 1, 512, .inl (upd fz k (vp_nar .byte ((nI n).toInt8.toInt32))))), (nx, .inl (g 0, 512, .inl (upd fn k (nI z))))] H := hP
                    have hD : va_D A [(h0, .inr (14, (fs.set 4 (.int (nI (k + 1)))))), (nf, .inl (g 0, 4096, .inl (upd fh hx (nI (k + 1))))), (tx, .inl (g 1, 16, .inl ft)), (nb, .inl (g 1, 6144, .inl fb2)), (nz, .inl (g 1, 512, .inl (upd fz k (vp_nar .byte ((nI n).toInt8.toInt32))))), (nx, .inl (g 0, 512, .inl (upd fn k (nI z))))] := hD
                    refine lv_aload_n G.1 G.2.1 d_Mo_nameIn_231 rfl (lv_at hl 2 rfl) ?_
                    refine kg (ci := 14) (v := .int (nI (k + 1))) G iMo hP 0 rfl rfl 4 (by decide) q3068 rfl (lset_eq (by rw [glen]; decide)) d_Mo_nameIn_232 ?_
                    refine W.eq (g2 := F0 m 235 ls [.int (nI (k + 1))]) rfl ?_
                    refine lv_iconst (v := nI 1) G.1 G.2.1 d_Mo_nameIn_235 (by decide) ?_
                    refine lv_isub G.1 G.2.1 d_Mo_nameIn_236 ?_
                    refine tpi (w := nI k) ((pk_sub (by omega)).trans (congrArg nI (by omega))) ?_
                    refine hret (nI k) (k + 1, fb2, upd fz k (vp_nar .byte ((nI n).toInt8.toInt32)), upd fn k (nI z), upd fh hx (nI (k + 1))) _ _ _ _ _ ls (show (∃ id : Nat, (nI k) = nI id) ∧ k ≤ (k + 1) ∧ (k + 1) ≤ k + 1 ∧ MI (k + 1) (upd fn k (nI z)) (upd fh hx (nI (k + 1))) from ⟨⟨k, rfl⟩, Nat.le_succ _, Nat.le_refl _, hI.add hz ez⟩) (hP.sub [0, 3, 4, 5, 1, 2] rfl) (hD.sub [0, 3, 4, 5, 1, 2] (by decide) rfl) hS (Nat.le_of_ble_eq_true rfl) (Nat.le_of_ble_eq_true rfl) d_Mo_nameIn_237
                  · skip
                    have c153 : ¬ (n ≤ i) := fun h => c153 ((nI_leI (by omega) (by omega)).mpr h)
                    refine lv_aload_n G.1 G.2.1 d_Mo_nameIn_156 rfl (lv_at hl 2 rfl) ?_
                    refine kg (ci := 14) (v := .ref nb) G iMo hP 0 rfl rfl 0 (by decide) q3064 rfl g0 d_Mo_nameIn_157 ?_
                    refine lv_bipush (v := nI 12) G.1 G.2.1 d_Mo_nameIn_160 (by decide) ?_
                    refine lv_aload_n G.1 G.2.1 d_Mo_nameIn_162 rfl (lv_at hl 2 rfl) ?_
                    refine kg (ci := 14) (v := .int (nI k)) G iMo hP 0 rfl rfl 4 (by decide) q3068 rfl g4 d_Mo_nameIn_163 ?_
                    refine lv_imul G.1 G.2.1 d_Mo_nameIn_166 ?_
                    refine tpi (w := nI (12 * k)) (pk_mul _ _) ?_
                    refine W.eq (g2 := F0 m 167 ls [.int (nI (12 * k)), .ref nb]) rfl ?_
                    refine lv_iload G.1 G.2.1 d_Mo_nameIn_167 (lv_at hl 0 rfl) ?_
                    refine lv_iadd G.1 G.2.1 d_Mo_nameIn_169 ?_
                    refine tpi (w := nI (12 * k + i)) (nI_add _ _) ?_
                    refine lv_aload_n G.1 G.2.1 d_Mo_nameIn_170 rfl (lv_at hl 3 rfl) ?_
                    refine lv_iload_n G.1 G.2.1 d_Mo_nameIn_171 rfl (lv_at hl 4 rfl) ?_
                    refine lv_iload G.1 G.2.1 d_Mo_nameIn_172 (lv_at hl 0 rfl) ?_
                    refine lv_iadd G.1 G.2.1 d_Mo_nameIn_174 ?_
                    refine tpi (w := nI (0 + i)) (nI_add _ _) ?_
                    refine kbald G hP 2 1 rfl rfl (by omega) (by omega) d_Mo_nameIn_175 ?_
                    refine kbast G hP hD hS 3 1 rfl rfl (by omega) (by omega) d_Mo_nameIn_176 (fun H locs hP hD hS => ?_)
                    have hP : va_P D CL [(h0, .inr (14, fs)), (nf, .inl (g 0, 4096, .inl fh)), (tx, .inl (g 1, 16, .inl ft)), (nb, .inl (g 1, 6144, .inl (upd fb2 (12 * k + i) (vp_nar .byte (ft (0 + i)))))), (nz, .inl (g 1, 512, .inl fz)), (nx, .inl (g 0, 512, .inl fn))] H := hP
                    have hD : va_D A [(h0, .inr (14, fs)), (nf, .inl (g 0, 4096, .inl fh)), (tx, .inl (g 1, 16, .inl ft)), (nb, .inl (g 1, 6144, .inl (upd fb2 (12 * k + i) (vp_nar .byte (ft (0 + i)))))), (nz, .inl (g 1, 512, .inl fz)), (nx, .inl (g 0, 512, .inl fn))] := hD
                    refine lv_iinc (v := nI (i + 1)) (lv' := [(6, .int (nI (i + 1))), (5, .int (nI hx)), (0, .ref h0), (1, .ref tx), (2, .int (nI 0)), (3, .int (nI n)), (4, .int x)]) G.1 G.2.1 d_Mo_nameIn_177 hl (k := 0) rfl (show (nI i) + Int32.ofInt 1 = nI (i + 1) from nI_1 _) (by decide) rfl (fun ls hl => ?_)
                    refine lv_goto (tgt := 150) G.1 G.2.1 d_Mo_nameIn_180 (by decide) ?_
                    exact ih_L_9 (i + 1) (upd fb2 (12 * k + i) (vp_nar .byte (ft (0 + i)))) (by omega) (by omega) _ _ (hP.sub [0, 1, 2, 3, 4, 5] rfl) (hD.sub [0, 1, 2, 3, 4, 5] (by decide) rfl) hS ls (lv_sub hl [0, 1, 2, 3, 4, 5, 6] rfl)
              exact L_9 (_ + 1) 0 fb (Nat.lt_succ_self _) (Nat.zero_le _) _ _ (hP.sub [0, 1, 2, 3, 4, 5] rfl) (hD.sub [0, 1, 2, 3, 4, 5] (by decide) rfl) hS ls (lv_sub hl [0, 1, 2, 3, 4, 5, 6] rfl)
            · skip
              have c57 : ¬ (z9 = 0) := fun h => c57 ((nI_z_le (by omega)).mpr h)
              obtain ⟨w, rfl⟩ : ∃ w, z9 = w + 1 := ⟨z9 - 1, by omega⟩
              have hl : lv_has ls 7 [(6, .int (nI (w + 1))), (5, .int (nI hx)), (0, .ref h0), (1, .ref tx), (2, .int (nI 0)), (3, .int (nI n)), (4, .int x)] := hl
              refine lv_aload_n G.1 G.2.1 d_Mo_nameIn_60 rfl (lv_at hl 2 rfl) ?_
              refine lv_iload G.1 G.2.1 d_Mo_nameIn_61 (lv_at hl 0 rfl) ?_
              refine lv_iconst (v := nI 1) G.1 G.2.1 d_Mo_nameIn_63 (by decide) ?_
              refine W.eq (g2 := F0 m 64 ls [.int (nI 1), .int (nI (w + 1)), .ref h0]) rfl ?_
              refine lv_isub G.1 G.2.1 d_Mo_nameIn_64 ?_
              refine tpi (w := nI w) ((pk_sub (by omega)).trans (congrArg nI (by omega))) ?_
              refine lv_aload_n G.1 G.2.1 d_Mo_nameIn_65 rfl (lv_at hl 3 rfl) ?_
              refine lv_iload_n G.1 G.2.1 d_Mo_nameIn_66 rfl (lv_at hl 4 rfl) ?_
              refine lv_iload_n G.1 G.2.1 d_Mo_nameIn_67 rfl (lv_at hl 5 rfl) ?_
              refine kEi (wr := []) G (kV (As := [.int (nI w), .ref tx, .int (nI 0), .int (nI n)]) (rest := []) G hP hD hS [0, 1, 2, 3, 4, 5] rfl rfl (c_Mo_isName l D g h0 w tx n fs nb nz nx nf k kr fb fz fn fh ft H.size glen g0 g1 g2 g3 g4 g5 (by omega) hn) w_Mo_isName q2587 rfl rfl ⟨Nat.le_of_ble_eq_true rfl, Nat.le_of_ble_eq_true rfl⟩ (fun _ h => absurd h List.not_mem_nil) 0 (ci := 14) rfl rfl rfl hl.1 rfl (Nat.le_of_ble_eq_true rfl) rfl ⟨Nat.le_of_ble_eq_true rfl, (Nat.le_of_ble_eq_true rfl)⟩ d_Mo_nameIn_68) hP hD hS [0, 1, 2, 3, 4, 5] [] rfl rfl rfl rfl (fun r_10 u_11 H locs hw hP hD hS hzH => ?_)
              have hw : r_10 = 0 ∨ r_10 = 1 := hw
              have hP : va_P D CL [(h0, .inr (14, fs)), (nb, .inl (g 1, 6144, .inl fb)), (nz, .inl (g 1, 512, .inl fz)), (nx, .inl (g 0, 512, .inl fn)), (nf, .inl (g 0, 4096, .inl fh)), (tx, .inl (g 1, 16, .inl ft))] H := hP
              have hD : va_D A [(h0, .inr (14, fs)), (nb, .inl (g 1, 6144, .inl fb)), (nz, .inl (g 1, 512, .inl fz)), (nx, .inl (g 0, 512, .inl fn)), (nf, .inl (g 0, 4096, .inl fh)), (tx, .inl (g 1, 16, .inl ft))] := hD
              refine lv_if_eq (tgt := 79) G.1 G.2.1 d_Mo_nameIn_71 (by decide) (fun c71 => ?_) (fun c71 => ?_)
              · skip
                refine lv_aload_n G.1 G.2.1 d_Mo_nameIn_79 rfl (lv_at hl 2 rfl) ?_
                refine kg (ci := 14) (v := .ref nx) G iMo hP 0 rfl rfl 2 (by decide) q3066 rfl g2 d_Mo_nameIn_80 ?_
                refine lv_iload G.1 G.2.1 d_Mo_nameIn_83 (lv_at hl 0 rfl) ?_
                refine lv_iconst (v := nI 1) G.1 G.2.1 d_Mo_nameIn_85 (by decide) ?_
                refine lv_isub G.1 G.2.1 d_Mo_nameIn_86 ?_
                refine tpi (w := nI w) ((pk_sub (by omega)).trans (congrArg nI (by omega))) ?_
                refine kiald G hP 3 0 rfl rfl (by omega) (by omega) d_Mo_nameIn_87 ?_
                obtain ⟨z1, hz1, ez1⟩ := hI.1 w (by omega)
                refine tpi (w := nI z1) ez1 ?_
                refine W.eq (g2 := F0 m 88 ls [.int (nI z1)]) rfl ?_
                refine lv_istore (lv' := [(6, .int (nI z1)), (5, .int (nI hx)), (0, .ref h0), (1, .ref tx), (2, .int (nI 0)), (3, .int (nI n)), (4, .int x)]) G.1 G.2.1 d_Mo_nameIn_88 hl (by decide) rfl (fun ls hl => ?_)
                refine lv_goto (tgt := 55) G.1 G.2.1 d_Mo_nameIn_90 (by decide) ?_
                exact ih_L_2 z1 (by omega) (by omega) _ _ (hP.sub [0, 1, 2, 3, 4, 5] rfl) (hD.sub [0, 1, 2, 3, 4, 5] (by decide) rfl) hS ls (lv_sub hl [0, 1, 2, 3, 4, 5, 6] rfl)
              · skip
                refine lv_iload G.1 G.2.1 d_Mo_nameIn_74 (lv_at hl 0 rfl) ?_
                refine lv_iconst (v := nI 1) G.1 G.2.1 d_Mo_nameIn_76 (by decide) ?_
                refine lv_isub G.1 G.2.1 d_Mo_nameIn_77 ?_
                refine tpi (w := nI w) ((pk_sub (by omega)).trans (congrArg nI (by omega))) ?_
                rw [← lset_same g4] at hP hD
                refine hret (nI w) (k, fb, fz, fn, fh) _ _ _ _ _ ls (show (∃ id : Nat, (nI w) = nI id) ∧ k ≤ k ∧ k ≤ k + 1 ∧ MI k fn fh from ⟨⟨w, rfl⟩, Nat.le_refl _, Nat.le_succ _, hI⟩) (hP.sub [0, 1, 2, 3, 4, 5] rfl) (hD.sub [0, 1, 2, 3, 4, 5] (by decide) rfl) hS (Nat.le_of_ble_eq_true rfl) (Nat.le_of_ble_eq_true rfl) d_Mo_nameIn_78
        exact L_2 (_ + 1) z (Nat.lt_succ_self _) hz _ _ (hP.sub [0, 1, 2, 3, 4, 5] rfl) (hD.sub [0, 1, 2, 3, 4, 5] (by decide) rfl) hS ls (lv_sub hl [0, 1, 2, 3, 4, 5, 6] rfl)
      · skip
        have c9 : ¬ (n ≤ i) := fun h => c9 ((nI_leI (by omega) (by omega)).mpr h)
        refine lv_bipush (v := nI 31) G.1 G.2.1 d_Mo_nameIn_12 (by decide) ?_
        refine lv_iload G.1 G.2.1 d_Mo_nameIn_14 (lv_at hl 4 rfl) ?_
        refine lv_imul G.1 G.2.1 d_Mo_nameIn_16 ?_
        refine lv_aload_n G.1 G.2.1 d_Mo_nameIn_17 rfl (lv_at hl 1 rfl) ?_
        refine lv_iload_n G.1 G.2.1 d_Mo_nameIn_18 rfl (lv_at hl 2 rfl) ?_
        refine W.eq (g2 := F0 m 19 ls [.int (nI 0), .ref tx, .int ((nI 31) * x)]) rfl ?_
        refine lv_iload G.1 G.2.1 d_Mo_nameIn_19 (lv_at hl 5 rfl) ?_
        refine lv_iadd G.1 G.2.1 d_Mo_nameIn_21 ?_
        refine tpi (w := nI (0 + i)) (nI_add _ _) ?_
        refine kbald G hP 5 1 rfl rfl (by omega) (by omega) d_Mo_nameIn_22 ?_
        refine lv_iadd G.1 G.2.1 d_Mo_nameIn_23 ?_
        refine lv_istore (lv' := [(4, .int (((nI 31) * x) + (ft (0 + i)))), (0, .ref h0), (1, .ref tx), (2, .int (nI 0)), (3, .int (nI n)), (5, .int (nI i))]) G.1 G.2.1 d_Mo_nameIn_24 hl (by decide) rfl (fun ls hl => ?_)
        refine lv_iinc (v := nI (i + 1)) (lv' := [(5, .int (nI (i + 1))), (4, .int (((nI 31) * x) + (ft (0 + i)))), (0, .ref h0), (1, .ref tx), (2, .int (nI 0)), (3, .int (nI n))]) G.1 G.2.1 d_Mo_nameIn_26 hl (k := 5) rfl (show (nI i) + Int32.ofInt 1 = nI (i + 1) from nI_1 _) (by decide) rfl (fun ls hl => ?_)
        refine lv_goto (tgt := 6) G.1 G.2.1 d_Mo_nameIn_29 (by decide) ?_
        exact ih_L_1 (i + 1) (((nI 31) * x) + (ft (0 + i))) (by omega) (by omega) _ _ (hP.sub [0, 1, 2, 3, 4, 5] rfl) (hD.sub [0, 1, 2, 3, 4, 5] (by decide) rfl) hS ls (lv_sub hl [2, 3, 4, 5, 1, 0] rfl)
  exact L_1 (_ + 1) 0 (nI n) (Nat.lt_succ_self _) (Nat.zero_le _) _ _ (hP.sub [0, 1, 2, 3, 4, 5] rfl) (hD.sub [0, 1, 2, 3, 4, 5] (by decide) rfl) hS ls (lv_sub hl [2, 3, 4, 5, 1, 0] rfl)
