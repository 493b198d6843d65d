def y_In_init : MethodName := ⟨"ClassWorks$Ints", "<init>", "(I)V"⟩
abbrev b_In_init : ByteArray := prog_5_method_1_code
theorem q378 : Cond.methodLink "ClassWorks$Ints" 1 Lib.objectInit ∈ lw_ok := lw_okmem (List.mem_of_getElem? (i := 378) (by decide +kernel)) rfl
theorem q361 : Cond.instanceMethod Lib.objectInit ∈ lw_ok := lw_okmem (List.mem_of_getElem? (i := 361) (by decide +kernel)) rfl
theorem q362 : Cond.code Lib.objectInit ⟨#[0xb1]⟩ 1 none ∈ lw_ok := lw_okmem (List.mem_of_getElem? (i := 362) (by decide +kernel)) rfl
theorem q389 : Cond.fieldLink "ClassWorks$Ints" 7 "ClassWorks$Ints" "size" "I" ∈ lw_ok := lw_okmem (List.mem_of_getElem? (i := 389) (by decide +kernel)) rfl
theorem q404 : Cond.arrayClass .int ∈ lw_ok := lw_okmem (List.mem_of_getElem? (i := 404) (by decide +kernel)) rfl
theorem q379 : Cond.fieldLink "ClassWorks$Ints" 13 "ClassWorks$Ints" "row" "[I" ∈ lw_ok := lw_okmem (List.mem_of_getElem? (i := 379) (by decide +kernel)) rfl
theorem d_In_init_0 : decode b_In_init 0 = .ok (.aload_n 0, 1) := by decide +kernel
theorem d_In_init_1 : decode b_In_init 1 = .ok (.invokespecial 1, 3) := by decide +kernel
theorem d_In_init_4 : decode b_In_init 4 = .ok (.aload_n 0, 1) := by decide +kernel
theorem d_In_init_5 : decode b_In_init 5 = .ok (.iconst 0, 1) := by decide +kernel
theorem d_In_init_6 : decode b_In_init 6 = .ok (.putfield 7, 3) := by decide +kernel
theorem d_In_init_9 : decode b_In_init 9 = .ok (.aload_n 0, 1) := by decide +kernel
theorem d_In_init_10 : decode b_In_init 10 = .ok (.iload_n 1, 1) := by decide +kernel
theorem d_In_init_11 : decode b_In_init 11 = .ok (.newarray .int, 2) := by decide +kernel
theorem d_In_init_13 : decode b_In_init 13 = .ok (.putfield 13, 3) := by decide +kernel
theorem d_In_init_16 : decode b_In_init 16 = .ok (.return_, 1) := by decide +kernel
abbrev rm_In_init (n : Nat) : Room := { frames := 1, cells := 1, slots := n, locals := 12 }
set_option maxHeartbeats 4000000 in
set_option maxRecDepth 100000 in
/-- Ints(n): a row of n zeros -/
theorem c_In_init (l : Launch) (D : va_G) (g : Nat → ClassId) (h0 n : Nat) (sz : Nat) (hn : n < 100000) : Met l y_In_init (mw y_In_init b_In_init 2 (none)) (rm_In_init n) (PC g D [] [.ref h0, .int (nI n)] sz [(h0, .inr (3, [.null, .int (nI 0)]))]) (va_Qv (fun u : Nat => True) (QW D (va_A [(h0, .inr (3, [.null, .int (nI 0)]))] sz) (fun u : Nat => [(h0, .inr (3, [.ref u, .int (nI 0)])), (u, .inl (g 0, n, .inl (fun _ => nI 0)))])) (va_A [(h0, .inr (3, [.null, .int (nI 0)]))] sz)) 1 n (va_A [(h0, .inr (3, [.null, .int (nI 0)]))] sz) := by
  refine ofV (by decide +kernel) (Nat.le_of_ble_eq_true rfl) ?_
  intro p e s m args below meth c A Q ls H locs G hsz hP hD hS hl hret
  subst hsz
  have hl : lv_has ls 2 [(0, .ref h0), (1, .int (nI n))] := hl
  refine lv_aload_n G.1 G.2.1 d_In_init_0 rfl (lv_at hl 0 rfl) ?_
  refine kobj G q378 q361 q362 hl.1 d_In_init_1 (Nat.le_of_ble_eq_true rfl) (Nat.le_of_ble_eq_true rfl) ?_
  refine lv_aload_n G.1 G.2.1 d_In_init_4 rfl (lv_at hl 0 rfl) ?_
  refine lv_iconst (v := nI 0) G.1 G.2.1 d_In_init_5 (by decide) ?_
  refine kp (ci := 3) G iIn tIn tIn_ok nIn hP hD hS 0 rfl rfl 1 (by decide) q389 rfl rfl rfl rfl (Nat.le_of_ble_eq_true rfl) d_In_init_6 (fun H locs hP hD hS => ?_)
  have hP : va_P D CL [(h0, .inr (3, [.null, .int (nI 0)]))] H := hP
  have hD : va_D A [(h0, .inr (3, [.null, .int (nI 0)]))] := hD
  refine lv_aload_n G.1 G.2.1 d_In_init_9 rfl (lv_at hl 0 rfl) ?_
  refine lv_iload_n G.1 G.2.1 d_In_init_10 rfl (lv_at hl 1 rfl) ?_
  refine kNew (ty := .int) (N' := n) (a0 := (n, .inl (fun _ => nI 0))) G q404 rfl (fun _ h => h) 0 rfl hP hD hS (fun _ => rfl) (nI_pos (by omega)) (nI_clamp (by omega)) (by show _ * 4 ≤ _; omega) (Nat.le_of_ble_eq_true rfl) (by show _ ≤ n; omega) d_In_init_11 (fun q_1 H hP hD hS => ?_)
  have hP : va_P D CL [(h0, .inr (3, [.null, .int (nI 0)])), (q_1, .inl (g 0, n, .inl (fun _ => nI 0)))] H := hP
  have hD : va_D A [(h0, .inr (3, [.null, .int (nI 0)])), (q_1, .inl (g 0, n, .inl (fun _ => nI 0)))] := hD
  refine W.widen (k := 1) (n := n) (by omega) (by omega) ?_
  refine kp (ci := 3) G iIn tIn tIn_ok nIn hP hD hS 0 rfl rfl 0 (by decide) q379 rfl rfl rfl rfl (Nat.le_of_ble_eq_true rfl) d_In_init_13 (fun H locs hP hD hS => ?_)
  have hP : va_P D CL [(h0, .inr (3, [.ref q_1, .int (nI 0)])), (q_1, .inl (g 0, n, .inl (fun _ => nI 0)))] H := hP
  have hD : va_D A [(h0, .inr (3, [.ref q_1, .int (nI 0)])), (q_1, .inl (g 0, n, .inl (fun _ => nI 0)))] := hD
  refine hret q_1 _ _ _ _ _ ls (show True from trivial) (hP.sub [0, 1] rfl) (hD.sub [0, 1] (by decide) rfl) hS (Nat.le_of_ble_eq_true rfl) (by show _ ≤ n; omega) d_In_init_16
def y_In_add : MethodName := ⟨"ClassWorks$Ints", "add", "(I)I"⟩
abbrev b_In_add : ByteArray := prog_5_method_2_code
theorem d_In_add_0 : decode b_In_add 0 = .ok (.aload_n 0, 1) := by decide +kernel
theorem d_In_add_1 : decode b_In_add 1 = .ok (.getfield 7, 3) := by decide +kernel
theorem d_In_add_4 : decode b_In_add 4 = .ok (.aload_n 0, 1) := by decide +kernel
theorem d_In_add_5 : decode b_In_add 5 = .ok (.getfield 13, 3) := by decide +kernel
theorem d_In_add_8 : decode b_In_add 8 = .ok (.arraylength, 1) := by decide +kernel
theorem d_In_add_9 : decode b_In_add 9 = .ok (.if_icmp .ne 23, 3) := by decide +kernel
theorem d_In_add_32 : decode b_In_add 32 = .ok (.aload_n 0, 1) := by decide +kernel
theorem d_In_add_33 : decode b_In_add 33 = .ok (.getfield 13, 3) := by decide +kernel
theorem d_In_add_36 : decode b_In_add 36 = .ok (.aload_n 0, 1) := by decide +kernel
theorem d_In_add_37 : decode b_In_add 37 = .ok (.getfield 7, 3) := by decide +kernel
theorem d_In_add_40 : decode b_In_add 40 = .ok (.iload_n 1, 1) := by decide +kernel
theorem d_In_add_41 : decode b_In_add 41 = .ok (.iastore, 1) := by decide +kernel
theorem d_In_add_42 : decode b_In_add 42 = .ok (.aload_n 0, 1) := by decide +kernel
theorem d_In_add_43 : decode b_In_add 43 = .ok (.dup, 1) := by decide +kernel
theorem d_In_add_44 : decode b_In_add 44 = .ok (.getfield 7, 3) := by decide +kernel
theorem d_In_add_47 : decode b_In_add 47 = .ok (.iconst 1, 1) := by decide +kernel
theorem d_In_add_48 : decode b_In_add 48 = .ok (.iadd, 1) := by decide +kernel
theorem d_In_add_49 : decode b_In_add 49 = .ok (.putfield 7, 3) := by decide +kernel
theorem d_In_add_52 : decode b_In_add 52 = .ok (.aload_n 0, 1) := by decide +kernel
theorem d_In_add_53 : decode b_In_add 53 = .ok (.getfield 7, 3) := by decide +kernel
theorem d_In_add_56 : decode b_In_add 56 = .ok (.iconst 1, 1) := by decide +kernel
theorem d_In_add_57 : decode b_In_add 57 = .ok (.isub, 1) := by decide +kernel
theorem d_In_add_58 : decode b_In_add 58 = .ok (.ireturn, 1) := by decide +kernel
abbrev rm_In_add : Room := { frames := 0, cells := 0, slots := 0, locals := 0 }
set_option maxHeartbeats 4000000 in
set_option maxRecDepth 100000 in
/-- add(v): where there is room -/
theorem c_In_add (l : Launch) (D : va_G) (g : Nat → ClassId) (h0 q n k : Nat) (f : Nat → Int32) (v : Int32) (sz : Nat) (hk : k < n) (hn : n < 2 ^ 30) : Met l y_In_add (mw y_In_add b_In_add 2 (some .int)) (rm_In_add) (PC g D [] [.ref h0, .int v] sz [(h0, .inr (3, [.ref q, .int (nI k)])), (q, .inl (g 0, n, .inl f))]) (va_Qi (fun (r : Int32) (u : Unit) => r = nI k) (QW D (va_A [(h0, .inr (3, [.ref q, .int (nI k)])), (q, .inl (g 0, n, .inl f))] sz) (fun u : Unit => [(h0, .inr (3, [.ref q, .int (nI (k + 1))])), (q, .inl (g 0, n, .inl (upd f k v)))])) (va_A [(h0, .inr (3, [.ref q, .int (nI k)])), (q, .inl (g 0, n, .inl f))] sz)) 0 0 (va_A [(h0, .inr (3, [.ref q, .int (nI k)])), (q, .inl (g 0, n, .inl f))] sz) := by
  refine ofI (by decide +kernel) (Nat.le_of_ble_eq_true rfl) ?_
  intro p e s m args below meth c A Q ls H locs G hsz hP hD hS hl hret
  subst hsz
  have hl : lv_has ls 2 [(0, .ref h0), (1, .int v)] := hl
  refine lv_aload_n G.1 G.2.1 d_In_add_0 rfl (lv_at hl 0 rfl) ?_
  refine kg (ci := 3) G iIn hP 0 rfl rfl 1 (by decide) q389 rfl rfl d_In_add_1 ?_
  refine lv_aload_n G.1 G.2.1 d_In_add_4 rfl (lv_at hl 0 rfl) ?_
  refine kg (ci := 3) G iIn hP 0 rfl rfl 0 (by decide) q379 rfl rfl d_In_add_5 ?_
  refine kalen G hP 1 0 rfl rfl d_In_add_8 ?_
  refine tpi (w := nI n) rfl ?_
  refine lv_icmp_ne (tgt := 32) G.1 G.2.1 d_In_add_9 (by decide) (fun c9 => ?_) (fun c9 => absurd c9 (fun h => absurd ((nI_eq (by omega) (by omega)).mp h) (by omega)))
  have c9 : ¬ (k = n) := fun h => c9 ((nI_eq (by omega) (by omega)).mpr h)
  refine lv_aload_n G.1 G.2.1 d_In_add_32 rfl (lv_at hl 0 rfl) ?_
  refine kg (ci := 3) G iIn hP 0 rfl rfl 0 (by decide) q379 rfl rfl d_In_add_33 ?_
  refine lv_aload_n G.1 G.2.1 d_In_add_36 rfl (lv_at hl 0 rfl) ?_
  refine kg (ci := 3) G iIn hP 0 rfl rfl 1 (by decide) q389 rfl rfl d_In_add_37 ?_
  refine lv_iload_n G.1 G.2.1 d_In_add_40 rfl (lv_at hl 1 rfl) ?_
  refine W.eq (g2 := F0 m 41 ls [.int v, .int (nI k), .ref q]) rfl ?_
  refine kiast G hP hD hS 1 0 rfl rfl (by omega) (by omega) d_In_add_41 (fun H locs hP hD hS => ?_)
  have hP : va_P D CL [(h0, .inr (3, [.ref q, .int (nI k)])), (q, .inl (g 0, n, .inl (upd f k v)))] H := hP
  have hD : va_D A [(h0, .inr (3, [.ref q, .int (nI k)])), (q, .inl (g 0, n, .inl (upd f k v)))] := hD
  refine lv_aload_n G.1 G.2.1 d_In_add_42 rfl (lv_at hl 0 rfl) ?_
  refine lv_dup G.1 G.2.1 d_In_add_43 rfl ?_
  refine kg (ci := 3) G iIn hP 0 rfl rfl 1 (by decide) q389 rfl rfl d_In_add_44 ?_
  refine lv_iconst (v := nI 1) G.1 G.2.1 d_In_add_47 (by decide) ?_
  refine lv_iadd G.1 G.2.1 d_In_add_48 ?_
  refine tpi (w := nI (k + 1)) (nI_add _ _) ?_
  refine kp (ci := 3) G iIn tIn tIn_ok nIn hP hD hS 0 rfl rfl 1 (by decide) q389 rfl rfl rfl rfl (Nat.le_of_ble_eq_true rfl) d_In_add_49 (fun H locs hP hD hS => ?_)
  have hP : va_P D CL [(h0, .inr (3, [.ref q, .int (nI (k + 1))])), (q, .inl (g 0, n, .inl (upd f k v)))] H := hP
  have hD : va_D A [(h0, .inr (3, [.ref q, .int (nI (k + 1))])), (q, .inl (g 0, n, .inl (upd f k v)))] := hD
  refine lv_aload_n G.1 G.2.1 d_In_add_52 rfl (lv_at hl 0 rfl) ?_
  refine kg (ci := 3) G iIn hP 0 rfl rfl 1 (by decide) q389 rfl rfl d_In_add_53 ?_
  refine lv_iconst (v := nI 1) G.1 G.2.1 d_In_add_56 (by decide) ?_
  refine lv_isub G.1 G.2.1 d_In_add_57 ?_
  refine tpi (w := nI k) ((pk_sub (by omega)).trans (congrArg nI (by omega))) ?_
  refine hret (nI k) () _ _ _ _ _ ls rfl (hP.sub [0, 1] rfl) (hD.sub [0, 1] (by decide) rfl) hS (Nat.le_of_ble_eq_true rfl) (Nat.le_of_ble_eq_true rfl) d_In_add_58
def y_In_put : MethodName := ⟨"ClassWorks$Ints", "put", "(II)V"⟩
abbrev b_In_put : ByteArray := prog_5_method_3_code
theorem d_In_put_0 : decode b_In_put 0 = .ok (.iload_n 1, 1) := by decide +kernel
theorem d_In_put_1 : decode b_In_put 1 = .ok (.ifCond .lt 18, 3) := by decide +kernel
theorem d_In_put_4 : decode b_In_put 4 = .ok (.iload_n 1, 1) := by decide +kernel
theorem d_In_put_5 : decode b_In_put 5 = .ok (.aload_n 0, 1) := by decide +kernel
theorem d_In_put_6 : decode b_In_put 6 = .ok (.getfield 7, 3) := by decide +kernel
theorem d_In_put_9 : decode b_In_put 9 = .ok (.if_icmp .ge 10, 3) := by decide +kernel
theorem d_In_put_12 : decode b_In_put 12 = .ok (.aload_n 0, 1) := by decide +kernel
theorem d_In_put_13 : decode b_In_put 13 = .ok (.getfield 13, 3) := by decide +kernel
theorem d_In_put_16 : decode b_In_put 16 = .ok (.iload_n 1, 1) := by decide +kernel
theorem d_In_put_17 : decode b_In_put 17 = .ok (.iload_n 2, 1) := by decide +kernel
theorem d_In_put_18 : decode b_In_put 18 = .ok (.iastore, 1) := by decide +kernel
theorem d_In_put_19 : decode b_In_put 19 = .ok (.return_, 1) := by decide +kernel
abbrev rm_In_put : Room := { frames := 0, cells := 0, slots := 0, locals := 0 }
set_option maxHeartbeats 4000000 in
set_option maxRecDepth 100000 in
/-- put(i, v), i within -/
theorem c_In_put (l : Launch) (D : va_G) (g : Nat → ClassId) (h0 q n k i : Nat) (f : Nat → Int32) (v : Int32) (sz : Nat) (hi : i < k) (hk : k ≤ n) (hn : n < 2 ^ 30) : Met l y_In_put (mw y_In_put b_In_put 3 (none)) (rm_In_put) (PC g D [] [.ref h0, .int (nI i), .int v] sz [(h0, .inr (3, [.ref q, .int (nI k)])), (q, .inl (g 0, n, .inl f))]) (va_Qv (fun u : Unit => True) (QW D (va_A [(h0, .inr (3, [.ref q, .int (nI k)])), (q, .inl (g 0, n, .inl f))] sz) (fun u : Unit => [(h0, .inr (3, [.ref q, .int (nI k)])), (q, .inl (g 0, n, .inl (upd f i v)))])) (va_A [(h0, .inr (3, [.ref q, .int (nI k)])), (q, .inl (g 0, n, .inl f))] sz)) 0 0 (va_A [(h0, .inr (3, [.ref q, .int (nI k)])), (q, .inl (g 0, n, .inl f))] sz) := by
  refine ofV (by decide +kernel) (Nat.le_of_ble_eq_true rfl) ?_
  intro p e s m args below meth c A Q ls H locs G hsz hP hD hS hl hret
  subst hsz
  have hl : lv_has ls 3 [(0, .ref h0), (1, .int (nI i)), (2, .int v)] := hl
  refine lv_iload_n G.1 G.2.1 d_In_put_0 rfl (lv_at hl 1 rfl) ?_
  refine lv_if_lt (tgt := 19) G.1 G.2.1 d_In_put_1 (by decide) (fun c1 => absurd c1 (nI_pos (by omega))) (fun c1 => ?_)
  refine lv_iload_n G.1 G.2.1 d_In_put_4 rfl (lv_at hl 1 rfl) ?_
  refine lv_aload_n G.1 G.2.1 d_In_put_5 rfl (lv_at hl 0 rfl) ?_
  refine kg (ci := 3) G iIn hP 0 rfl rfl 1 (by decide) q389 rfl rfl d_In_put_6 ?_
  refine lv_icmp_ge (tgt := 19) G.1 G.2.1 d_In_put_9 (by decide) (fun c9 => absurd c9 (fun h => absurd ((nI_leI (by omega) (by omega)).mp h) (by omega))) (fun c9 => ?_)
  have c9 : ¬ (k ≤ i) := fun h => c9 ((nI_leI (by omega) (by omega)).mpr h)
  refine lv_aload_n G.1 G.2.1 d_In_put_12 rfl (lv_at hl 0 rfl) ?_
  refine kg (ci := 3) G iIn hP 0 rfl rfl 0 (by decide) q379 rfl rfl d_In_put_13 ?_
  refine lv_iload_n G.1 G.2.1 d_In_put_16 rfl (lv_at hl 1 rfl) ?_
  refine lv_iload_n G.1 G.2.1 d_In_put_17 rfl (lv_at hl 2 rfl) ?_
  refine kiast G hP hD hS 1 0 rfl rfl (by omega) (by omega) d_In_put_18 (fun H locs hP hD hS => ?_)
  have hP : va_P D CL [(h0, .inr (3, [.ref q, .int (nI k)])), (q, .inl (g 0, n, .inl (upd f i v)))] H := hP
  have hD : va_D A [(h0, .inr (3, [.ref q, .int (nI k)])), (q, .inl (g 0, n, .inl (upd f i v)))] := hD
  refine W.eq (g2 := F0 m 19 ls []) rfl ?_
  refine hret () _ _ _ _ _ ls trivial (hP.sub [0, 1] rfl) (hD.sub [0, 1] (by decide) rfl) hS (Nat.le_of_ble_eq_true rfl) (Nat.le_of_ble_eq_true rfl) d_In_put_19
