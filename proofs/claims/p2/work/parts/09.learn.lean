theorem cw_mono (l : List Int32) : ∀ {i j : Nat}, i ≤ j → cw l i ≤ cw l j := by
  intro i j h
  induction h with
  | refl => exact Nat.le_refl _
  | step h ih => exact Nat.le_trans ih (by rw [cw]; omega)
def y_Na_learn : MethodName := ⟨"ClassWorks$Names", "learn", "(Ljava/lang/String;I)V"⟩
abbrev b_Na_learn : ByteArray := prog_7_method_2_code
theorem q416 : Cond.code y_Js_length b_Js_length 1 (some .int) ∈ lw_ok := lw_okmem (List.mem_of_getElem? (i := 416) (by decide +kernel)) rfl
theorem q414 : Cond.instanceMethod y_Js_length ∈ lw_ok := lw_okmem (List.mem_of_getElem? (i := 414) (by decide +kernel)) rfl
theorem q415 : Cond.selects y_Js_length.cls y_Js_length y_Js_length ∈ lw_ok := lw_okmem (List.mem_of_getElem? (i := 415) (by decide +kernel)) rfl
theorem w_Js_length : CWv y_Js_length b_Js_length 1 (some .int) 0 ∧ Cond.instanceMethod y_Js_length ∈ lw_ok ∧ Cond.selects y_Js_length.cls y_Js_length y_Js_length ∈ lw_ok := ⟨⟨q416, q333, by decide +kernel, by decide +kernel, by decide +kernel⟩, q414, q415⟩
theorem q413 : Cond.methodLink "ClassWorks$Names" 83 y_Js_length ∈ lw_ok := lw_okmem (List.mem_of_getElem? (i := 413) (by decide +kernel)) rfl
theorem q512 : Cond.fieldLink "ClassWorks$Names" 42 "ClassWorks$Names" "word" "[B" ∈ lw_ok := lw_okmem (List.mem_of_getElem? (i := 512) (by decide +kernel)) rfl
theorem q464 : Cond.code y_Na_number b_Na_number 6 (some .int) ∈ lw_ok := lw_okmem (List.mem_of_getElem? (i := 464) (by decide +kernel)) rfl
theorem q462 : Cond.instanceMethod y_Na_number ∈ lw_ok := lw_okmem (List.mem_of_getElem? (i := 462) (by decide +kernel)) rfl
theorem q463 : Cond.selects y_Na_number.cls y_Na_number y_Na_number ∈ lw_ok := lw_okmem (List.mem_of_getElem? (i := 463) (by decide +kernel)) rfl
theorem w_Na_number : CWv y_Na_number b_Na_number 6 (some .int) 3 ∧ Cond.instanceMethod y_Na_number ∈ lw_ok ∧ Cond.selects y_Na_number.cls y_Na_number y_Na_number ∈ lw_ok := ⟨⟨q464, q330, by decide +kernel, by decide +kernel, by decide +kernel⟩, q462, q463⟩
theorem q461 : Cond.methodLink "ClassWorks$Names" 93 y_Na_number ∈ lw_ok := lw_okmem (List.mem_of_getElem? (i := 461) (by decide +kernel)) rfl
theorem q511 : Cond.fieldLink "ClassWorks$Names" 39 "ClassWorks$Names" "operationOf" "[I" ∈ lw_ok := lw_okmem (List.mem_of_getElem? (i := 511) (by decide +kernel)) rfl
theorem q426 : Cond.code y_Js_charAt b_Js_charAt 2 (some (.char)) ∈ lw_ok := lw_okmem (List.mem_of_getElem? (i := 426) (by decide +kernel)) rfl
theorem q424 : Cond.instanceMethod y_Js_charAt ∈ lw_ok := lw_okmem (List.mem_of_getElem? (i := 424) (by decide +kernel)) rfl
theorem q425 : Cond.selects y_Js_charAt.cls y_Js_charAt y_Js_charAt ∈ lw_ok := lw_okmem (List.mem_of_getElem? (i := 425) (by decide +kernel)) rfl
theorem w_Js_charAt : CWv y_Js_charAt b_Js_charAt 2 (some (.char)) 1 ∧ Cond.instanceMethod y_Js_charAt ∈ lw_ok ∧ Cond.selects y_Js_charAt.cls y_Js_charAt y_Js_charAt ∈ lw_ok := ⟨⟨q426, q333, by decide +kernel, by decide +kernel, by decide +kernel⟩, q424, q425⟩
theorem q423 : Cond.methodLink "ClassWorks$Names" 89 y_Js_charAt ∈ lw_ok := lw_okmem (List.mem_of_getElem? (i := 423) (by decide +kernel)) rfl
theorem d_Na_learn_0 : decode b_Na_learn 0 = .ok (.iload_n 2, 1) := by decide +kernel
theorem d_Na_learn_1 : decode b_Na_learn 1 = .ok (.istore_n 3, 1) := by decide +kernel
theorem d_Na_learn_2 : decode b_Na_learn 2 = .ok (.iconst 0, 1) := by decide +kernel
theorem d_Na_learn_3 : decode b_Na_learn 3 = .ok (.istore 4, 2) := by decide +kernel
theorem d_Na_learn_5 : decode b_Na_learn 5 = .ok (.iconst 0, 1) := by decide +kernel
theorem d_Na_learn_6 : decode b_Na_learn 6 = .ok (.istore 5, 2) := by decide +kernel
theorem d_Na_learn_8 : decode b_Na_learn 8 = .ok (.iload 5, 2) := by decide +kernel
theorem d_Na_learn_10 : decode b_Na_learn 10 = .ok (.aload_n 1, 1) := by decide +kernel
theorem d_Na_learn_11 : decode b_Na_learn 11 = .ok (.invokevirtual 83, 3) := by decide +kernel
theorem d_Na_learn_14 : decode b_Na_learn 14 = .ok (.if_icmp .gt 88, 3) := by decide +kernel
theorem d_Na_learn_17 : decode b_Na_learn 17 = .ok (.iload 5, 2) := by decide +kernel
theorem d_Na_learn_19 : decode b_Na_learn 19 = .ok (.aload_n 1, 1) := by decide +kernel
theorem d_Na_learn_20 : decode b_Na_learn 20 = .ok (.invokevirtual 83, 3) := by decide +kernel
theorem d_Na_learn_23 : decode b_Na_learn 23 = .ok (.if_icmp .ge 34, 3) := by decide +kernel
theorem d_Na_learn_26 : decode b_Na_learn 26 = .ok (.aload_n 1, 1) := by decide +kernel
theorem d_Na_learn_27 : decode b_Na_learn 27 = .ok (.iload 5, 2) := by decide +kernel
theorem d_Na_learn_29 : decode b_Na_learn 29 = .ok (.invokevirtual 89, 3) := by decide +kernel
theorem d_Na_learn_32 : decode b_Na_learn 32 = .ok (.bipush 32, 2) := by decide +kernel
theorem d_Na_learn_34 : decode b_Na_learn 34 = .ok (.if_icmp .eq 23, 3) := by decide +kernel
theorem d_Na_learn_37 : decode b_Na_learn 37 = .ok (.aload_n 0, 1) := by decide +kernel
theorem d_Na_learn_38 : decode b_Na_learn 38 = .ok (.getfield 42, 3) := by decide +kernel
theorem d_Na_learn_41 : decode b_Na_learn 41 = .ok (.iload 4, 2) := by decide +kernel
theorem d_Na_learn_43 : decode b_Na_learn 43 = .ok (.aload_n 1, 1) := by decide +kernel
theorem d_Na_learn_44 : decode b_Na_learn 44 = .ok (.iload 5, 2) := by decide +kernel
theorem d_Na_learn_46 : decode b_Na_learn 46 = .ok (.invokevirtual 89, 3) := by decide +kernel
theorem d_Na_learn_49 : decode b_Na_learn 49 = .ok (.i2b, 1) := by decide +kernel
theorem d_Na_learn_50 : decode b_Na_learn 50 = .ok (.bastore, 1) := by decide +kernel
theorem d_Na_learn_51 : decode b_Na_learn 51 = .ok (.iinc 4 1, 3) := by decide +kernel
theorem d_Na_learn_54 : decode b_Na_learn 54 = .ok (.goto 42, 3) := by decide +kernel
theorem d_Na_learn_57 : decode b_Na_learn 57 = .ok (.aload_n 0, 1) := by decide +kernel
theorem d_Na_learn_58 : decode b_Na_learn 58 = .ok (.aload_n 0, 1) := by decide +kernel
theorem d_Na_learn_59 : decode b_Na_learn 59 = .ok (.getfield 42, 3) := by decide +kernel
theorem d_Na_learn_62 : decode b_Na_learn 62 = .ok (.iconst 0, 1) := by decide +kernel
theorem d_Na_learn_63 : decode b_Na_learn 63 = .ok (.iload 4, 2) := by decide +kernel
theorem d_Na_learn_65 : decode b_Na_learn 65 = .ok (.invokevirtual 93, 3) := by decide +kernel
theorem d_Na_learn_68 : decode b_Na_learn 68 = .ok (.istore 6, 2) := by decide +kernel
theorem d_Na_learn_70 : decode b_Na_learn 70 = .ok (.iload_n 3, 1) := by decide +kernel
theorem d_Na_learn_71 : decode b_Na_learn 71 = .ok (.ifCond .lt 22, 3) := by decide +kernel
theorem d_Na_learn_74 : decode b_Na_learn 74 = .ok (.iload 6, 2) := by decide +kernel
theorem d_Na_learn_76 : decode b_Na_learn 76 = .ok (.sipush 128, 3) := by decide +kernel
theorem d_Na_learn_79 : decode b_Na_learn 79 = .ok (.if_icmp .ge 14, 3) := by decide +kernel
theorem d_Na_learn_82 : decode b_Na_learn 82 = .ok (.aload_n 0, 1) := by decide +kernel
theorem d_Na_learn_83 : decode b_Na_learn 83 = .ok (.getfield 39, 3) := by decide +kernel
theorem d_Na_learn_86 : decode b_Na_learn 86 = .ok (.iload 6, 2) := by decide +kernel
theorem d_Na_learn_88 : decode b_Na_learn 88 = .ok (.iload_n 3, 1) := by decide +kernel
theorem d_Na_learn_89 : decode b_Na_learn 89 = .ok (.iastore, 1) := by decide +kernel
theorem d_Na_learn_90 : decode b_Na_learn 90 = .ok (.iinc 3 1, 3) := by decide +kernel
theorem d_Na_learn_93 : decode b_Na_learn 93 = .ok (.iconst 0, 1) := by decide +kernel
theorem d_Na_learn_94 : decode b_Na_learn 94 = .ok (.istore 4, 2) := by decide +kernel
theorem d_Na_learn_96 : decode b_Na_learn 96 = .ok (.iinc 5 1, 3) := by decide +kernel
theorem d_Na_learn_99 : decode b_Na_learn 99 = .ok (.goto (-91), 3) := by decide +kernel
theorem d_Na_learn_102 : decode b_Na_learn 102 = .ok (.return_, 1) := by decide +kernel
abbrev rm_Na_learn : Room := { frames := 4, cells := 0, slots := 0, locals := 85 }
set_option maxHeartbeats 4000000 in
set_option maxRecDepth 100000 in
/-- learn: the words of a text have numbers -/
theorem c_Na_learn (l : Launch) (D : va_G) (g : Nat → ClassId) (h0 a1 a2 a3 a4 a5 a6 a7 a8 a9 b1 b2 b3 b4 : Nat) (mk stt : Int32) (k L : Nat) (fl fs fz fn fh : Nat → Int32) (fo fw : Nat → Int32) (x : SL) (op : Int32) (sz : Nat) (hI : NI k L fs fz fn fh) (hk : k + cw (sb x) ((sb x).length + 1) ≤ 256) (hL : L + (sb x).length + 1 ≤ 2048) (hx : (sb x).length ≤ 127) : Met l y_Na_learn (mw y_Na_learn b_Na_learn 7 (none)) (rm_Na_learn) (PC g D [x] [.ref h0, .ref (sk x), .int op] sz [(h0, .inr (5, [.ref a1, .ref a2, .ref a3, .ref a4, .ref a5, .ref a6, .ref a7, .ref a8, .ref a9, .int mk, .int stt])), (a1, .inr (3, [.ref b1, .int (nI L)])), (b1, .inl (g 0, 2048, .inl fl)), (a2, .inr (3, [.ref b2, .int (nI k)])), (b2, .inl (g 0, 256, .inl fs)), (a3, .inr (3, [.ref b3, .int (nI k)])), (b3, .inl (g 0, 256, .inl fz)), (a4, .inr (3, [.ref b4, .int (nI k)])), (b4, .inl (g 0, 256, .inl fn)), (a5, .inl (g 0, 256, .inl fh)), (a8, .inl (g 0, 128, .inl fo)), (a9, .inl (g 1, 128, .inl fw))]) (va_Qv (fun u : Nat × Nat × (Nat → Int32) × (Nat → Int32) × (Nat → Int32) × (Nat → Int32) × (Nat → Int32) × (Nat → Int32) × (Nat → Int32) => u.1 ≤ k + cw (sb x) ((sb x).length + 1) ∧ u.2.1 ≤ L + (sb x).length + 1 ∧ NI u.1 u.2.1 u.2.2.2.1 u.2.2.2.2.1 u.2.2.2.2.2.1 u.2.2.2.2.2.2.1) (QW D (va_A [(h0, .inr (5, [.ref a1, .ref a2, .ref a3, .ref a4, .ref a5, .ref a6, .ref a7, .ref a8, .ref a9, .int mk, .int stt])), (a1, .inr (3, [.ref b1, .int (nI L)])), (b1, .inl (g 0, 2048, .inl fl)), (a2, .inr (3, [.ref b2, .int (nI k)])), (b2, .inl (g 0, 256, .inl fs)), (a3, .inr (3, [.ref b3, .int (nI k)])), (b3, .inl (g 0, 256, .inl fz)), (a4, .inr (3, [.ref b4, .int (nI k)])), (b4, .inl (g 0, 256, .inl fn)), (a5, .inl (g 0, 256, .inl fh)), (a8, .inl (g 0, 128, .inl fo)), (a9, .inl (g 1, 128, .inl fw))] sz) (fun u : Nat × Nat × (Nat → Int32) × (Nat → Int32) × (Nat → Int32) × (Nat → Int32) × (Nat → Int32) × (Nat → Int32) × (Nat → Int32) => [(h0, .inr (5, [.ref a1, .ref a2, .ref a3, .ref a4, .ref a5, .ref a6, .ref a7, .ref a8, .ref a9, .int mk, .int stt])), (a1, .inr (3, [.ref b1, .int (nI u.2.1)])), (b1, .inl (g 0, 2048, .inl u.2.2.1)), (a2, .inr (3, [.ref b2, .int (nI u.1)])), (b2, .inl (g 0, 256, .inl u.2.2.2.1)), (a3, .inr (3, [.ref b3, .int (nI u.1)])), (b3, .inl (g 0, 256, .inl u.2.2.2.2.1)), (a4, .inr (3, [.ref b4, .int (nI u.1)])), (b4, .inl (g 0, 256, .inl u.2.2.2.2.2.1)), (a5, .inl (g 0, 256, .inl u.2.2.2.2.2.2.1)), (a8, .inl (g 0, 128, .inl u.2.2.2.2.2.2.2.1)), (a9, .inl (g 1, 128, .inl u.2.2.2.2.2.2.2.2))])) (va_A [(h0, .inr (5, [.ref a1, .ref a2, .ref a3, .ref a4, .ref a5, .ref a6, .ref a7, .ref a8, .ref a9, .int mk, .int stt])), (a1, .inr (3, [.ref b1, .int (nI L)])), (b1, .inl (g 0, 2048, .inl fl)), (a2, .inr (3, [.ref b2, .int (nI k)])), (b2, .inl (g 0, 256, .inl fs)), (a3, .inr (3, [.ref b3, .int (nI k)])), (b3, .inl (g 0, 256, .inl fz)), (a4, .inr (3, [.ref b4, .int (nI k)])), (b4, .inl (g 0, 256, .inl fn)), (a5, .inl (g 0, 256, .inl fh)), (a8, .inl (g 0, 128, .inl fo)), (a9, .inl (g 1, 128, .inl fw))] sz)) 0 0 (va_A [(h0, .inr (5, [.ref a1, .ref a2, .ref a3, .ref a4, .ref a5, .ref a6, .ref a7, .ref a8, .ref a9, .int mk, .int stt])), (a1, .inr (3, [.ref b1, .int (nI L)])), (b1, .inl (g 0, 2048, .inl fl)), (a2, .inr (3, [.ref b2, .int (nI k)])), (b2, .inl (g 0, 256, .inl fs)), (a3, .inr (3, [.ref b3, .int (nI k)])), (b3, .inl (g 0, 256, .inl fz)), (a4, .inr (3, [.ref b4, .int (nI k)])), (b4, .inl (g 0, 256, .inl fn)), (a5, .inl (g 0, 256, .inl fh)), (a8, .inl (g 0, 128, .inl fo)), (a9, .inl (g 1, 128, .inl fw))] sz) := by
  refine ofV (by decide +kernel) (Nat.le_of_ble_eq_true rfl) ?_
  intro p e s m args below meth c A Q ls H locs G hsz hP hD hS hl hret
  subst hsz
  have hl : lv_has ls 7 [(0, .ref h0), (1, .ref (sk x)), (2, .int op)] := hl
  refine lv_iload_n G.1 G.2.1 d_Na_learn_0 rfl (lv_at hl 2 rfl) ?_
  refine lv_istore_n (lv' := [(3, .int op), (0, .ref h0), (1, .ref (sk x)), (2, .int op)]) G.1 G.2.1 d_Na_learn_1 rfl hl (by decide) rfl (fun ls hl => ?_)
  refine lv_iconst (v := nI 0) G.1 G.2.1 d_Na_learn_2 (by decide) ?_
  refine lv_istore (lv' := [(4, .int (nI 0)), (3, .int op), (0, .ref h0), (1, .ref (sk x)), (2, .int op)]) G.1 G.2.1 d_Na_learn_3 hl (by decide) rfl (fun ls hl => ?_)
  refine lv_iconst (v := nI 0) G.1 G.2.1 d_Na_learn_5 (by decide) ?_
  refine lv_istore (lv' := [(5, .int (nI 0)), (4, .int (nI 0)), (3, .int op), (0, .ref h0), (1, .ref (sk x)), (2, .int op)]) G.1 G.2.1 d_Na_learn_6 hl (by decide) rfl (fun ls hl => ?_)
  have L_1 : ∀ (k_L_1 : Nat) (i : Nat) (n : Nat) (op1 : Int32) (k1 : Nat) (L1 : Nat) (fl1 : Nat → Int32) (fs1 : Nat → Int32) (fz1 : Nat → Int32) (fn1 : Nat → Int32) (fh1 : Nat → Int32) (fo1 : Nat → Int32) (fw1 : Nat → Int32), ((sb x).length + 1 - i) < k_L_1 → (i ≤ (sb x).length + 1) → (n ≤ i) → (n ≤ 128) → (k1 ≤ k + cw (sb x) i) → (L1 + n ≤ L + i) → (NI k1 L1 fs1 fz1 fn1 fh1) → ∀ (H : Heap) (locs : List Loc), va_P D CL [(h0, .inr (5, [.ref a1, .ref a2, .ref a3, .ref a4, .ref a5, .ref a6, .ref a7, .ref a8, .ref a9, .int mk, .int stt])), (a1, .inr (3, [.ref b1, .int (nI L1)])), (b1, .inl (g 0, 2048, .inl fl1)), (a2, .inr (3, [.ref b2, .int (nI k1)])), (b2, .inl (g 0, 256, .inl fs1)), (a3, .inr (3, [.ref b3, .int (nI k1)])), (b3, .inl (g 0, 256, .inl fz1)), (a4, .inr (3, [.ref b4, .int (nI k1)])), (b4, .inl (g 0, 256, .inl fn1)), (a5, .inl (g 0, 256, .inl fh1)), (a8, .inl (g 0, 128, .inl fo1)), (a9, .inl (g 1, 128, .inl fw1))] H → va_D A [(h0, .inr (5, [.ref a1, .ref a2, .ref a3, .ref a4, .ref a5, .ref a6, .ref a7, .ref a8, .ref a9, .int mk, .int stt])), (a1, .inr (3, [.ref b1, .int (nI L1)])), (b1, .inl (g 0, 2048, .inl fl1)), (a2, .inr (3, [.ref b2, .int (nI k1)])), (b2, .inl (g 0, 256, .inl fs1)), (a3, .inr (3, [.ref b3, .int (nI k1)])), (b3, .inl (g 0, 256, .inl fz1)), (a4, .inr (3, [.ref b4, .int (nI k1)])), (b4, .inl (g 0, 256, .inl fn1)), (a5, .inl (g 0, 256, .inl fh1)), (a8, .inl (g 0, 128, .inl fo1)), (a9, .inl (g 1, 128, .inl fw1))] → va_S A s.heap H locs → ∀ ls, lv_has ls 7 [(0, .ref h0), (1, .ref (sk x)), (2, .int op), (3, .int op1), (4, .int (nI n)), (5, .int (nI i))] → W p l e rm_Na_learn s m args below meth c H locs 0 0 Q (F0 m 8 ls []) := by
    intro k_L_1
    induction k_L_1 with
    | zero => intro i n op1 k1 L1 fl1 fs1 fz1 fn1 fh1 fo1 fw1 hk_L_1; exact absurd hk_L_1 (Nat.not_lt_zero _)
    | succ k_L_1 ih_L_1 =>
      intro i n op1 k1 L1 fl1 fs1 fz1 fn1 fh1 fo1 fw1 hk_L_1 hi hni hn hk1 hL1 hI1 H locs hP hD hS ls hl
      refine lv_iload G.1 G.2.1 d_Na_learn_8 (lv_at hl 5 rfl) ?_
      refine lv_aload_n G.1 G.2.1 d_Na_learn_10 rfl (lv_at hl 1 rfl) ?_
      refine kEi (wr := [(h0, .inr (5, [.ref a1, .ref a2, .ref a3, .ref a4, .ref a5, .ref a6, .ref a7, .ref a8, .ref a9, .int mk, .int stt])), (a1, .inr (3, [.ref b1, .int (nI L1)])), (b1, .inl (g 0, 2048, .inl fl1)), (a2, .inr (3, [.ref b2, .int (nI k1)])), (b2, .inl (g 0, 256, .inl fs1)), (a3, .inr (3, [.ref b3, .int (nI k1)])), (b3, .inl (g 0, 256, .inl fz1)), (a4, .inr (3, [.ref b4, .int (nI k1)])), (b4, .inl (g 0, 256, .inl fn1)), (a5, .inl (g 0, 256, .inl fh1)), (a8, .inl (g 0, 128, .inl fo1)), (a9, .inl (g 1, 128, .inl fw1))]) G (kVr (As := []) (rest := [.int (nI i)]) G hP hD hS [] rfl rfl (c_Js_length l D g x H.size ) w_Js_length q413 rfl rfl ⟨Nat.le_of_ble_eq_true rfl, Nat.le_of_ble_eq_true rfl⟩ (fun _ h => h) (S1.recv (G.2.2.2.2.2.2.2.2.2.2.1.2 x List.mem_cons_self) hS) hl.1 rfl (Nat.le_of_ble_eq_true rfl) rfl ⟨Nat.le_of_ble_eq_true rfl, (Nat.le_of_ble_eq_true rfl)⟩ d_Na_learn_11) hP hD hS [] [0, 1, 2, 3, 4, 5, 6, 7, 8, 9, 10, 11] rfl rfl rfl rfl (fun r_2 u_3 H locs hw hP hD hS hzH => ?_)
      have hw : r_2 = nI (sb x).length := hw
      have hP : va_P D CL [(h0, .inr (5, [.ref a1, .ref a2, .ref a3, .ref a4, .ref a5, .ref a6, .ref a7, .ref a8, .ref a9, .int mk, .int stt])), (a1, .inr (3, [.ref b1, .int (nI L1)])), (b1, .inl (g 0, 2048, .inl fl1)), (a2, .inr (3, [.ref b2, .int (nI k1)])), (b2, .inl (g 0, 256, .inl fs1)), (a3, .inr (3, [.ref b3, .int (nI k1)])), (b3, .inl (g 0, 256, .inl fz1)), (a4, .inr (3, [.ref b4, .int (nI k1)])), (b4, .inl (g 0, 256, .inl fn1)), (a5, .inl (g 0, 256, .inl fh1)), (a8, .inl (g 0, 128, .inl fo1)), (a9, .inl (g 1, 128, .inl fw1))] H := hP
      have hD : va_D A [(h0, .inr (5, [.ref a1, .ref a2, .ref a3, .ref a4, .ref a5, .ref a6, .ref a7, .ref a8, .ref a9, .int mk, .int stt])), (a1, .inr (3, [.ref b1, .int (nI L1)])), (b1, .inl (g 0, 2048, .inl fl1)), (a2, .inr (3, [.ref b2, .int (nI k1)])), (b2, .inl (g 0, 256, .inl fs1)), (a3, .inr (3, [.ref b3, .int (nI k1)])), (b3, .inl (g 0, 256, .inl fz1)), (a4, .inr (3, [.ref b4, .int (nI k1)])), (b4, .inl (g 0, 256, .inl fn1)), (a5, .inl (g 0, 256, .inl fh1)), (a8, .inl (g 0, 128, .inl fo1)), (a9, .inl (g 1, 128, .inl fw1))] := hD
      subst hw
      refine lv_icmp_gt (tgt := 102) G.1 G.2.1 d_Na_learn_14 (by decide) (fun c14 => ?_) (fun c14 => ?_)
      · skip
        have c14 : ((sb x).length) < i := (nI_ltI (by omega) (by omega)).mp c14
        have hin : (sb x).length + 1 = i := by omega
        rw [← hin] at hk1 hL1
        have hP : va_P D CL [(h0, .inr (5, [.ref a1, .ref a2, .ref a3, .ref a4, .ref a5, .ref a6, .ref a7, .ref a8, .ref a9, .int mk, .int stt])), (a1, .inr (3, [.ref b1, .int (nI L1)])), (b1, .inl (g 0, 2048, .inl fl1)), (a2, .inr (3, [.ref b2, .int (nI k1)])), (b2, .inl (g 0, 256, .inl fs1)), (a3, .inr (3, [.ref b3, .int (nI k1)])), (b3, .inl (g 0, 256, .inl fz1)), (a4, .inr (3, [.ref b4, .int (nI k1)])), (b4, .inl (g 0, 256, .inl fn1)), (a5, .inl (g 0, 256, .inl fh1)), (a8, .inl (g 0, 128, .inl fo1)), (a9, .inl (g 1, 128, .inl fw1))] H := hP.sub [0, 1, 2, 3, 4, 5, 6, 7, 8, 9, 10, 11] rfl
        have hD : va_D A [(h0, .inr (5, [.ref a1, .ref a2, .ref a3, .ref a4, .ref a5, .ref a6, .ref a7, .ref a8, .ref a9, .int mk, .int stt])), (a1, .inr (3, [.ref b1, .int (nI L1)])), (b1, .inl (g 0, 2048, .inl fl1)), (a2, .inr (3, [.ref b2, .int (nI k1)])), (b2, .inl (g 0, 256, .inl fs1)), (a3, .inr (3, [.ref b3, .int (nI k1)])), (b3, .inl (g 0, 256, .inl fz1)), (a4, .inr (3, [.ref b4, .int (nI k1)])), (b4, .inl (g 0, 256, .inl fn1)), (a5, .inl (g 0, 256, .inl fh1)), (a8, .inl (g 0, 128, .inl fo1)), (a9, .inl (g 1, 128, .inl fw1))] := hD.sub [0, 1, 2, 3, 4, 5, 6, 7, 8, 9, 10, 11] (by decide) rfl
        refine hret (k1, L1, fl1, fs1, fz1, fn1, fh1, fo1, fw1) _ _ _ _ _ ls (show k1 ≤ k + cw (sb x) ((sb x).length + 1) ∧ L1 ≤ L + (sb x).length + 1 ∧ NI k1 L1 fs1 fz1 fn1 fh1 from ⟨hk1, by omega, hI1⟩) hP hD hS (Nat.le_of_ble_eq_true rfl) (Nat.le_of_ble_eq_true rfl) d_Na_learn_102
      · skip
        have c14 : ¬ (((sb x).length) < i) := fun h => c14 ((nI_ltI (by omega) (by omega)).mpr h)
        refine lv_iload G.1 G.2.1 d_Na_learn_17 (lv_at hl 5 rfl) ?_
        refine lv_aload_n G.1 G.2.1 d_Na_learn_19 rfl (lv_at hl 1 rfl) ?_
        refine W.eq (g2 := F0 m 20 ls [.ref (sk x), .int (nI i)]) rfl ?_
        refine kEi (wr := [(h0, .inr (5, [.ref a1, .ref a2, .ref a3, .ref a4, .ref a5, .ref a6, .ref a7, .ref a8, .ref a9, .int mk, .int stt])), (a1, .inr (3, [.ref b1, .int (nI L1)])), (b1, .inl (g 0, 2048, .inl fl1)), (a2, .inr (3, [.ref b2, .int (nI k1)])), (b2, .inl (g 0, 256, .inl fs1)), (a3, .inr (3, [.ref b3, .int (nI k1)])), (b3, .inl (g 0, 256, .inl fz1)), (a4, .inr (3, [.ref b4, .int (nI k1)])), (b4, .inl (g 0, 256, .inl fn1)), (a5, .inl (g 0, 256, .inl fh1)), (a8, .inl (g 0, 128, .inl fo1)), (a9, .inl (g 1, 128, .inl fw1))]) G (kVr (As := []) (rest := [.int (nI i)]) G hP hD hS [] rfl rfl (c_Js_length l D g x H.size ) w_Js_length q413 rfl rfl ⟨Nat.le_of_ble_eq_true rfl, Nat.le_of_ble_eq_true rfl⟩ (fun _ h => h) (S1.recv (G.2.2.2.2.2.2.2.2.2.2.1.2 x List.mem_cons_self) hS) hl.1 rfl (Nat.le_of_ble_eq_true rfl) rfl ⟨Nat.le_of_ble_eq_true rfl, (Nat.le_of_ble_eq_true rfl)⟩ d_Na_learn_20) hP hD hS [] [0, 1, 2, 3, 4, 5, 6, 7, 8, 9, 10, 11] rfl rfl rfl rfl (fun r_4 u_5 H locs hw hP hD hS hzH => ?_)
        have hw : r_4 = nI (sb x).length := hw
        have hP : va_P D CL [(h0, .inr (5, [.ref a1, .ref a2, .ref a3, .ref a4, .ref a5, .ref a6, .ref a7, .ref a8, .ref a9, .int mk, .int stt])), (a1, .inr (3, [.ref b1, .int (nI L1)])), (b1, .inl (g 0, 2048, .inl fl1)), (a2, .inr (3, [.ref b2, .int (nI k1)])), (b2, .inl (g 0, 256, .inl fs1)), (a3, .inr (3, [.ref b3, .int (nI k1)])), (b3, .inl (g 0, 256, .inl fz1)), (a4, .inr (3, [.ref b4, .int (nI k1)])), (b4, .inl (g 0, 256, .inl fn1)), (a5, .inl (g 0, 256, .inl fh1)), (a8, .inl (g 0, 128, .inl fo1)), (a9, .inl (g 1, 128, .inl fw1))] H := hP
        have hD : va_D A [(h0, .inr (5, [.ref a1, .ref a2, .ref a3, .ref a4, .ref a5, .ref a6, .ref a7, .ref a8, .ref a9, .int mk, .int stt])), (a1, .inr (3, [.ref b1, .int (nI L1)])), (b1, .inl (g 0, 2048, .inl fl1)), (a2, .inr (3, [.ref b2, .int (nI k1)])), (b2, .inl (g 0, 256, .inl fs1)), (a3, .inr (3, [.ref b3, .int (nI k1)])), (b3, .inl (g 0, 256, .inl fz1)), (a4, .inr (3, [.ref b4, .int (nI k1)])), (b4, .inl (g 0, 256, .inl fn1)), (a5, .inl (g 0, 256, .inl fh1)), (a8, .inl (g 0, 128, .inl fo1)), (a9, .inl (g 1, 128, .inl fw1))] := hD
        subst hw
        refine lv_icmp_ge (tgt := 57) G.1 G.2.1 d_Na_learn_23 (by decide) (fun c23 => ?_) (fun c23 => ?_)
        · skip
          have c23 : ((sb x).length) ≤ i := (nI_leI (by omega) (by omega)).mp c23
          have ecw : cw (sb x) (i + 1) = cw (sb x) i + 1 := by rw [cw, if_neg (fun h => absurd h.1 (by omega))]
          refine lv_aload_n G.1 G.2.1 d_Na_learn_57 rfl (lv_at hl 0 rfl) ?_
          refine lv_aload_n G.1 G.2.1 d_Na_learn_58 rfl (lv_at hl 0 rfl) ?_
          refine kg (ci := 5) G iNa hP 0 rfl rfl 8 (by decide) q512 rfl rfl d_Na_learn_59 ?_
          refine lv_iconst (v := nI 0) G.1 G.2.1 d_Na_learn_62 (by decide) ?_
          refine lv_iload G.1 G.2.1 d_Na_learn_63 (lv_at hl 4 rfl) ?_
          have hcm : cw (sb x) (i + 1) ≤ cw (sb x) ((sb x).length + 1) := cw_mono _ (by omega)
          refine kEi (wr := [(a8, .inl (g 0, 128, .inl fo1))]) G (kV (As := [.ref a9, .int (nI 0), .int (nI n)]) (rest := []) G hP hD hS [0, 1, 2, 3, 4, 5, 6, 7, 8, 9, 11] rfl rfl (c_Na_number l D g h0 a1 a2 a3 a4 a5 a6 a7 a8 a9 b1 b2 b3 b4 mk stt k1 L1 fl1 fs1 fz1 fn1 fh1 a9 fw1 n H.size hI1 (by omega) hn (by omega)) w_Na_number q461 rfl rfl ⟨Nat.le_of_ble_eq_true rfl, Nat.le_of_ble_eq_true rfl⟩ (fun _ h => absurd h List.not_mem_nil) 0 (ci := 5) rfl rfl rfl hl.1 rfl (Nat.le_of_ble_eq_true rfl) rfl ⟨Nat.le_of_ble_eq_true rfl, (Nat.le_of_ble_eq_true rfl)⟩ d_Na_learn_65) hP hD hS [0, 1, 2, 3, 4, 5, 6, 7, 8, 9, 11] [10] rfl rfl rfl rfl (fun r_6 u_7 H locs hw hP hD hS hzH => ?_)
          obtain ⟨k2, L2, fl2, fs2, fz2, fn2, fh2⟩ := u_7
          have hw : (∃ id : Nat, r_6 = nI id ∧ id < k2) ∧ k1 ≤ k2 ∧ k2 ≤ k1 + 1 ∧ L2 ≤ L1 + n ∧ NI k2 L2 fs2 fz2 fn2 fh2 := hw
          have hP : va_P D CL [(a8, .inl (g 0, 128, .inl fo1)), (h0, .inr (5, [.ref a1, .ref a2, .ref a3, .ref a4, .ref a5, .ref a6, .ref a7, .ref a8, .ref a9, .int mk, .int stt])), (a1, .inr (3, [.ref b1, .int (nI L2)])), (b1, .inl (g 0, 2048, .inl fl2)), (a2, .inr (3, [.ref b2, .int (nI k2)])), (b2, .inl (g 0, 256, .inl fs2)), (a3, .inr (3, [.ref b3, .int (nI k2)])), (b3, .inl (g 0, 256, .inl fz2)), (a4, .inr (3, [.ref b4, .int (nI k2)])), (b4, .inl (g 0, 256, .inl fn2)), (a5, .inl (g 0, 256, .inl fh2)), (a9, .inl (g 1, 128, .inl fw1))] H := hP
          have hD : va_D A [(a8, .inl (g 0, 128, .inl fo1)), (h0, .inr (5, [.ref a1, .ref a2, .ref a3, .ref a4, .ref a5, .ref a6, .ref a7, .ref a8, .ref a9, .int mk, .int stt])), (a1, .inr (3, [.ref b1, .int (nI L2)])), (b1, .inl (g 0, 2048, .inl fl2)), (a2, .inr (3, [.ref b2, .int (nI k2)])), (b2, .inl (g 0, 256, .inl fs2)), (a3, .inr (3, [.ref b3, .int (nI k2)])), (b3, .inl (g 0, 256, .inl fz2)), (a4, .inr (3, [.ref b4, .int (nI k2)])), (b4, .inl (g 0, 256, .inl fn2)), (a5, .inl (g 0, 256, .inl fh2)), (a9, .inl (g 1, 128, .inl fw1))] := hD
          obtain ⟨⟨id, hid, hid2⟩, hk3, hk4, hL4, hI2⟩ := hw
          subst hid
          refine lv_istore (lv' := [(6, .int (nI id)), (0, .ref h0), (1, .ref (sk x)), (2, .int op), (3, .int op1), (4, .int (nI n)), (5, .int (nI i))]) G.1 G.2.1 d_Na_learn_68 hl (by decide) rfl (fun ls hl => ?_)
          refine lv_iload_n G.1 G.2.1 d_Na_learn_70 rfl (lv_at hl 4 rfl) ?_
          refine lv_if_lt (tgt := 93) G.1 G.2.1 d_Na_learn_71 (by decide) (fun c71 => ?_) (fun c71 => ?_)
          · skip
            refine lv_iconst (v := nI 0) G.1 G.2.1 d_Na_learn_93 (by decide) ?_
            refine W.eq (g2 := F0 m 94 ls [.int (nI 0)]) rfl ?_
            refine lv_istore (lv' := [(4, .int (nI 0)), (6, .int (nI id)), (0, .ref h0), (1, .ref (sk x)), (2, .int op), (3, .int op1), (5, .int (nI i))]) G.1 G.2.1 d_Na_learn_94 hl (by decide) rfl (fun ls hl => ?_)
            refine lv_iinc (v := nI (i + 1)) (lv' := [(5, .int (nI (i + 1))), (4, .int (nI 0)), (6, .int (nI id)), (0, .ref h0), (1, .ref (sk x)), (2, .int op), (3, .int op1)]) G.1 G.2.1 d_Na_learn_96 hl (k := 6) rfl (show (nI i) + Int32.ofInt 1 = nI (i + 1) from nI_1 _) (by decide) rfl (fun ls hl => ?_)
            refine lv_goto (tgt := 8) G.1 G.2.1 d_Na_learn_99 (by decide) ?_
            exact ih_L_1 (i + 1) 0 op1 k2 L2 fl2 fs2 fz2 fn2 fh2 fo1 fw1 (by omega) (by omega) (by omega) (by omega) (by rw [ecw]; omega) (by omega) hI2 _ _ (hP.sub [1, 2, 3, 4, 5, 6, 7, 8, 9, 10, 0, 11] rfl) (hD.sub [1, 2, 3, 4, 5, 6, 7, 8, 9, 10, 0, 11] (by decide) rfl) hS ls (lv_sub hl [3, 4, 5, 6, 1, 0] rfl)
          · skip
            refine lv_iload G.1 G.2.1 d_Na_learn_74 (lv_at hl 0 rfl) ?_
            refine W.eq (g2 := F0 m 76 ls [.int (nI id)]) rfl ?_
            refine lv_sipush (v := nI 128) G.1 G.2.1 d_Na_learn_76 (by decide) ?_
            refine lv_icmp_ge (tgt := 93) G.1 G.2.1 d_Na_learn_79 (by decide) (fun c79 => ?_) (fun c79 => ?_)
            · skip
              have c79 : 128 ≤ id := (nI_leI (by omega) (by omega)).mp c79
              refine lv_iconst (v := nI 0) G.1 G.2.1 d_Na_learn_93 (by decide) ?_
              refine lv_istore (lv' := [(4, .int (nI 0)), (6, .int (nI id)), (0, .ref h0), (1, .ref (sk x)), (2, .int op), (3, .int op1), (5, .int (nI i))]) G.1 G.2.1 d_Na_learn_94 hl (by decide) rfl (fun ls hl => ?_)
              refine lv_iinc (v := nI (i + 1)) (lv' := [(5, .int (nI (i + 1))), (4, .int (nI 0)), (6, .int (nI id)), (0, .ref h0), (1, .ref (sk x)), (2, .int op), (3, .int op1)]) G.1 G.2.1 d_Na_learn_96 hl (k := 6) rfl (show (nI i) + Int32.ofInt 1 = nI (i + 1) from nI_1 _) (by decide) rfl (fun ls hl => ?_)
              refine lv_goto (tgt := 8) G.1 G.2.1 d_Na_learn_99 (by decide) ?_
              exact ih_L_1 (i + 1) 0 op1 k2 L2 fl2 fs2 fz2 fn2 fh2 fo1 fw1 (by omega) (by omega) (by omega) (by omega) (by rw [ecw]; omega) (by omega) hI2 _ _ (hP.sub [1, 2, 3, 4, 5, 6, 7, 8, 9, 10, 0, 11] rfl) (hD.sub [1, 2, 3, 4, 5, 6, 7, 8, 9, 10, 0, 11] (by decide) rfl) hS ls (lv_sub hl [3, 4, 5, 6, 1, 0] rfl)
            · skip
              have c79 : ¬ (128 ≤ id) := fun h => c79 ((nI_leI (by omega) (by omega)).mpr h)
              refine lv_aload_n G.1 G.2.1 d_Na_learn_82 rfl (lv_at hl 1 rfl) ?_
              refine kg (ci := 5) G iNa hP 1 rfl rfl 7 (by decide) q511 rfl rfl d_Na_learn_83 ?_
              refine lv_iload G.1 G.2.1 d_Na_learn_86 (lv_at hl 0 rfl) ?_
              refine lv_iload_n G.1 G.2.1 d_Na_learn_88 rfl (lv_at hl 4 rfl) ?_
              refine kiast G hP hD hS 0 0 rfl rfl (by omega) (by omega) d_Na_learn_89 (fun H locs hP hD hS => ?_)
              have hP : va_P D CL [(a8, .inl (g 0, 128, .inl (upd fo1 id op1))), (h0, .inr (5, [.ref a1, .ref a2, .ref a3, .ref a4, .ref a5, .ref a6, .ref a7, .ref a8, .ref a9, .int mk, .int stt])), (a1, .inr (3, [.ref b1, .int (nI L2)])), (b1, .inl (g 0, 2048, .inl fl2)), (a2, .inr (3, [.ref b2, .int (nI k2)])), (b2, .inl (g 0, 256, .inl fs2)), (a3, .inr (3, [.ref b3, .int (nI k2)])), (b3, .inl (g 0, 256, .inl fz2)), (a4, .inr (3, [.ref b4, .int (nI k2)])), (b4, .inl (g 0, 256, .inl fn2)), (a5, .inl (g 0, 256, .inl fh2)), (a9, .inl (g 1, 128, .inl fw1))] H := hP
              have hD : va_D A [(a8, .inl (g 0, 128, .inl (upd fo1 id op1))), (h0, .inr (5, [.ref a1, .ref a2, .ref a3, .ref a4, .ref a5, .ref a6, .ref a7, .ref a8, .ref a9, .int mk, .int stt])), (a1, .inr (3, [.ref b1, .int (nI L2)])), (b1, .inl (g 0, 2048, .inl fl2)), (a2, .inr (3, [.ref b2, .int (nI k2)])), (b2, .inl (g 0, 256, .inl fs2)), (a3, .inr (3, [.ref b3, .int (nI k2)])), (b3, .inl (g 0, 256, .inl fz2)), (a4, .inr (3, [.ref b4, .int (nI k2)])), (b4, .inl (g 0, 256, .inl fn2)), (a5, .inl (g 0, 256, .inl fh2)), (a9, .inl (g 1, 128, .inl fw1))] := hD
              refine lv_iinc (v := op1 + 1) (lv' := [(3, .int (op1 + 1)), (6, .int (nI id)), (0, .ref h0), (1, .ref (sk x)), (2, .int op), (4, .int (nI n)), (5, .int (nI i))]) G.1 G.2.1 d_Na_learn_90 hl (k := 4) rfl rfl (by decide) rfl (fun ls hl => ?_)
              refine lv_iconst (v := nI 0) G.1 G.2.1 d_Na_learn_93 (by decide) ?_
              refine lv_istore (lv' := [(4, .int (nI 0)), (3, .int (op1 + 1)), (6, .int (nI id)), (0, .ref h0), (1, .ref (sk x)), (2, .int op), (5, .int (nI i))]) G.1 G.2.1 d_Na_learn_94 hl (by decide) rfl (fun ls hl => ?_)
              refine lv_iinc (v := nI (i + 1)) (lv' := [(5, .int (nI (i + 1))), (4, .int (nI 0)), (3, .int (op1 + 1)), (6, .int (nI id)), (0, .ref h0), (1, .ref (sk x)), (2, .int op)]) G.1 G.2.1 d_Na_learn_96 hl (k := 6) rfl (show (nI i) + Int32.ofInt 1 = nI (i + 1) from nI_1 _) (by decide) rfl (fun ls hl => ?_)
              refine lv_goto (tgt := 8) G.1 G.2.1 d_Na_learn_99 (by decide) ?_
              exact ih_L_1 (i + 1) 0 (op1 + 1) k2 L2 fl2 fs2 fz2 fn2 fh2 (upd fo1 id op1) fw1 (by omega) (by omega) (by omega) (by omega) (by rw [ecw]; omega) (by omega) hI2 _ _ (hP.sub [1, 2, 3, 4, 5, 6, 7, 8, 9, 10, 0, 11] rfl) (hD.sub [1, 2, 3, 4, 5, 6, 7, 8, 9, 10, 0, 11] (by decide) rfl) hS ls (lv_sub hl [4, 5, 6, 2, 1, 0] rfl)
        · skip
          have c23 : ¬ (((sb x).length) ≤ i) := fun h => c23 ((nI_leI (by omega) (by omega)).mpr h)
          refine lv_aload_n G.1 G.2.1 d_Na_learn_26 rfl (lv_at hl 1 rfl) ?_
          refine lv_iload G.1 G.2.1 d_Na_learn_27 (lv_at hl 5 rfl) ?_
          refine kEi (wr := [(h0, .inr (5, [.ref a1, .ref a2, .ref a3, .ref a4, .ref a5, .ref a6, .ref a7, .ref a8, .ref a9, .int mk, .int stt])), (a1, .inr (3, [.ref b1, .int (nI L1)])), (b1, .inl (g 0, 2048, .inl fl1)), (a2, .inr (3, [.ref b2, .int (nI k1)])), (b2, .inl (g 0, 256, .inl fs1)), (a3, .inr (3, [.ref b3, .int (nI k1)])), (b3, .inl (g 0, 256, .inl fz1)), (a4, .inr (3, [.ref b4, .int (nI k1)])), (b4, .inl (g 0, 256, .inl fn1)), (a5, .inl (g 0, 256, .inl fh1)), (a8, .inl (g 0, 128, .inl fo1)), (a9, .inl (g 1, 128, .inl fw1))]) G (kVr (As := [.int (nI i)]) (rest := []) G hP hD hS [] rfl rfl (c_Js_charAt l D g x i H.size (by omega) (by omega)) w_Js_charAt q423 rfl rfl ⟨Nat.le_of_ble_eq_true rfl, Nat.le_of_ble_eq_true rfl⟩ (fun _ h => h) (S1.recv (G.2.2.2.2.2.2.2.2.2.2.1.2 x List.mem_cons_self) hS) hl.1 rfl (Nat.le_of_ble_eq_true rfl) rfl ⟨Nat.le_of_ble_eq_true rfl, (Nat.le_of_ble_eq_true rfl)⟩ d_Na_learn_29) hP hD hS [] [0, 1, 2, 3, 4, 5, 6, 7, 8, 9, 10, 11] rfl rfl rfl rfl (fun r_8 u_9 H locs hw hP hD hS hzH => ?_)
          have hw : r_8 = (sb x).getD i 0 &&& 255 := hw
          have hP : va_P D CL [(h0, .inr (5, [.ref a1, .ref a2, .ref a3, .ref a4, .ref a5, .ref a6, .ref a7, .ref a8, .ref a9, .int mk, .int stt])), (a1, .inr (3, [.ref b1, .int (nI L1)])), (b1, .inl (g 0, 2048, .inl fl1)), (a2, .inr (3, [.ref b2, .int (nI k1)])), (b2, .inl (g 0, 256, .inl fs1)), (a3, .inr (3, [.ref b3, .int (nI k1)])), (b3, .inl (g 0, 256, .inl fz1)), (a4, .inr (3, [.ref b4, .int (nI k1)])), (b4, .inl (g 0, 256, .inl fn1)), (a5, .inl (g 0, 256, .inl fh1)), (a8, .inl (g 0, 128, .inl fo1)), (a9, .inl (g 1, 128, .inl fw1))] H := hP
          have hD : va_D A [(h0, .inr (5, [.ref a1, .ref a2, .ref a3, .ref a4, .ref a5, .ref a6, .ref a7, .ref a8, .ref a9, .int mk, .int stt])), (a1, .inr (3, [.ref b1, .int (nI L1)])), (b1, .inl (g 0, 2048, .inl fl1)), (a2, .inr (3, [.ref b2, .int (nI k1)])), (b2, .inl (g 0, 256, .inl fs1)), (a3, .inr (3, [.ref b3, .int (nI k1)])), (b3, .inl (g 0, 256, .inl fz1)), (a4, .inr (3, [.ref b4, .int (nI k1)])), (b4, .inl (g 0, 256, .inl fn1)), (a5, .inl (g 0, 256, .inl fh1)), (a8, .inl (g 0, 128, .inl fo1)), (a9, .inl (g 1, 128, .inl fw1))] := hD
          subst hw
          refine lv_bipush (v := nI 32) G.1 G.2.1 d_Na_learn_32 (by decide) ?_
          refine lv_icmp_eq (tgt := 57) G.1 G.2.1 d_Na_learn_34 (by decide) (fun c34 => ?_) (fun c34 => ?_)
          · skip
            have ecw : cw (sb x) (i + 1) = cw (sb x) i + 1 := by rw [cw, if_neg (fun h => h.2 c34)]
            refine lv_aload_n G.1 G.2.1 d_Na_learn_57 rfl (lv_at hl 0 rfl) ?_
            refine lv_aload_n G.1 G.2.1 d_Na_learn_58 rfl (lv_at hl 0 rfl) ?_
            refine kg (ci := 5) G iNa hP 0 rfl rfl 8 (by decide) q512 rfl rfl d_Na_learn_59 ?_
            refine lv_iconst (v := nI 0) G.1 G.2.1 d_Na_learn_62 (by decide) ?_
            refine lv_iload G.1 G.2.1 d_Na_learn_63 (lv_at hl 4 rfl) ?_
            refine W.eq (g2 := F0 m 65 ls [.int (nI n), .int (nI 0), .ref a9, .ref h0]) rfl ?_
            have hcm : cw (sb x) (i + 1) ≤ cw (sb x) ((sb x).length + 1) := cw_mono _ (by omega)
            refine kEi (wr := [(a8, .inl (g 0, 128, .inl fo1))]) G (kV (As := [.ref a9, .int (nI 0), .int (nI n)]) (rest := []) G hP hD hS [0, 1, 2, 3, 4, 5, 6, 7, 8, 9, 11] rfl rfl (c_Na_number l D g h0 a1 a2 a3 a4 a5 a6 a7 a8 a9 b1 b2 b3 b4 mk stt k1 L1 fl1 fs1 fz1 fn1 fh1 a9 fw1 n H.size hI1 (by omega) hn (by omega)) w_Na_number q461 rfl rfl ⟨Nat.le_of_ble_eq_true rfl, Nat.le_of_ble_eq_true rfl⟩ (fun _ h => absurd h List.not_mem_nil) 0 (ci := 5) rfl rfl rfl hl.1 rfl (Nat.le_of_ble_eq_true rfl) rfl ⟨Nat.le_of_ble_eq_true rfl, (Nat.le_of_ble_eq_true rfl)⟩ d_Na_learn_65) hP hD hS [0, 1, 2, 3, 4, 5, 6, 7, 8, 9, 11] [10] rfl rfl rfl rfl (fun r_10 u_11 H locs hw hP hD hS hzH => ?_)
            obtain ⟨k2, L2, fl2, fs2, fz2, fn2, fh2⟩ := u_11
            have hw : (∃ id : Nat, r_10 = nI id ∧ id < k2) ∧ k1 ≤ k2 ∧ k2 ≤ k1 + 1 ∧ L2 ≤ L1 + n ∧ NI k2 L2 fs2 fz2 fn2 fh2 := hw
            have hP : va_P D CL [(a8, .inl (g 0, 128, .inl fo1)), (h0, .inr (5, [.ref a1, .ref a2, .ref a3, .ref a4, .ref a5, .ref a6, .ref a7, .ref a8, .ref a9, .int mk, .int stt])), (a1, .inr (3, [.ref b1, .int (nI L2)])), (b1, .inl (g 0, 2048, .inl fl2)), (a2, .inr (3, [.ref b2, .int (nI k2)])), (b2, .inl (g 0, 256, .inl fs2)), (a3, .inr (3, [.ref b3, .int (nI k2)])), (b3, .inl (g 0, 256, .inl fz2)), (a4, .inr (3, [.ref b4, .int (nI k2)])), (b4, .inl (g 0, 256, .inl fn2)), (a5, .inl (g 0, 256, .inl fh2)), (a9, .inl (g 1, 128, .inl fw1))] H := hP
            have hD : va_D A [(a8, .inl (g 0, 128, .inl fo1)), (h0, .inr (5, [.ref a1, .ref a2, .ref a3, .ref a4, .ref a5, .ref a6, .ref a7, .ref a8, .ref a9, .int mk, .int stt])), (a1, .inr (3, [.ref b1, .int (nI L2)])), (b1, .inl (g 0, 2048, .inl fl2)), (a2, .inr (3, [.ref b2, .int (nI k2)])), (b2, .inl (g 0, 256, .inl fs2)), (a3, .inr (3, [.ref b3, .int (nI k2)])), (b3, .inl (g 0, 256, .inl fz2)), (a4, .inr (3, [.ref b4, .int (nI k2)])), (b4, .inl (g 0, 256, .inl fn2)), (a5, .inl (g 0, 256, .inl fh2)), (a9, .inl (g 1, 128, .inl fw1))] := hD
            obtain ⟨⟨id, hid, hid2⟩, hk3, hk4, hL4, hI2⟩ := hw
            subst hid
            refine lv_istore (lv' := [(6, .int (nI id)), (0, .ref h0), (1, .ref (sk x)), (2, .int op), (3, .int op1), (4, .int (nI n)), (5, .int (nI i))]) G.1 G.2.1 d_Na_learn_68 hl (by decide) rfl (fun ls hl => ?_)
            refine lv_iload_n G.1 G.2.1 d_Na_learn_70 rfl (lv_at hl 4 rfl) ?_
            refine lv_if_lt (tgt := 93) G.1 G.2.1 d_Na_learn_71 (by decide) (fun c71 => ?_) (fun c71 => ?_)
            · skip
              refine lv_iconst (v := nI 0) G.1 G.2.1 d_Na_learn_93 (by decide) ?_
              refine lv_istore (lv' := [(4, .int (nI 0)), (6, .int (nI id)), (0, .ref h0), (1, .ref (sk x)), (2, .int op), (3, .int op1), (5, .int (nI i))]) G.1 G.2.1 d_Na_learn_94 hl (by decide) rfl (fun ls hl => ?_)
              refine lv_iinc (v := nI (i + 1)) (lv' := [(5, .int (nI (i + 1))), (4, .int (nI 0)), (6, .int (nI id)), (0, .ref h0), (1, .ref (sk x)), (2, .int op), (3, .int op1)]) G.1 G.2.1 d_Na_learn_96 hl (k := 6) rfl (show (nI i) + Int32.ofInt 1 = nI (i + 1) from nI_1 _) (by decide) rfl (fun ls hl => ?_)
              refine lv_goto (tgt := 8) G.1 G.2.1 d_Na_learn_99 (by decide) ?_
              exact ih_L_1 (i + 1) 0 op1 k2 L2 fl2 fs2 fz2 fn2 fh2 fo1 fw1 (by omega) (by omega) (by omega) (by omega) (by rw [ecw]; omega) (by omega) hI2 _ _ (hP.sub [1, 2, 3, 4, 5, 6, 7, 8, 9, 10, 0, 11] rfl) (hD.sub [1, 2, 3, 4, 5, 6, 7, 8, 9, 10, 0, 11] (by decide) rfl) hS ls (lv_sub hl [3, 4, 5, 6, 1, 0] rfl)
            · skip
              refine lv_iload G.1 G.2.1 d_Na_learn_74 (lv_at hl 0 rfl) ?_
              refine lv_sipush (v := nI 128) G.1 G.2.1 d_Na_learn_76 (by decide) ?_
              refine lv_icmp_ge (tgt := 93) G.1 G.2.1 d_Na_learn_79 (by decide) (fun c79 => ?_) (fun c79 => ?_)
              · skip
                have c79 : 128 ≤ id := (nI_leI (by omega) (by omega)).mp c79
                refine lv_iconst (v := nI 0) G.1 G.2.1 d_Na_learn_93 (by decide) ?_
                refine lv_istore (lv' := [(4, .int (nI 0)), (6, .int (nI id)), (0, .ref h0), (1, .ref (sk x)), (2, .int op), (3, .int op1), (5, .int (nI i))]) G.1 G.2.1 d_Na_learn_94 hl (by decide) rfl (fun ls hl => ?_)
                refine lv_iinc (v := nI (i + 1)) (lv' := [(5, .int (nI (i + 1))), (4, .int (nI 0)), (6, .int (nI id)), (0, .ref h0), (1, .ref (sk x)), (2, .int op), (3, .int op1)]) G.1 G.2.1 d_Na_learn_96 hl (k := 6) rfl (show (nI i) + Int32.ofInt 1 = nI (i + 1) from nI_1 _) (by decide) rfl (fun ls hl => ?_)
                refine lv_goto (tgt := 8) G.1 G.2.1 d_Na_learn_99 (by decide) ?_
                exact ih_L_1 (i + 1) 0 op1 k2 L2 fl2 fs2 fz2 fn2 fh2 fo1 fw1 (by omega) (by omega) (by omega) (by omega) (by rw [ecw]; omega) (by omega) hI2 _ _ (hP.sub [1, 2, 3, 4, 5, 6, 7, 8, 9, 10, 0, 11] rfl) (hD.sub [1, 2, 3, 4, 5, 6, 7, 8, 9, 10, 0, 11] (by decide) rfl) hS ls (lv_sub hl [3, 4, 5, 6, 1, 0] rfl)
              · skip
                have c79 : ¬ (128 ≤ id) := fun h => c79 ((nI_leI (by omega) (by omega)).mpr h)
                refine lv_aload_n G.1 G.2.1 d_Na_learn_82 rfl (lv_at hl 1 rfl) ?_
                refine kg (ci := 5) G iNa hP 1 rfl rfl 7 (by decide) q511 rfl rfl d_Na_learn_83 ?_
                refine lv_iload G.1 G.2.1 d_Na_learn_86 (lv_at hl 0 rfl) ?_
                refine lv_iload_n G.1 G.2.1 d_Na_learn_88 rfl (lv_at hl 4 rfl) ?_
                refine kiast G hP hD hS 0 0 rfl rfl (by omega) (by omega) d_Na_learn_89 (fun H locs hP hD hS => ?_)
                have hP : va_P D CL [(a8, .inl (g 0, 128, .inl (upd fo1 id op1))), (h0, .inr (5, [.ref a1, .ref a2, .ref a3, .ref a4, .ref a5, .ref a6, .ref a7, .ref a8, .ref a9, .int mk, .int stt])), (a1, .inr (3, [.ref b1, .int (nI L2)])), (b1, .inl (g 0, 2048, .inl fl2)), (a2, .inr (3, [.ref b2, .int (nI k2)])), (b2, .inl (g 0, 256, .inl fs2)), (a3, .inr (3, [.ref b3, .int (nI k2)])), (b3, .inl (g 0, 256, .inl fz2)), (a4, .inr (3, [.ref b4, .int (nI k2)])), (b4, .inl (g 0, 256, .inl fn2)), (a5, .inl (g 0, 256, .inl fh2)), (a9, .inl (g 1, 128, .inl fw1))] H := hP
                have hD : va_D A [(a8, .inl (g 0, 128, .inl (upd fo1 id op1))), (h0, .inr (5, [.ref a1, .ref a2, .ref a3, .ref a4, .ref a5, .ref a6, .ref a7, .ref a8, .ref a9, .int mk, .int stt])), (a1, .inr (3, [.ref b1, .int (nI L2)])), (b1, .inl (g 0, 2048, .inl fl2)), (a2, .inr (3, [.ref b2, .int (nI k2)])), (b2, .inl (g 0, 256, .inl fs2)), (a3, .inr (3, [.ref b3, .int (nI k2)])), (b3, .inl (g 0, 256, .inl fz2)), (a4, .inr (3, [.ref b4, .int (nI k2)])), (b4, .inl (g 0, 256, .inl fn2)), (a5, .inl (g 0, 256, .inl fh2)), (a9, .inl (g 1, 128, .inl fw1))] := hD
                refine W.eq (g2 := F0 m 90 ls []) rfl ?_
                refine lv_iinc (v := op1 + 1) (lv' := [(3, .int (op1 + 1)), (6, .int (nI id)), (0, .ref h0), (1, .ref (sk x)), (2, .int op), (4, .int (nI n)), (5, .int (nI i))]) G.1 G.2.1 d_Na_learn_90 hl (k := 4) rfl rfl (by decide) rfl (fun ls hl => ?_)
                refine lv_iconst (v := nI 0) G.1 G.2.1 d_Na_learn_93 (by decide) ?_
                refine lv_istore (lv' := [(4, .int (nI 0)), (3, .int (op1 + 1)), (6, .int (nI id)), (0, .ref h0), (1, .ref (sk x)), (2, .int op), (5, .int (nI i))]) G.1 G.2.1 d_Na_learn_94 hl (by decide) rfl (fun ls hl => ?_)
                refine lv_iinc (v := nI (i + 1)) (lv' := [(5, .int (nI (i + 1))), (4, .int (nI 0)), (3, .int (op1 + 1)), (6, .int (nI id)), (0, .ref h0), (1, .ref (sk x)), (2, .int op)]) G.1 G.2.1 d_Na_learn_96 hl (k := 6) rfl (show (nI i) + Int32.ofInt 1 = nI (i + 1) from nI_1 _) (by decide) rfl (fun ls hl => ?_)
                refine lv_goto (tgt := 8) G.1 G.2.1 d_Na_learn_99 (by decide) ?_
                exact ih_L_1 (i + 1) 0 (op1 + 1) k2 L2 fl2 fs2 fz2 fn2 fh2 (upd fo1 id op1) fw1 (by omega) (by omega) (by omega) (by omega) (by rw [ecw]; omega) (by omega) hI2 _ _ (hP.sub [1, 2, 3, 4, 5, 6, 7, 8, 9, 10, 0, 11] rfl) (hD.sub [1, 2, 3, 4, 5, 6, 7, 8, 9, 10, 0, 11] (by decide) rfl) hS ls (lv_sub hl [4, 5, 6, 2, 1, 0] rfl)
          · skip
            have ecw : cw (sb x) (i + 1) = cw (sb x) i := by rw [cw, if_pos ⟨by omega, c34⟩]; rfl
            refine lv_aload_n G.1 G.2.1 d_Na_learn_37 rfl (lv_at hl 0 rfl) ?_
            refine kg (ci := 5) G iNa hP 0 rfl rfl 8 (by decide) q512 rfl rfl d_Na_learn_38 ?_
            refine lv_iload G.1 G.2.1 d_Na_learn_41 (lv_at hl 4 rfl) ?_
            refine lv_aload_n G.1 G.2.1 d_Na_learn_43 rfl (lv_at hl 1 rfl) ?_
            refine lv_iload G.1 G.2.1 d_Na_learn_44 (lv_at hl 5 rfl) ?_
            refine W.eq (g2 := F0 m 46 ls [.int (nI i), .ref (sk x), .int (nI n), .ref a9]) rfl ?_
            refine kEi (wr := [(h0, .inr (5, [.ref a1, .ref a2, .ref a3, .ref a4, .ref a5, .ref a6, .ref a7, .ref a8, .ref a9, .int mk, .int stt])), (a1, .inr (3, [.ref b1, .int (nI L1)])), (b1, .inl (g 0, 2048, .inl fl1)), (a2, .inr (3, [.ref b2, .int (nI k1)])), (b2, .inl (g 0, 256, .inl fs1)), (a3, .inr (3, [.ref b3, .int (nI k1)])), (b3, .inl (g 0, 256, .inl fz1)), (a4, .inr (3, [.ref b4, .int (nI k1)])), (b4, .inl (g 0, 256, .inl fn1)), (a5, .inl (g 0, 256, .inl fh1)), (a8, .inl (g 0, 128, .inl fo1)), (a9, .inl (g 1, 128, .inl fw1))]) G (kVr (As := [.int (nI i)]) (rest := [.int (nI n), .ref a9]) G hP hD hS [] rfl rfl (c_Js_charAt l D g x i H.size (by omega) (by omega)) w_Js_charAt q423 rfl rfl ⟨Nat.le_of_ble_eq_true rfl, Nat.le_of_ble_eq_true rfl⟩ (fun _ h => h) (S1.recv (G.2.2.2.2.2.2.2.2.2.2.1.2 x List.mem_cons_self) hS) hl.1 rfl (Nat.le_of_ble_eq_true rfl) rfl ⟨Nat.le_of_ble_eq_true rfl, (Nat.le_of_ble_eq_true rfl)⟩ d_Na_learn_46) hP hD hS [] [0, 1, 2, 3, 4, 5, 6, 7, 8, 9, 10, 11] rfl rfl rfl rfl (fun r_12 u_13 H locs hw hP hD hS hzH => ?_)
            have hw : r_12 = (sb x).getD i 0 &&& 255 := hw
            have hP : va_P D CL [(h0, .inr (5, [.ref a1, .ref a2, .ref a3, .ref a4, .ref a5, .ref a6, .ref a7, .ref a8, .ref a9, .int mk, .int stt])), (a1, .inr (3, [.ref b1, .int (nI L1)])), (b1, .inl (g 0, 2048, .inl fl1)), (a2, .inr (3, [.ref b2, .int (nI k1)])), (b2, .inl (g 0, 256, .inl fs1)), (a3, .inr (3, [.ref b3, .int (nI k1)])), (b3, .inl (g 0, 256, .inl fz1)), (a4, .inr (3, [.ref b4, .int (nI k1)])), (b4, .inl (g 0, 256, .inl fn1)), (a5, .inl (g 0, 256, .inl fh1)), (a8, .inl (g 0, 128, .inl fo1)), (a9, .inl (g 1, 128, .inl fw1))] H := hP
            have hD : va_D A [(h0, .inr (5, [.ref a1, .ref a2, .ref a3, .ref a4, .ref a5, .ref a6, .ref a7, .ref a8, .ref a9, .int mk, .int stt])), (a1, .inr (3, [.ref b1, .int (nI L1)])), (b1, .inl (g 0, 2048, .inl fl1)), (a2, .inr (3, [.ref b2, .int (nI k1)])), (b2, .inl (g 0, 256, .inl fs1)), (a3, .inr (3, [.ref b3, .int (nI k1)])), (b3, .inl (g 0, 256, .inl fz1)), (a4, .inr (3, [.ref b4, .int (nI k1)])), (b4, .inl (g 0, 256, .inl fn1)), (a5, .inl (g 0, 256, .inl fh1)), (a8, .inl (g 0, 128, .inl fo1)), (a9, .inl (g 1, 128, .inl fw1))] := hD
            subst hw
            refine lv_i2b G.1 G.2.1 d_Na_learn_49 rfl ?_
            refine kbast G hP hD hS 11 1 rfl rfl (by omega) (by omega) d_Na_learn_50 (fun H locs hP hD hS => ?_)
            have hP : va_P D CL [(h0, .inr (5, [.ref a1, .ref a2, .ref a3, .ref a4, .ref a5, .ref a6, .ref a7, .ref a8, .ref a9, .int mk, .int stt])), (a1, .inr (3, [.ref b1, .int (nI L1)])), (b1, .inl (g 0, 2048, .inl fl1)), (a2, .inr (3, [.ref b2, .int (nI k1)])), (b2, .inl (g 0, 256, .inl fs1)), (a3, .inr (3, [.ref b3, .int (nI k1)])), (b3, .inl (g 0, 256, .inl fz1)), (a4, .inr (3, [.ref b4, .int (nI k1)])), (b4, .inl (g 0, 256, .inl fn1)), (a5, .inl (g 0, 256, .inl fh1)), (a8, .inl (g 0, 128, .inl fo1)), (a9, .inl (g 1, 128, .inl (upd fw1 n (vp_nar .byte (((sb x).getD i 0 &&& 255).toInt8.toInt32)))))] H := hP
            have hD : va_D A [(h0, .inr (5, [.ref a1, .ref a2, .ref a3, .ref a4, .ref a5, .ref a6, .ref a7, .ref a8, .ref a9, .int mk, .int stt])), (a1, .inr (3, [.ref b1, .int (nI L1)])), (b1, .inl (g 0, 2048, .inl fl1)), (a2, .inr (3, [.ref b2, .int (nI k1)])), (b2, .inl (g 0, 256, .inl fs1)), (a3, .inr (3, [.ref b3, .int (nI k1)])), (b3, .inl (g 0, 256, .inl fz1)), (a4, .inr (3, [.ref b4, .int (nI k1)])), (b4, .inl (g 0, 256, .inl fn1)), (a5, .inl (g 0, 256, .inl fh1)), (a8, .inl (g 0, 128, .inl fo1)), (a9, .inl (g 1, 128, .inl (upd fw1 n (vp_nar .byte (((sb x).getD i 0 &&& 255).toInt8.toInt32)))))] := hD
            refine lv_iinc (v := nI (n + 1)) (lv' := [(4, .int (nI (n + 1))), (0, .ref h0), (1, .ref (sk x)), (2, .int op), (3, .int op1), (5, .int (nI i))]) G.1 G.2.1 d_Na_learn_51 hl (k := 4) rfl (show (nI n) + Int32.ofInt 1 = nI (n + 1) from nI_1 _) (by decide) rfl (fun ls hl => ?_)
            refine lv_goto (tgt := 96) G.1 G.2.1 d_Na_learn_54 (by decide) ?_
            refine lv_iinc (v := nI (i + 1)) (lv' := [(5, .int (nI (i + 1))), (4, .int (nI (n + 1))), (0, .ref h0), (1, .ref (sk x)), (2, .int op), (3, .int op1)]) G.1 G.2.1 d_Na_learn_96 hl (k := 5) rfl (show (nI i) + Int32.ofInt 1 = nI (i + 1) from nI_1 _) (by decide) rfl (fun ls hl => ?_)
            refine lv_goto (tgt := 8) G.1 G.2.1 d_Na_learn_99 (by decide) ?_
            exact ih_L_1 (i + 1) (n + 1) op1 k1 L1 fl1 fs1 fz1 fn1 fh1 fo1 (upd fw1 n (vp_nar .byte (((sb x).getD i 0 &&& 255).toInt8.toInt32))) (by omega) (by omega) (by omega) (by omega) (by rw [ecw]; exact hk1) (by omega) hI1 _ _ (hP.sub [0, 1, 2, 3, 4, 5, 6, 7, 8, 9, 10, 11] rfl) (hD.sub [0, 1, 2, 3, 4, 5, 6, 7, 8, 9, 10, 11] (by decide) rfl) hS ls (lv_sub hl [2, 3, 4, 5, 1, 0] rfl)
  exact L_1 (_ + 1) 0 0 op k L fl fs fz fn fh fo fw (Nat.lt_succ_self _) (by omega) (by omega) (by omega) (by omega) (by omega) hI _ _ (hP.sub [0, 1, 2, 3, 4, 5, 6, 7, 8, 9, 10, 11] rfl) (hD.sub [0, 1, 2, 3, 4, 5, 6, 7, 8, 9, 10, 11] (by decide) rfl) hS ls (lv_sub hl [3, 4, 5, 2, 1, 0] rfl)
def y_Na_sign : MethodName := ⟨"ClassWorks$Names", "sign", "(II[II)I"⟩
abbrev b_Na_sign : ByteArray := prog_7_method_8_code
theorem q510 : Cond.fieldLink "ClassWorks$Names" 36 "ClassWorks$Names" "signHead" "[I" ∈ lw_ok := lw_okmem (List.mem_of_getElem? (i := 510) (by decide +kernel)) rfl
theorem q509 : Cond.fieldLink "ClassWorks$Names" 33 "ClassWorks$Names" "signs" "LClassWorks$Ints;" ∈ lw_ok := lw_okmem (List.mem_of_getElem? (i := 509) (by decide +kernel)) rfl
theorem d_Na_sign_0 : decode b_Na_sign 0 = .ok (.iload_n 1, 1) := by decide +kernel
theorem d_Na_sign_1 : decode b_Na_sign 1 = .ok (.bipush 31, 2) := by decide +kernel
theorem d_Na_sign_3 : decode b_Na_sign 3 = .ok (.imul, 1) := by decide +kernel
theorem d_Na_sign_4 : decode b_Na_sign 4 = .ok (.iload 4, 2) := by decide +kernel
theorem d_Na_sign_6 : decode b_Na_sign 6 = .ok (.iadd, 1) := by decide +kernel
theorem d_Na_sign_7 : decode b_Na_sign 7 = .ok (.istore 5, 2) := by decide +kernel
theorem d_Na_sign_9 : decode b_Na_sign 9 = .ok (.iconst 0, 1) := by decide +kernel
theorem d_Na_sign_10 : decode b_Na_sign 10 = .ok (.istore 6, 2) := by decide +kernel
theorem d_Na_sign_12 : decode b_Na_sign 12 = .ok (.iload 6, 2) := by decide +kernel
theorem d_Na_sign_14 : decode b_Na_sign 14 = .ok (.iload_n 2, 1) := by decide +kernel
theorem d_Na_sign_15 : decode b_Na_sign 15 = .ok (.if_icmp .ge 21, 3) := by decide +kernel
theorem d_Na_sign_36 : decode b_Na_sign 36 = .ok (.iload 5, 2) := by decide +kernel
theorem d_Na_sign_38 : decode b_Na_sign 38 = .ok (.iload 5, 2) := by decide +kernel
theorem d_Na_sign_40 : decode b_Na_sign 40 = .ok (.bipush 8, 2) := by decide +kernel
theorem d_Na_sign_42 : decode b_Na_sign 42 = .ok (.iushr, 1) := by decide +kernel
theorem d_Na_sign_43 : decode b_Na_sign 43 = .ok (.ixor, 1) := by decide +kernel
theorem d_Na_sign_44 : decode b_Na_sign 44 = .ok (.sipush 255, 3) := by decide +kernel
theorem d_Na_sign_47 : decode b_Na_sign 47 = .ok (.iand, 1) := by decide +kernel
theorem d_Na_sign_48 : decode b_Na_sign 48 = .ok (.istore 5, 2) := by decide +kernel
theorem d_Na_sign_50 : decode b_Na_sign 50 = .ok (.aload_n 0, 1) := by decide +kernel
theorem d_Na_sign_51 : decode b_Na_sign 51 = .ok (.getfield 36, 3) := by decide +kernel
theorem d_Na_sign_54 : decode b_Na_sign 54 = .ok (.iload 5, 2) := by decide +kernel
theorem d_Na_sign_56 : decode b_Na_sign 56 = .ok (.iaload, 1) := by decide +kernel
theorem d_Na_sign_57 : decode b_Na_sign 57 = .ok (.istore 6, 2) := by decide +kernel
theorem d_Na_sign_59 : decode b_Na_sign 59 = .ok (.iload 6, 2) := by decide +kernel
theorem d_Na_sign_61 : decode b_Na_sign 61 = .ok (.ifCond .lt 35, 3) := by decide +kernel
theorem d_Na_sign_96 : decode b_Na_sign 96 = .ok (.aload_n 0, 1) := by decide +kernel
theorem d_Na_sign_97 : decode b_Na_sign 97 = .ok (.getfield 33, 3) := by decide +kernel
theorem d_Na_sign_100 : decode b_Na_sign 100 = .ok (.aload_n 0, 1) := by decide +kernel
theorem d_Na_sign_101 : decode b_Na_sign 101 = .ok (.getfield 36, 3) := by decide +kernel
theorem d_Na_sign_104 : decode b_Na_sign 104 = .ok (.iload 5, 2) := by decide +kernel
theorem d_Na_sign_106 : decode b_Na_sign 106 = .ok (.iaload, 1) := by decide +kernel
theorem d_Na_sign_107 : decode b_Na_sign 107 = .ok (.invokevirtual 106, 3) := by decide +kernel
theorem d_Na_sign_110 : decode b_Na_sign 110 = .ok (.istore 6, 2) := by decide +kernel
theorem d_Na_sign_112 : decode b_Na_sign 112 = .ok (.aload_n 0, 1) := by decide +kernel
theorem d_Na_sign_113 : decode b_Na_sign 113 = .ok (.getfield 36, 3) := by decide +kernel
theorem d_Na_sign_116 : decode b_Na_sign 116 = .ok (.iload 5, 2) := by decide +kernel
theorem d_Na_sign_118 : decode b_Na_sign 118 = .ok (.iload 6, 2) := by decide +kernel
theorem d_Na_sign_120 : decode b_Na_sign 120 = .ok (.iastore, 1) := by decide +kernel
theorem d_Na_sign_121 : decode b_Na_sign 121 = .ok (.aload_n 0, 1) := by decide +kernel
theorem d_Na_sign_122 : decode b_Na_sign 122 = .ok (.getfield 33, 3) := by decide +kernel
theorem d_Na_sign_125 : decode b_Na_sign 125 = .ok (.iload_n 1, 1) := by decide +kernel
theorem d_Na_sign_126 : decode b_Na_sign 126 = .ok (.invokevirtual 106, 3) := by decide +kernel
theorem d_Na_sign_129 : decode b_Na_sign 129 = .ok (.pop, 1) := by decide +kernel
theorem d_Na_sign_130 : decode b_Na_sign 130 = .ok (.aload_n 0, 1) := by decide +kernel
theorem d_Na_sign_131 : decode b_Na_sign 131 = .ok (.getfield 33, 3) := by decide +kernel
theorem d_Na_sign_134 : decode b_Na_sign 134 = .ok (.iload 4, 2) := by decide +kernel
theorem d_Na_sign_136 : decode b_Na_sign 136 = .ok (.invokevirtual 106, 3) := by decide +kernel
theorem d_Na_sign_139 : decode b_Na_sign 139 = .ok (.pop, 1) := by decide +kernel
theorem d_Na_sign_140 : decode b_Na_sign 140 = .ok (.aload_n 0, 1) := by decide +kernel
theorem d_Na_sign_141 : decode b_Na_sign 141 = .ok (.getfield 33, 3) := by decide +kernel
theorem d_Na_sign_144 : decode b_Na_sign 144 = .ok (.iload_n 2, 1) := by decide +kernel
theorem d_Na_sign_145 : decode b_Na_sign 145 = .ok (.invokevirtual 106, 3) := by decide +kernel
theorem d_Na_sign_148 : decode b_Na_sign 148 = .ok (.pop, 1) := by decide +kernel
theorem d_Na_sign_149 : decode b_Na_sign 149 = .ok (.iconst 0, 1) := by decide +kernel
theorem d_Na_sign_150 : decode b_Na_sign 150 = .ok (.istore 7, 2) := by decide +kernel
theorem d_Na_sign_152 : decode b_Na_sign 152 = .ok (.iload 7, 2) := by decide +kernel
theorem d_Na_sign_154 : decode b_Na_sign 154 = .ok (.iload_n 2, 1) := by decide +kernel
theorem d_Na_sign_155 : decode b_Na_sign 155 = .ok (.if_icmp .ge 21, 3) := by decide +kernel
theorem d_Na_sign_176 : decode b_Na_sign 176 = .ok (.iload 6, 2) := by decide +kernel
theorem d_Na_sign_178 : decode b_Na_sign 178 = .ok (.ireturn, 1) := by decide +kernel
abbrev rm_Na_sign : Room := { frames := 1, cells := 0, slots := 0, locals := 21 }
set_option maxHeartbeats 4000000 in
set_option maxRecDepth 100000 in
/-- sign(name, 0, .., result): a new one -/
theorem c_Na_sign (l : Launch) (D : va_G) (g : Nat → ClassId) (h0 a1 a2 a3 a4 a5 a6 a7 a8 a9 b6 tx : Nat) (mk stt : Int32) (ks nm rs hx : Nat) (fg fq : Nat → Int32) (sz : Nat) (hh : (nI (nm * 31 + rs) ^^^ ((nI (nm * 31 + rs)).toUInt32 >>> ((nI 8).toUInt32 &&& Int32.toUInt32 31)).toInt32) &&& nI 255 = nI hx) (hhx : hx < 256) (hq : fq hx = -1) (hks : ks + 4 ≤ 512) : Met l y_Na_sign (mw y_Na_sign b_Na_sign 8 (some .int)) (rm_Na_sign) (PC g D [] [.ref h0, .int (nI nm), .int (nI 0), .ref tx, .int (nI rs)] sz [(h0, .inr (5, [.ref a1, .ref a2, .ref a3, .ref a4, .ref a5, .ref a6, .ref a7, .ref a8, .ref a9, .int mk, .int stt])), (a6, .inr (3, [.ref b6, .int (nI ks)])), (b6, .inl (g 0, 512, .inl fg)), (a7, .inl (g 0, 256, .inl fq))]) (va_Qi (fun (r : Int32) (u : (Nat → Int32)) => r = nI ks) (QW D (va_A [(h0, .inr (5, [.ref a1, .ref a2, .ref a3, .ref a4, .ref a5, .ref a6, .ref a7, .ref a8, .ref a9, .int mk, .int stt])), (a6, .inr (3, [.ref b6, .int (nI ks)])), (b6, .inl (g 0, 512, .inl fg)), (a7, .inl (g 0, 256, .inl fq))] sz) (fun u : (Nat → Int32) => [(h0, .inr (5, [.ref a1, .ref a2, .ref a3, .ref a4, .ref a5, .ref a6, .ref a7, .ref a8, .ref a9, .int mk, .int stt])), (a6, .inr (3, [.ref b6, .int (nI (ks + 1 + 1 + 1 + 1))])), (b6, .inl (g 0, 512, .inl u)), (a7, .inl (g 0, 256, .inl (upd fq hx (nI ks))))])) (va_A [(h0, .inr (5, [.ref a1, .ref a2, .ref a3, .ref a4, .ref a5, .ref a6, .ref a7, .ref a8, .ref a9, .int mk, .int stt])), (a6, .inr (3, [.ref b6, .int (nI ks)])), (b6, .inl (g 0, 512, .inl fg)), (a7, .inl (g 0, 256, .inl fq))] sz)) 0 0 (va_A [(h0, .inr (5, [.ref a1, .ref a2, .ref a3, .ref a4, .ref a5, .ref a6, .ref a7, .ref a8, .ref a9, .int mk, .int stt])), (a6, .inr (3, [.ref b6, .int (nI ks)])), (b6, .inl (g 0, 512, .inl fg)), (a7, .inl (g 0, 256, .inl fq))] sz) := by
  refine ofI (by decide +kernel) (Nat.le_of_ble_eq_true rfl) ?_
  intro p e s m args below meth c A Q ls H locs G hsz hP hD hS hl hret
  subst hsz
  have hl : lv_has ls 8 [(0, .ref h0), (1, .int (nI nm)), (2, .int (nI 0)), (3, .ref tx), (4, .int (nI rs))] := hl
  refine lv_iload_n G.1 G.2.1 d_Na_sign_0 rfl (lv_at hl 1 rfl) ?_
  refine lv_bipush (v := nI 31) G.1 G.2.1 d_Na_sign_1 (by decide) ?_
  refine lv_imul G.1 G.2.1 d_Na_sign_3 ?_
  refine tpi (w := nI (nm * 31)) (pk_mul _ _) ?_
  refine lv_iload G.1 G.2.1 d_Na_sign_4 (lv_at hl 4 rfl) ?_
  refine lv_iadd G.1 G.2.1 d_Na_sign_6 ?_
  refine tpi (w := nI (nm * 31 + rs)) (nI_add _ _) ?_
  refine lv_istore (lv' := [(5, .int (nI (nm * 31 + rs))), (0, .ref h0), (1, .int (nI nm)), (2, .int (nI 0)), (3, .ref tx), (4, .int (nI rs))]) G.1 G.2.1 d_Na_sign_7 hl (by decide) rfl (fun ls hl => ?_)
  refine lv_iconst (v := nI 0) G.1 G.2.1 d_Na_sign_9 (by decide) ?_
  refine lv_istore (lv' := [(6, .int (nI 0)), (5, .int (nI (nm * 31 + rs))), (0, .ref h0), (1, .int (nI nm)), (2, .int (nI 0)), (3, .ref tx), (4, .int (nI rs))]) G.1 G.2.1 d_Na_sign_10 hl (by decide) rfl (fun ls hl => ?_)
  refine lv_iload G.1 G.2.1 d_Na_sign_12 (lv_at hl 0 rfl) ?_
  refine lv_iload_n G.1 G.2.1 d_Na_sign_14 rfl (lv_at hl 4 rfl) ?_
  refine lv_icmp_ge (tgt := 36) G.1 G.2.1 d_Na_sign_15 (by decide) (fun c15 => ?_) (fun c15 => absurd c15 (fun h => h (by decide)))
  have c15 : 0 ≤ 0 := (nI_leI (by omega) (by omega)).mp c15
  refine W.eq (g2 := F0 m 36 ls []) rfl ?_
  refine lv_iload G.1 G.2.1 d_Na_sign_36 (lv_at hl 1 rfl) ?_
  refine lv_iload G.1 G.2.1 d_Na_sign_38 (lv_at hl 1 rfl) ?_
  refine lv_bipush (v := nI 8) G.1 G.2.1 d_Na_sign_40 (by decide) ?_
  refine lv_iushr G.1 G.2.1 d_Na_sign_42 rfl ?_
  refine lv_ixor G.1 G.2.1 d_Na_sign_43 ?_
  refine lv_sipush (v := nI 255) G.1 G.2.1 d_Na_sign_44 (by decide) ?_
  refine lv_iand G.1 G.2.1 d_Na_sign_47 ?_
  refine tpi (w := nI hx) hh ?_
  refine lv_istore (lv' := [(5, .int (nI hx)), (6, .int (nI 0)), (0, .ref h0), (1, .int (nI nm)), (2, .int (nI 0)), (3, .ref tx), (4, .int (nI rs))]) G.1 G.2.1 d_Na_sign_48 hl (by decide) rfl (fun ls hl => ?_)
  refine lv_aload_n G.1 G.2.1 d_Na_sign_50 rfl (lv_at hl 2 rfl) ?_
  refine kg (ci := 5) G iNa hP 0 rfl rfl 6 (by decide) q510 rfl rfl d_Na_sign_51 ?_
  refine lv_iload G.1 G.2.1 d_Na_sign_54 (lv_at hl 0 rfl) ?_
  refine kiald G hP 3 0 rfl rfl (by omega) (by omega) d_Na_sign_56 ?_
  refine tpi (w := (-1)) hq ?_
  refine W.eq (g2 := F0 m 57 ls [.int (-1)]) rfl ?_
  refine lv_istore (lv' := [(6, .int (-1)), (5, .int (nI hx)), (0, .ref h0), (1, .int (nI nm)), (2, .int (nI 0)), (3, .ref tx), (4, .int (nI rs))]) G.1 G.2.1 d_Na_sign_57 hl (by decide) rfl (fun ls hl => ?_)
  refine lv_iload G.1 G.2.1 d_Na_sign_59 (lv_at hl 0 rfl) ?_
  refine lv_if_lt (tgt := 96) G.1 G.2.1 d_Na_sign_61 (by decide) (fun c61 => ?_) (fun c61 => absurd c61 (by decide))
  refine lv_aload_n G.1 G.2.1 d_Na_sign_96 rfl (lv_at hl 2 rfl) ?_
  refine kg (ci := 5) G iNa hP 0 rfl rfl 5 (by decide) q509 rfl rfl d_Na_sign_97 ?_
  refine lv_aload_n G.1 G.2.1 d_Na_sign_100 rfl (lv_at hl 2 rfl) ?_
  refine kg (ci := 5) G iNa hP 0 rfl rfl 6 (by decide) q510 rfl rfl d_Na_sign_101 ?_
  refine lv_iload G.1 G.2.1 d_Na_sign_104 (lv_at hl 1 rfl) ?_
  refine kiald G hP 3 0 rfl rfl (by omega) (by omega) d_Na_sign_106 ?_
  refine kEi (wr := [(h0, .inr (5, [.ref a1, .ref a2, .ref a3, .ref a4, .ref a5, .ref a6, .ref a7, .ref a8, .ref a9, .int mk, .int stt])), (a7, .inl (g 0, 256, .inl fq))]) G (kV (As := [.int (fq hx)]) (rest := []) G hP hD hS [1, 2] rfl rfl (c_In_add l D g a6 b6 512 ks fg (fq hx) H.size (by omega) (by decide)) w_In_add q469 rfl rfl ⟨Nat.le_of_ble_eq_true rfl, Nat.le_of_ble_eq_true rfl⟩ (fun _ h => absurd h List.not_mem_nil) 1 (ci := 3) rfl rfl rfl hl.1 rfl (Nat.le_of_ble_eq_true rfl) rfl ⟨Nat.le_of_ble_eq_true rfl, (Nat.le_of_ble_eq_true rfl)⟩ d_Na_sign_107) hP hD hS [1, 2] [0, 3] rfl rfl rfl rfl (fun r_1 u_2 H locs hw hP hD hS hzH => ?_)
  have hw : r_1 = nI ks := hw
  have hP : va_P D CL [(h0, .inr (5, [.ref a1, .ref a2, .ref a3, .ref a4, .ref a5, .ref a6, .ref a7, .ref a8, .ref a9, .int mk, .int stt])), (a7, .inl (g 0, 256, .inl fq)), (a6, .inr (3, [.ref b6, .int (nI (ks + 1))])), (b6, .inl (g 0, 512, .inl (upd fg ks (fq hx))))] H := hP
  have hD : va_D A [(h0, .inr (5, [.ref a1, .ref a2, .ref a3, .ref a4, .ref a5, .ref a6, .ref a7, .ref a8, .ref a9, .int mk, .int stt])), (a7, .inl (g 0, 256, .inl fq)), (a6, .inr (3, [.ref b6, .int (nI (ks + 1))])), (b6, .inl (g 0, 512, .inl (upd fg ks (fq hx))))] := hD
  subst hw
  refine lv_istore (lv' := [(6, .int (nI ks)), (5, .int (nI hx)), (0, .ref h0), (1, .int (nI nm)), (2, .int (nI 0)), (3, .ref tx), (4, .int (nI rs))]) G.1 G.2.1 d_Na_sign_110 hl (by decide) rfl (fun ls hl => ?_)
  refine lv_aload_n G.1 G.2.1 d_Na_sign_112 rfl (lv_at hl 2 rfl) ?_
  refine W.eq (g2 := F0 m 113 ls [.ref h0]) rfl ?_
  refine kg (ci := 5) G iNa hP 0 rfl rfl 6 (by decide) q510 rfl rfl d_Na_sign_113 ?_
  refine lv_iload G.1 G.2.1 d_Na_sign_116 (lv_at hl 1 rfl) ?_
  refine lv_iload G.1 G.2.1 d_Na_sign_118 (lv_at hl 0 rfl) ?_
  refine kiast G hP hD hS 1 0 rfl rfl (by omega) (by omega) d_Na_sign_120 (fun H locs hP hD hS => ?_)
  have hP : va_P D CL [(h0, .inr (5, [.ref a1, .ref a2, .ref a3, .ref a4, .ref a5, .ref a6, .ref a7, .ref a8, .ref a9, .int mk, .int stt])), (a7, .inl (g 0, 256, .inl (upd fq hx (nI ks)))), (a6, .inr (3, [.ref b6, .int (nI (ks + 1))])), (b6, .inl (g 0, 512, .inl (upd fg ks (fq hx))))] H := hP
  have hD : va_D A [(h0, .inr (5, [.ref a1, .ref a2, .ref a3, .ref a4, .ref a5, .ref a6, .ref a7, .ref a8, .ref a9, .int mk, .int stt])), (a7, .inl (g 0, 256, .inl (upd fq hx (nI ks)))), (a6, .inr (3, [.ref b6, .int (nI (ks + 1))])), (b6, .inl (g 0, 512, .inl (upd fg ks (fq hx))))] := hD
  refine lv_aload_n G.1 G.2.1 d_Na_sign_121 rfl (lv_at hl 2 rfl) ?_
  refine kg (ci := 5) G iNa hP 0 rfl rfl 5 (by decide) q509 rfl rfl d_Na_sign_122 ?_
  refine lv_iload_n G.1 G.2.1 d_Na_sign_125 rfl (lv_at hl 3 rfl) ?_
  refine kEi (wr := [(h0, .inr (5, [.ref a1, .ref a2, .ref a3, .ref a4, .ref a5, .ref a6, .ref a7, .ref a8, .ref a9, .int mk, .int stt])), (a7, .inl (g 0, 256, .inl (upd fq hx (nI ks))))]) G (kV (As := [.int (nI nm)]) (rest := []) G hP hD hS [2, 3] rfl rfl (c_In_add l D g a6 b6 512 (ks + 1) (upd fg ks (fq hx)) (nI nm) H.size (by omega) (by decide)) w_In_add q469 rfl rfl ⟨Nat.le_of_ble_eq_true rfl, Nat.le_of_ble_eq_true rfl⟩ (fun _ h => absurd h List.not_mem_nil) 2 (ci := 3) rfl rfl rfl hl.1 rfl (Nat.le_of_ble_eq_true rfl) rfl ⟨Nat.le_of_ble_eq_true rfl, (Nat.le_of_ble_eq_true rfl)⟩ d_Na_sign_126) hP hD hS [2, 3] [0, 1] rfl rfl rfl rfl (fun r_3 u_4 H locs hw hP hD hS hzH => ?_)
  have hw : r_3 = nI (ks + 1) := hw
  have hP : va_P D CL [(h0, .inr (5, [.ref a1, .ref a2, .ref a3, .ref a4, .ref a5, .ref a6, .ref a7, .ref a8, .ref a9, .int mk, .int stt])), (a7, .inl (g 0, 256, .inl (upd fq hx (nI ks)))), (a6, .inr (3, [.ref b6, .int (nI ((ks + 1) + 1))])), (b6, .inl (g 0, 512, .inl (upd ((upd fg ks (fq hx))) (ks + 1) (nI nm))))] H := hP
  have hD : va_D A [(h0, .inr (5, [.ref a1, .ref a2, .ref a3, .ref a4, .ref a5, .ref a6, .ref a7, .ref a8, .ref a9, .int mk, .int stt])), (a7, .inl (g 0, 256, .inl (upd fq hx (nI ks)))), (a6, .inr (3, [.ref b6, .int (nI ((ks + 1) + 1))])), (b6, .inl (g 0, 512, .inl (upd ((upd fg ks (fq hx))) (ks + 1) (nI nm))))] := hD
  subst hw
  refine lv_pop G.1 G.2.1 d_Na_sign_129 rfl ?_
  refine lv_aload_n G.1 G.2.1 d_Na_sign_130 rfl (lv_at hl 2 rfl) ?_
  refine kg (ci := 5) G iNa hP 0 rfl rfl 5 (by decide) q509 rfl rfl d_Na_sign_131 ?_
  refine lv_iload G.1 G.2.1 d_Na_sign_134 (lv_at hl 6 rfl) ?_
  refine W.eq (g2 := F0 m 136 ls [.int (nI rs), .ref a6]) rfl ?_
  refine kEi (wr := [(h0, .inr (5, [.ref a1, .ref a2, .ref a3, .ref a4, .ref a5, .ref a6, .ref a7, .ref a8, .ref a9, .int mk, .int stt])), (a7, .inl (g 0, 256, .inl (upd fq hx (nI ks))))]) G (kV (As := [.int (nI rs)]) (rest := []) G hP hD hS [2, 3] rfl rfl (c_In_add l D g a6 b6 512 ((ks + 1) + 1) (upd ((upd fg ks (fq hx))) (ks + 1) (nI nm)) (nI rs) H.size (by omega) (by decide)) w_In_add q469 rfl rfl ⟨Nat.le_of_ble_eq_true rfl, Nat.le_of_ble_eq_true rfl⟩ (fun _ h => absurd h List.not_mem_nil) 2 (ci := 3) rfl rfl rfl hl.1 rfl (Nat.le_of_ble_eq_true rfl) rfl ⟨Nat.le_of_ble_eq_true rfl, (Nat.le_of_ble_eq_true rfl)⟩ d_Na_sign_136) hP hD hS [2, 3] [0, 1] rfl rfl rfl rfl (fun r_5 u_6 H locs hw hP hD hS hzH => ?_)
  have hw : r_5 = nI ((ks + 1) + 1) := hw
  have hP : va_P D CL [(h0, .inr (5, [.ref a1, .ref a2, .ref a3, .ref a4, .ref a5, .ref a6, .ref a7, .ref a8, .ref a9, .int mk, .int stt])), (a7, .inl (g 0, 256, .inl (upd fq hx (nI ks)))), (a6, .inr (3, [.ref b6, .int (nI (((ks + 1) + 1) + 1))])), (b6, .inl (g 0, 512, .inl (upd ((upd ((upd fg ks (fq hx))) (ks + 1) (nI nm))) ((ks + 1) + 1) (nI rs))))] H := hP
  have hD : va_D A [(h0, .inr (5, [.ref a1, .ref a2, .ref a3, .ref a4, .ref a5, .ref a6, .ref a7, .ref a8, .ref a9, .int mk, .int stt])), (a7, .inl (g 0, 256, .inl (upd fq hx (nI ks)))), (a6, .inr (3, [.ref b6, .int (nI (((ks + 1) + 1) + 1))])), (b6, .inl (g 0, 512, .inl (upd ((upd ((upd fg ks (fq hx))) (ks + 1) (nI nm))) ((ks + 1) + 1) (nI rs))))] := hD
  subst hw
  refine lv_pop G.1 G.2.1 d_Na_sign_139 rfl ?_
  refine lv_aload_n G.1 G.2.1 d_Na_sign_140 rfl (lv_at hl 2 rfl) ?_
  refine kg (ci := 5) G iNa hP 0 rfl rfl 5 (by decide) q509 rfl rfl d_Na_sign_141 ?_
  refine lv_iload_n G.1 G.2.1 d_Na_sign_144 rfl (lv_at hl 4 rfl) ?_
  refine kEi (wr := [(h0, .inr (5, [.ref a1, .ref a2, .ref a3, .ref a4, .ref a5, .ref a6, .ref a7, .ref a8, .ref a9, .int mk, .int stt])), (a7, .inl (g 0, 256, .inl (upd fq hx (nI ks))))]) G (kV (As := [.int (nI 0)]) (rest := []) G hP hD hS [2, 3] rfl rfl (c_In_add l D g a6 b6 512 (((ks + 1) + 1) + 1) (upd ((upd ((upd fg ks (fq hx))) (ks + 1) (nI nm))) ((ks + 1) + 1) (nI rs)) (nI 0) H.size (by omega) (by decide)) w_In_add q469 rfl rfl ⟨Nat.le_of_ble_eq_true rfl, Nat.le_of_ble_eq_true rfl⟩ (fun _ h => absurd h List.not_mem_nil) 2 (ci := 3) rfl rfl rfl hl.1 rfl (Nat.le_of_ble_eq_true rfl) rfl ⟨Nat.le_of_ble_eq_true rfl, (Nat.le_of_ble_eq_true rfl)⟩ d_Na_sign_145) hP hD hS [2, 3] [0, 1] rfl rfl rfl rfl (fun r_7 u_8 H locs hw hP hD hS hzH => ?_)
  have hw : r_7 = nI (((ks + 1) + 1) + 1) := hw
  have hP : va_P D CL [(h0, .inr (5, [.ref a1, .ref a2, .ref a3, .ref a4, .ref a5, .ref a6, .ref a7, .ref a8, .ref a9, .int mk, .int stt])), (a7, .inl (g 0, 256, .inl (upd fq hx (nI ks)))), (a6, .inr (3, [.ref b6, .int (nI ((((ks + 1) + 1) + 1) + 1))])), (b6, .inl (g 0, 512, .inl (upd ((upd ((upd ((upd fg ks (fq hx))) (ks + 1) (nI nm))) ((ks + 1) + 1) (nI rs))) (((ks + 1) + 1) + 1) (nI 0))))] H := hP
  have hD : va_D A [(h0, .inr (5, [.ref a1, .ref a2, .ref a3, .ref a4, .ref a5, .ref a6, .ref a7, .ref a8, .ref a9, .int mk, .int stt])), (a7, .inl (g 0, 256, .inl (upd fq hx (nI ks)))), (a6, .inr (3, [.ref b6, .int (nI ((((ks + 1) + 1) + 1) + 1))])), (b6, .inl (g 0, 512, .inl (upd ((upd ((upd ((upd fg ks (fq hx))) (ks + 1) (nI nm))) ((ks + 1) + 1) (nI rs))) (((ks + 1) + 1) + 1) (nI 0))))] := hD
  subst hw
  refine lv_pop G.1 G.2.1 d_Na_sign_148 rfl ?_
  refine lv_iconst (v := nI 0) G.1 G.2.1 d_Na_sign_149 (by decide) ?_
  refine lv_istore (lv' := [(7, .int (nI 0)), (6, .int (nI ks)), (5, .int (nI hx)), (0, .ref h0), (1, .int (nI nm)), (2, .int (nI 0)), (3, .ref tx), (4, .int (nI rs))]) G.1 G.2.1 d_Na_sign_150 hl (by decide) rfl (fun ls hl => ?_)
  refine lv_iload G.1 G.2.1 d_Na_sign_152 (lv_at hl 0 rfl) ?_
  refine lv_iload_n G.1 G.2.1 d_Na_sign_154 rfl (lv_at hl 5 rfl) ?_
  refine lv_icmp_ge (tgt := 176) G.1 G.2.1 d_Na_sign_155 (by decide) (fun c155 => ?_) (fun c155 => absurd c155 (fun h => h (by decide)))
  have c155 : 0 ≤ 0 := (nI_leI (by omega) (by omega)).mp c155
  refine W.eq (g2 := F0 m 176 ls []) rfl ?_
  refine lv_iload G.1 G.2.1 d_Na_sign_176 (lv_at hl 1 rfl) ?_
  refine hret (nI ks) (upd ((upd ((upd ((upd fg ks (fq hx))) (ks + 1) (nI nm))) ((ks + 1) + 1) (nI rs))) (((ks + 1) + 1) + 1) (nI 0)) _ _ _ _ _ ls (show (nI ks) = nI ks from rfl) (hP.sub [0, 2, 3, 1] rfl) (hD.sub [0, 2, 3, 1] (by decide) rfl) hS (Nat.le_of_ble_eq_true rfl) (Nat.le_of_ble_eq_true rfl) d_Na_sign_178
