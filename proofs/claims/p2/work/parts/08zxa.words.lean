def y_Wo_numberEnd : MethodName := ⟨"ClassWorks$Words", "numberEnd", "(I)I"⟩
abbrev b_Wo_numberEnd : ByteArray := prog_10_method_6_code
theorem q1292 : Cond.constantLong "ClassWorks$Words" 74 (-2147483648) ∈ lw_ok := lw_okmem (List.mem_of_getElem? (i := 1292) (by decide +kernel)) rfl
theorem q1293 : Cond.constantLong "ClassWorks$Words" 76 (2147483647) ∈ lw_ok := lw_okmem (List.mem_of_getElem? (i := 1293) (by decide +kernel)) rfl
theorem q1291 : Cond.constantLong "ClassWorks$Words" 72 (10) ∈ lw_ok := lw_okmem (List.mem_of_getElem? (i := 1291) (by decide +kernel)) rfl
theorem d_Wo_numberEnd_0 : decode b_Wo_numberEnd 0 = .ok (.aload_n 0, 1) := by decide +kernel
theorem d_Wo_numberEnd_1 : decode b_Wo_numberEnd 1 = .ok (.getfield 35, 3) := by decide +kernel
theorem d_Wo_numberEnd_4 : decode b_Wo_numberEnd 4 = .ok (.iload_n 1, 1) := by decide +kernel
theorem d_Wo_numberEnd_5 : decode b_Wo_numberEnd 5 = .ok (.baload, 1) := by decide +kernel
theorem d_Wo_numberEnd_6 : decode b_Wo_numberEnd 6 = .ok (.bipush 45, 2) := by decide +kernel
theorem d_Wo_numberEnd_8 : decode b_Wo_numberEnd 8 = .ok (.if_icmp .ne 7, 3) := by decide +kernel
theorem d_Wo_numberEnd_11 : decode b_Wo_numberEnd 11 = .ok (.iconst 1, 1) := by decide +kernel
theorem d_Wo_numberEnd_12 : decode b_Wo_numberEnd 12 = .ok (.goto 4, 3) := by decide +kernel
theorem d_Wo_numberEnd_15 : decode b_Wo_numberEnd 15 = .ok (.iconst 0, 1) := by decide +kernel
theorem d_Wo_numberEnd_16 : decode b_Wo_numberEnd 16 = .ok (.istore_n 2, 1) := by decide +kernel
theorem d_Wo_numberEnd_17 : decode b_Wo_numberEnd 17 = .ok (.iload_n 2, 1) := by decide +kernel
theorem d_Wo_numberEnd_18 : decode b_Wo_numberEnd 18 = .ok (.ifCond .eq 9, 3) := by decide +kernel
theorem d_Wo_numberEnd_21 : decode b_Wo_numberEnd 21 = .ok (.iload_n 1, 1) := by decide +kernel
theorem d_Wo_numberEnd_22 : decode b_Wo_numberEnd 22 = .ok (.iconst 1, 1) := by decide +kernel
theorem d_Wo_numberEnd_23 : decode b_Wo_numberEnd 23 = .ok (.iadd, 1) := by decide +kernel
theorem d_Wo_numberEnd_24 : decode b_Wo_numberEnd 24 = .ok (.goto 4, 3) := by decide +kernel
theorem d_Wo_numberEnd_27 : decode b_Wo_numberEnd 27 = .ok (.iload_n 1, 1) := by decide +kernel
theorem d_Wo_numberEnd_28 : decode b_Wo_numberEnd 28 = .ok (.istore_n 3, 1) := by decide +kernel
theorem d_Wo_numberEnd_29 : decode b_Wo_numberEnd 29 = .ok (.iload_n 3, 1) := by decide +kernel
theorem d_Wo_numberEnd_30 : decode b_Wo_numberEnd 30 = .ok (.istore 4, 2) := by decide +kernel
theorem d_Wo_numberEnd_32 : decode b_Wo_numberEnd 32 = .ok (.lconst 0, 1) := by decide +kernel
theorem d_Wo_numberEnd_33 : decode b_Wo_numberEnd 33 = .ok (.lstore 5, 2) := by decide +kernel
theorem d_Wo_numberEnd_35 : decode b_Wo_numberEnd 35 = .ok (.iload 4, 2) := by decide +kernel
theorem d_Wo_numberEnd_37 : decode b_Wo_numberEnd 37 = .ok (.aload_n 0, 1) := by decide +kernel
theorem d_Wo_numberEnd_38 : decode b_Wo_numberEnd 38 = .ok (.getfield 28, 3) := by decide +kernel
theorem d_Wo_numberEnd_41 : decode b_Wo_numberEnd 41 = .ok (.if_icmp .ge 56, 3) := by decide +kernel
theorem d_Wo_numberEnd_44 : decode b_Wo_numberEnd 44 = .ok (.aload_n 0, 1) := by decide +kernel
theorem d_Wo_numberEnd_45 : decode b_Wo_numberEnd 45 = .ok (.getfield 35, 3) := by decide +kernel
theorem d_Wo_numberEnd_48 : decode b_Wo_numberEnd 48 = .ok (.iload 4, 2) := by decide +kernel
theorem d_Wo_numberEnd_50 : decode b_Wo_numberEnd 50 = .ok (.baload, 1) := by decide +kernel
theorem d_Wo_numberEnd_51 : decode b_Wo_numberEnd 51 = .ok (.invokestatic 54, 3) := by decide +kernel
theorem d_Wo_numberEnd_54 : decode b_Wo_numberEnd 54 = .ok (.ifCond .eq 43, 3) := by decide +kernel
theorem d_Wo_numberEnd_57 : decode b_Wo_numberEnd 57 = .ok (.iload 4, 2) := by decide +kernel
theorem d_Wo_numberEnd_59 : decode b_Wo_numberEnd 59 = .ok (.iload_n 3, 1) := by decide +kernel
theorem d_Wo_numberEnd_60 : decode b_Wo_numberEnd 60 = .ok (.isub, 1) := by decide +kernel
theorem d_Wo_numberEnd_61 : decode b_Wo_numberEnd 61 = .ok (.bipush 10, 2) := by decide +kernel
theorem d_Wo_numberEnd_63 : decode b_Wo_numberEnd 63 = .ok (.if_icmp .ge 24, 3) := by decide +kernel
theorem d_Wo_numberEnd_66 : decode b_Wo_numberEnd 66 = .ok (.lload 5, 2) := by decide +kernel
theorem d_Wo_numberEnd_68 : decode b_Wo_numberEnd 68 = .ok (.ldc2_w 72, 3) := by decide +kernel
theorem d_Wo_numberEnd_71 : decode b_Wo_numberEnd 71 = .ok (.lmul, 1) := by decide +kernel
theorem d_Wo_numberEnd_72 : decode b_Wo_numberEnd 72 = .ok (.aload_n 0, 1) := by decide +kernel
theorem d_Wo_numberEnd_73 : decode b_Wo_numberEnd 73 = .ok (.getfield 35, 3) := by decide +kernel
theorem d_Wo_numberEnd_76 : decode b_Wo_numberEnd 76 = .ok (.iload 4, 2) := by decide +kernel
theorem d_Wo_numberEnd_78 : decode b_Wo_numberEnd 78 = .ok (.baload, 1) := by decide +kernel
theorem d_Wo_numberEnd_79 : decode b_Wo_numberEnd 79 = .ok (.bipush 48, 2) := by decide +kernel
theorem d_Wo_numberEnd_81 : decode b_Wo_numberEnd 81 = .ok (.isub, 1) := by decide +kernel
theorem d_Wo_numberEnd_82 : decode b_Wo_numberEnd 82 = .ok (.i2l, 1) := by decide +kernel
theorem d_Wo_numberEnd_83 : decode b_Wo_numberEnd 83 = .ok (.ladd, 1) := by decide +kernel
theorem d_Wo_numberEnd_84 : decode b_Wo_numberEnd 84 = .ok (.goto 5, 3) := by decide +kernel
theorem d_Wo_numberEnd_87 : decode b_Wo_numberEnd 87 = .ok (.lload 5, 2) := by decide +kernel
theorem d_Wo_numberEnd_89 : decode b_Wo_numberEnd 89 = .ok (.lstore 5, 2) := by decide +kernel
theorem d_Wo_numberEnd_91 : decode b_Wo_numberEnd 91 = .ok (.iinc 4 1, 3) := by decide +kernel
theorem d_Wo_numberEnd_94 : decode b_Wo_numberEnd 94 = .ok (.goto (-59), 3) := by decide +kernel
theorem d_Wo_numberEnd_97 : decode b_Wo_numberEnd 97 = .ok (.iload_n 2, 1) := by decide +kernel
theorem d_Wo_numberEnd_98 : decode b_Wo_numberEnd 98 = .ok (.ifCond .eq 9, 3) := by decide +kernel
theorem d_Wo_numberEnd_101 : decode b_Wo_numberEnd 101 = .ok (.lload 5, 2) := by decide +kernel
theorem d_Wo_numberEnd_103 : decode b_Wo_numberEnd 103 = .ok (.lneg, 1) := by decide +kernel
theorem d_Wo_numberEnd_104 : decode b_Wo_numberEnd 104 = .ok (.goto 5, 3) := by decide +kernel
theorem d_Wo_numberEnd_107 : decode b_Wo_numberEnd 107 = .ok (.lload 5, 2) := by decide +kernel
theorem d_Wo_numberEnd_109 : decode b_Wo_numberEnd 109 = .ok (.lstore 5, 2) := by decide +kernel
theorem d_Wo_numberEnd_111 : decode b_Wo_numberEnd 111 = .ok (.iload 4, 2) := by decide +kernel
theorem d_Wo_numberEnd_113 : decode b_Wo_numberEnd 113 = .ok (.iload_n 3, 1) := by decide +kernel
theorem d_Wo_numberEnd_114 : decode b_Wo_numberEnd 114 = .ok (.if_icmp .eq 30, 3) := by decide +kernel
theorem d_Wo_numberEnd_117 : decode b_Wo_numberEnd 117 = .ok (.iload 4, 2) := by decide +kernel
theorem d_Wo_numberEnd_119 : decode b_Wo_numberEnd 119 = .ok (.iload_n 3, 1) := by decide +kernel
theorem d_Wo_numberEnd_120 : decode b_Wo_numberEnd 120 = .ok (.isub, 1) := by decide +kernel
theorem d_Wo_numberEnd_121 : decode b_Wo_numberEnd 121 = .ok (.bipush 10, 2) := by decide +kernel
theorem d_Wo_numberEnd_123 : decode b_Wo_numberEnd 123 = .ok (.if_icmp .gt 21, 3) := by decide +kernel
theorem d_Wo_numberEnd_126 : decode b_Wo_numberEnd 126 = .ok (.lload 5, 2) := by decide +kernel
theorem d_Wo_numberEnd_128 : decode b_Wo_numberEnd 128 = .ok (.ldc2_w 74, 3) := by decide +kernel
theorem d_Wo_numberEnd_131 : decode b_Wo_numberEnd 131 = .ok (.lcmp, 1) := by decide +kernel
theorem d_Wo_numberEnd_132 : decode b_Wo_numberEnd 132 = .ok (.ifCond .lt 12, 3) := by decide +kernel
theorem d_Wo_numberEnd_135 : decode b_Wo_numberEnd 135 = .ok (.lload 5, 2) := by decide +kernel
theorem d_Wo_numberEnd_137 : decode b_Wo_numberEnd 137 = .ok (.ldc2_w 76, 3) := by decide +kernel
theorem d_Wo_numberEnd_140 : decode b_Wo_numberEnd 140 = .ok (.lcmp, 1) := by decide +kernel
theorem d_Wo_numberEnd_141 : decode b_Wo_numberEnd 141 = .ok (.ifCond .le 5, 3) := by decide +kernel
theorem d_Wo_numberEnd_144 : decode b_Wo_numberEnd 144 = .ok (.iconst (-1), 1) := by decide +kernel
theorem d_Wo_numberEnd_145 : decode b_Wo_numberEnd 145 = .ok (.ireturn, 1) := by decide +kernel
theorem d_Wo_numberEnd_146 : decode b_Wo_numberEnd 146 = .ok (.aload_n 0, 1) := by decide +kernel
theorem d_Wo_numberEnd_147 : decode b_Wo_numberEnd 147 = .ok (.iconst 2, 1) := by decide +kernel
theorem d_Wo_numberEnd_148 : decode b_Wo_numberEnd 148 = .ok (.lload 5, 2) := by decide +kernel
theorem d_Wo_numberEnd_150 : decode b_Wo_numberEnd 150 = .ok (.l2i, 1) := by decide +kernel
theorem d_Wo_numberEnd_151 : decode b_Wo_numberEnd 151 = .ok (.iload_n 1, 1) := by decide +kernel
theorem d_Wo_numberEnd_152 : decode b_Wo_numberEnd 152 = .ok (.invokevirtual 43, 3) := by decide +kernel
theorem d_Wo_numberEnd_155 : decode b_Wo_numberEnd 155 = .ok (.iload 4, 2) := by decide +kernel
theorem d_Wo_numberEnd_157 : decode b_Wo_numberEnd 157 = .ok (.ireturn, 1) := by decide +kernel
abbrev rm_Wo_numberEnd : Room := { frames := 1, cells := 0, slots := 0, locals := 23 }
set_option maxHeartbeats 4000000 in
set_option maxRecDepth 100000 in
/-- numberEnd(i) -/
theorem c_Wo_numberEnd (l : Launch) (D : va_G) (g : Nat → ClassId) (h0 : Nat) (i9 : Nat) (r_kind : Nat) (r_value : Nat) (r_at : Nat) (f_after : Int32) (nm : Nat) (ct : Nat) (tx : Nat) (e9 : Nat) (d_kind : Nat → Int32) (d_value : Nat → Int32) (d_at : Nat → Int32) (N : Nat) (ft : Nat → Int32) (k : Nat) (sz : Nat) (hN : N < 2 ^ 24) (he : e9 ≤ N) (hi9 : i9 < e9) (hct : ct < 6001) (hW : WdI ct k d_kind d_value) : Met l y_Wo_numberEnd (mw y_Wo_numberEnd b_Wo_numberEnd 7 (some .int)) (rm_Wo_numberEnd) (PC g D [] [.ref h0, .int (nI i9)] sz [(h0, .inr (8, [.ref r_kind, .ref r_value, .ref r_at, .int f_after, .ref nm, .int (nI ct), .ref tx, .int (nI e9)])), (r_kind, .inl (g 0, 6002, .inl d_kind)), (r_value, .inl (g 0, 6002, .inl d_value)), (r_at, .inl (g 0, 6002, .inl d_at)), (tx, .inl (g 1, N, .inl ft))]) (va_Qi (fun (r : Int32) (u : (Nat → Int32) × (Nat → Int32) × (Nat → Int32) × Nat) => WdI u.2.2.2 k u.1 u.2.1 ∧ ((r = -1 ∧ u.2.2.2 = ct) ∨ ∃ jr : Nat, r = nI jr ∧ i9 < jr ∧ jr ≤ e9 ∧ u.2.2.2 = ct + 1)) (QW D (va_A [(h0, .inr (8, [.ref r_kind, .ref r_value, .ref r_at, .int f_after, .ref nm, .int (nI ct), .ref tx, .int (nI e9)])), (r_kind, .inl (g 0, 6002, .inl d_kind)), (r_value, .inl (g 0, 6002, .inl d_value)), (r_at, .inl (g 0, 6002, .inl d_at)), (tx, .inl (g 1, N, .inl ft))] sz) (fun u : (Nat → Int32) × (Nat → Int32) × (Nat → Int32) × Nat => [(h0, .inr (8, [.ref r_kind, .ref r_value, .ref r_at, .int f_after, .ref nm, .int (nI u.2.2.2), .ref tx, .int (nI e9)])), (r_kind, .inl (g 0, 6002, .inl u.1)), (r_value, .inl (g 0, 6002, .inl u.2.1)), (r_at, .inl (g 0, 6002, .inl u.2.2.1)), (tx, .inl (g 1, N, .inl ft))])) (va_A [(h0, .inr (8, [.ref r_kind, .ref r_value, .ref r_at, .int f_after, .ref nm, .int (nI ct), .ref tx, .int (nI e9)])), (r_kind, .inl (g 0, 6002, .inl d_kind)), (r_value, .inl (g 0, 6002, .inl d_value)), (r_at, .inl (g 0, 6002, .inl d_at)), (tx, .inl (g 1, N, .inl ft))] sz)) 0 0 (va_A [(h0, .inr (8, [.ref r_kind, .ref r_value, .ref r_at, .int f_after, .ref nm, .int (nI ct), .ref tx, .int (nI e9)])), (r_kind, .inl (g 0, 6002, .inl d_kind)), (r_value, .inl (g 0, 6002, .inl d_value)), (r_at, .inl (g 0, 6002, .inl d_at)), (tx, .inl (g 1, N, .inl ft))] sz) := by
  refine ofI (by decide +kernel) (Nat.le_of_ble_eq_true rfl) ?_
  intro p e s m args below meth c A Q ls H locs G hsz hP hD hS hl hret
  subst hsz
  have hl : lv_has ls 7 [(0, .ref h0), (1, .int (nI i9))] := hl
  refine lv_aload_n G.1 G.2.1 d_Wo_numberEnd_0 rfl (lv_at hl 0 rfl) ?_
  refine kg (ci := 8) G iWo hP 0 rfl rfl 6 (by decide) q558 rfl rfl d_Wo_numberEnd_1 ?_
  refine lv_iload_n G.1 G.2.1 d_Wo_numberEnd_4 rfl (lv_at hl 1 rfl) ?_
  refine kbald G hP 4 1 rfl rfl (by omega) (by omega) d_Wo_numberEnd_5 ?_
  refine lv_bipush (v := nI 45) G.1 G.2.1 d_Wo_numberEnd_6 (by decide) ?_
  have J_1 : ∀ (e1 : Nat), (e1 ≤ 1) → ∀ (H : Heap) (locs : List Loc), va_P D CL [(h0, .inr (8, [.ref r_kind, .ref r_value, .ref r_at, .int f_after, .ref nm, .int (nI ct), .ref tx, .int (nI e9)])), (r_kind, .inl (g 0, 6002, .inl d_kind)), (r_value, .inl (g 0, 6002, .inl d_value)), (r_at, .inl (g 0, 6002, .inl d_at)), (tx, .inl (g 1, N, .inl ft))] H → va_D A [(h0, .inr (8, [.ref r_kind, .ref r_value, .ref r_at, .int f_after, .ref nm, .int (nI ct), .ref tx, .int (nI e9)])), (r_kind, .inl (g 0, 6002, .inl d_kind)), (r_value, .inl (g 0, 6002, .inl d_value)), (r_at, .inl (g 0, 6002, .inl d_at)), (tx, .inl (g 1, N, .inl ft))] → va_S A s.heap H locs → ∀ ls, lv_has ls 7 [(0, .ref h0), (1, .int (nI i9))] → W p l e rm_Wo_numberEnd s m args below meth c H locs 0 0 Q (F0 m 16 ls [.int (nI e1)]) := by
    intro e1 he1 H locs hP hD hS ls hl
    refine lv_istore_n (lv' := [(2, .int (nI e1)), (0, .ref h0), (1, .int (nI i9))]) G.1 G.2.1 d_Wo_numberEnd_16 rfl hl (by decide) rfl (fun ls hl => ?_)
    refine lv_iload_n G.1 G.2.1 d_Wo_numberEnd_17 rfl (lv_at hl 0 rfl) ?_
    have J_2 : ∀ (s1 : Nat), (i9 ≤ s1) → (s1 ≤ i9 + 1) → ∀ (H : Heap) (locs : List Loc), va_P D CL [(h0, .inr (8, [.ref r_kind, .ref r_value, .ref r_at, .int f_after, .ref nm, .int (nI ct), .ref tx, .int (nI e9)])), (r_kind, .inl (g 0, 6002, .inl d_kind)), (r_value, .inl (g 0, 6002, .inl d_value)), (r_at, .inl (g 0, 6002, .inl d_at)), (tx, .inl (g 1, N, .inl ft))] H → va_D A [(h0, .inr (8, [.ref r_kind, .ref r_value, .ref r_at, .int f_after, .ref nm, .int (nI ct), .ref tx, .int (nI e9)])), (r_kind, .inl (g 0, 6002, .inl d_kind)), (r_value, .inl (g 0, 6002, .inl d_value)), (r_at, .inl (g 0, 6002, .inl d_at)), (tx, .inl (g 1, N, .inl ft))] → va_S A s.heap H locs → ∀ ls, lv_has ls 7 [(2, .int (nI e1)), (0, .ref h0), (1, .int (nI i9))] → W p l e rm_Wo_numberEnd s m args below meth c H locs 0 0 Q (F0 m 28 ls [.int (nI s1)]) := by
      intro s1 hs1 hs2 H locs hP hD hS ls hl
      refine lv_istore_n (lv' := [(3, .int (nI s1)), (2, .int (nI e1)), (0, .ref h0), (1, .int (nI i9))]) G.1 G.2.1 d_Wo_numberEnd_28 rfl hl (by decide) rfl (fun ls hl => ?_)
      refine lv_iload_n G.1 G.2.1 d_Wo_numberEnd_29 rfl (lv_at hl 0 rfl) ?_
      refine lv_istore (lv' := [(4, .int (nI s1)), (3, .int (nI s1)), (2, .int (nI e1)), (0, .ref h0), (1, .int (nI i9))]) G.1 G.2.1 d_Wo_numberEnd_30 hl (by decide) rfl (fun ls hl => ?_)
      refine lv_lconst (v := 0) G.1 G.2.1 d_Wo_numberEnd_32 (by decide) ?_
      refine lv_lstore (lv' := [(5, .long 0), (4, .int (nI s1)), (3, .int (nI s1)), (2, .int (nI e1)), (0, .ref h0), (1, .int (nI i9))]) G.1 G.2.1 d_Wo_numberEnd_33 hl (by decide) rfl (fun ls hl => ?_)
      have L_3 : ∀ (k_L_3 : Nat) (j : Nat) (x : Int64), (e9 - j) < k_L_3 → (s1 ≤ j) → (j ≤ e9) → ∀ (H : Heap) (locs : List Loc), va_P D CL [(h0, .inr (8, [.ref r_kind, .ref r_value, .ref r_at, .int f_after, .ref nm, .int (nI ct), .ref tx, .int (nI e9)])), (r_kind, .inl (g 0, 6002, .inl d_kind)), (r_value, .inl (g 0, 6002, .inl d_value)), (r_at, .inl (g 0, 6002, .inl d_at)), (tx, .inl (g 1, N, .inl ft))] H → va_D A [(h0, .inr (8, [.ref r_kind, .ref r_value, .ref r_at, .int f_after, .ref nm, .int (nI ct), .ref tx, .int (nI e9)])), (r_kind, .inl (g 0, 6002, .inl d_kind)), (r_value, .inl (g 0, 6002, .inl d_value)), (r_at, .inl (g 0, 6002, .inl d_at)), (tx, .inl (g 1, N, .inl ft))] → va_S A s.heap H locs → ∀ ls, lv_has ls 7 [(3, .int (nI s1)), (2, .int (nI e1)), (0, .ref h0), (1, .int (nI i9)), (4, .int (nI j)), (5, .long x)] → W p l e rm_Wo_numberEnd s m args below meth c H locs 0 0 Q (F0 m 35 ls []) := by
        intro k_L_3
        induction k_L_3 with
        | zero => intro j x hk_L_3; exact absurd hk_L_3 (Nat.not_lt_zero _)
        | succ k_L_3 ih_L_3 =>
          intro j x hk_L_3 hj hje H locs hP hD hS ls hl
          refine lv_iload G.1 G.2.1 d_Wo_numberEnd_35 (lv_at hl 4 rfl) ?_
          refine lv_aload_n G.1 G.2.1 d_Wo_numberEnd_37 rfl (lv_at hl 2 rfl) ?_
          refine kg (ci := 8) G iWo hP 0 rfl rfl 7 (by decide) q559 rfl rfl d_Wo_numberEnd_38 ?_
          refine lv_icmp_ge (tgt := 97) G.1 G.2.1 d_Wo_numberEnd_41 (by decide) (fun c41 => ?_) (fun c41 => ?_)
          · skip
            have c41 : e9 ≤ j := (nI_leI (by omega) (by omega)).mp c41
            refine lv_iload_n G.1 G.2.1 d_Wo_numberEnd_97 rfl (lv_at hl 1 rfl) ?_
            have J_4 : ∀ (y2 : Int64), ∀ (H : Heap) (locs : List Loc), va_P D CL [(h0, .inr (8, [.ref r_kind, .ref r_value, .ref r_at, .int f_after, .ref nm, .int (nI ct), .ref tx, .int (nI e9)])), (r_kind, .inl (g 0, 6002, .inl d_kind)), (r_value, .inl (g 0, 6002, .inl d_value)), (r_at, .inl (g 0, 6002, .inl d_at)), (tx, .inl (g 1, N, .inl ft))] H → va_D A [(h0, .inr (8, [.ref r_kind, .ref r_value, .ref r_at, .int f_after, .ref nm, .int (nI ct), .ref tx, .int (nI e9)])), (r_kind, .inl (g 0, 6002, .inl d_kind)), (r_value, .inl (g 0, 6002, .inl d_value)), (r_at, .inl (g 0, 6002, .inl d_at)), (tx, .inl (g 1, N, .inl ft))] → va_S A s.heap H locs → ∀ ls, lv_has ls 7 [(3, .int (nI s1)), (2, .int (nI e1)), (0, .ref h0), (1, .int (nI i9)), (4, .int (nI j)), (5, .long x)] → W p l e rm_Wo_numberEnd s m args below meth c H locs 0 0 Q (F0 m 109 ls [.long y2]) := by
              intro y2  H locs hP hD hS ls hl
              refine lv_lstore (lv' := [(5, .long y2), (3, .int (nI s1)), (2, .int (nI e1)), (0, .ref h0), (1, .int (nI i9)), (4, .int (nI j))]) G.1 G.2.1 d_Wo_numberEnd_109 hl (by decide) rfl (fun ls hl => ?_)
              refine lv_iload G.1 G.2.1 d_Wo_numberEnd_111 (lv_at hl 5 rfl) ?_
              refine lv_iload_n G.1 G.2.1 d_Wo_numberEnd_113 rfl (lv_at hl 1 rfl) ?_
              refine lv_icmp_eq (tgt := 144) G.1 G.2.1 d_Wo_numberEnd_114 (by decide) (fun c114 => ?_) (fun c114 => ?_)
              · skip
                have c114 : j = s1 := (nI_eq (by omega) (by omega)).mp c114
                refine lv_iconst (v := (-1)) G.1 G.2.1 d_Wo_numberEnd_144 (by decide) ?_
                refine hret (-1) (d_kind, d_value, d_at, ct) _ _ _ _ _ ls (show WdI ct k d_kind d_value ∧ ((((-1)) = -1 ∧ ct = ct) ∨ ∃ jr : Nat, ((-1)) = nI jr ∧ i9 < jr ∧ jr ≤ e9 ∧ ct = ct + 1) from ⟨hW, Or.inl ⟨rfl, rfl⟩⟩) (hP.sub [0, 1, 2, 3, 4] rfl) (hD.sub [0, 1, 2, 3, 4] (by decide) rfl) hS (Nat.le_of_ble_eq_true rfl) (Nat.le_of_ble_eq_true rfl) d_Wo_numberEnd_145
              · skip
                have c114 : ¬ (j = s1) := fun h => c114 ((nI_eq (by omega) (by omega)).mpr h)
                refine lv_iload G.1 G.2.1 d_Wo_numberEnd_117 (lv_at hl 5 rfl) ?_
                refine lv_iload_n G.1 G.2.1 d_Wo_numberEnd_119 rfl (lv_at hl 1 rfl) ?_
                refine lv_isub G.1 G.2.1 d_Wo_numberEnd_120 ?_
                refine tpi (w := nI (j - s1)) (pk_sub (by omega)) ?_
                refine lv_bipush (v := nI 10) G.1 G.2.1 d_Wo_numberEnd_121 (by decide) ?_
                refine lv_icmp_gt (tgt := 144) G.1 G.2.1 d_Wo_numberEnd_123 (by decide) (fun c123 => ?_) (fun c123 => ?_)
                · skip
                  have c123 : 10 < (j - s1) := (nI_ltI (by omega) (by omega)).mp c123
                  refine lv_iconst (v := (-1)) G.1 G.2.1 d_Wo_numberEnd_144 (by decide) ?_
                  refine hret (-1) (d_kind, d_value, d_at, ct) _ _ _ _ _ ls (show WdI ct k d_kind d_value ∧ ((((-1)) = -1 ∧ ct = ct) ∨ ∃ jr : Nat, ((-1)) = nI jr ∧ i9 < jr ∧ jr ≤ e9 ∧ ct = ct + 1) from ⟨hW, Or.inl ⟨rfl, rfl⟩⟩) (hP.sub [0, 1, 2, 3, 4] rfl) (hD.sub [0, 1, 2, 3, 4] (by decide) rfl) hS (Nat.le_of_ble_eq_true rfl) (Nat.le_of_ble_eq_true rfl) d_Wo_numberEnd_145
                · skip
                  have c123 : ¬ (10 < (j - s1)) := fun h => c123 ((nI_ltI (by omega) (by omega)).mpr h)
                  refine lv_lload G.1 G.2.1 d_Wo_numberEnd_126 (lv_at hl 0 rfl) ?_
                  refine lv_ldc2 (v := (-2147483648)) G.1 G.2.1 G.2.2.2.2.2.2.1 (G.2.2.2.2.2.1 _ q1292) d_Wo_numberEnd_128 ?_
                  refine W.eq (g2 := F0 m 131 ls [.long (-2147483648), .long y2]) rfl ?_
                  refine W.lcmp G.1 G.2.1 d_Wo_numberEnd_131 ?_
                  refine lv_topi (fun w_5 hw_5 => ?_)
                  refine lv_if_lt (tgt := 144) G.1 G.2.1 d_Wo_numberEnd_132 (by decide) (fun c132 => ?_) (fun c132 => ?_)
                  · skip
                    refine lv_iconst (v := (-1)) G.1 G.2.1 d_Wo_numberEnd_144 (by decide) ?_
                    refine hret (-1) (d_kind, d_value, d_at, ct) _ _ _ _ _ ls (show WdI ct k d_kind d_value ∧ ((((-1)) = -1 ∧ ct = ct) ∨ ∃ jr : Nat, ((-1)) = nI jr ∧ i9 < jr ∧ jr ≤ e9 ∧ ct = ct + 1) from ⟨hW, Or.inl ⟨rfl, rfl⟩⟩) (hP.sub [0, 1, 2, 3, 4] rfl) (hD.sub [0, 1, 2, 3, 4] (by decide) rfl) hS (Nat.le_of_ble_eq_true rfl) (Nat.le_of_ble_eq_true rfl) d_Wo_numberEnd_145
                  · skip
                    refine lv_lload G.1 G.2.1 d_Wo_numberEnd_135 (lv_at hl 0 rfl) ?_
                    refine lv_ldc2 (v := (2147483647)) G.1 G.2.1 G.2.2.2.2.2.2.1 (G.2.2.2.2.2.1 _ q1293) d_Wo_numberEnd_137 ?_
                    refine W.lcmp G.1 G.2.1 d_Wo_numberEnd_140 ?_
                    refine lv_topi (fun w_6 hw_6 => ?_)
                    refine lv_if_le (tgt := 146) G.1 G.2.1 d_Wo_numberEnd_141 (by decide) (fun c141 => ?_) (fun c141 => ?_)
                    · skip
                      refine lv_aload_n G.1 G.2.1 d_Wo_numberEnd_146 rfl (lv_at hl 3 rfl) ?_
                      refine lv_iconst (v := nI 2) G.1 G.2.1 d_Wo_numberEnd_147 (by decide) ?_
                      refine lv_lload G.1 G.2.1 d_Wo_numberEnd_148 (lv_at hl 0 rfl) ?_
                      refine lv_l2i G.1 G.2.1 d_Wo_numberEnd_150 rfl ?_
                      refine lv_iload_n G.1 G.2.1 d_Wo_numberEnd_151 rfl (lv_at hl 4 rfl) ?_
                      refine kEv (wr := [(tx, .inl (g 1, N, .inl ft))]) G (kV (As := [.int (nI 2), .int y2.toInt32, .int (nI i9)]) (rest := []) G hP hD hS [0, 1, 2, 3] rfl rfl (c_Wo_add l D g h0 (nI 2) y2.toInt32 (nI i9) r_kind r_value r_at f_after nm ct tx (nI e9) d_kind d_value d_at H.size (by omega)) w_Wo_add q1283 rfl rfl ⟨Nat.le_of_ble_eq_true rfl, Nat.le_of_ble_eq_true rfl⟩ (fun _ h => absurd h List.not_mem_nil) 0 (ci := 8) rfl rfl rfl hl.1 rfl (Nat.le_of_ble_eq_true rfl) rfl ⟨Nat.le_of_ble_eq_true rfl, (Nat.le_of_ble_eq_true rfl)⟩ d_Wo_numberEnd_152) hP hD hS [0, 1, 2, 3] [4] rfl rfl rfl rfl (fun u_8 H locs hw hP hD hS hzH => ?_)
                      have hw : True := hw
                      have hP : va_P D CL [(tx, .inl (g 1, N, .inl ft)), (h0, .inr (8, [.ref r_kind, .ref r_value, .ref r_at, .int f_after, .ref nm, .int (nI (ct + 1)), .ref tx, .int (nI e9)])), (r_kind, .inl (g 0, 6002, .inl (upd d_kind ct (nI 2)))), (r_value, .inl (g 0, 6002, .inl (upd d_value ct y2.toInt32))), (r_at, .inl (g 0, 6002, .inl (upd d_at ct (nI i9))))] H := hP
                      have hD : va_D A [(tx, .inl (g 1, N, .inl ft)), (h0, .inr (8, [.ref r_kind, .ref r_value, .ref r_at, .int f_after, .ref nm, .int (nI (ct + 1)), .ref tx, .int (nI e9)])), (r_kind, .inl (g 0, 6002, .inl (upd d_kind ct (nI 2)))), (r_value, .inl (g 0, 6002, .inl (upd d_value ct y2.toInt32))), (r_at, .inl (g 0, 6002, .inl (upd d_at ct (nI i9))))] := hD
                      refine W.eq (g2 := F0 m 155 ls []) rfl ?_
                      refine lv_iload G.1 G.2.1 d_Wo_numberEnd_155 (lv_at hl 5 rfl) ?_
                      refine hret (nI j) ((upd d_kind ct (nI 2)), (upd d_value ct y2.toInt32), (upd d_at ct (nI i9)), ct + 1) _ _ _ _ _ ls (show WdI (ct + 1) k ((upd d_kind ct (nI 2))) ((upd d_value ct y2.toInt32)) ∧ (((nI j) = -1 ∧ (ct + 1) = ct) ∨ ∃ jr : Nat, (nI j) = nI jr ∧ i9 < jr ∧ jr ≤ e9 ∧ (ct + 1) = ct + 1) from ⟨hW.add (fun h => absurd h (by decide)), Or.inr ⟨j, rfl, by omega, by omega, rfl⟩⟩) (hP.sub [1, 2, 3, 4, 0] rfl) (hD.sub [1, 2, 3, 4, 0] (by decide) rfl) hS (Nat.le_of_ble_eq_true rfl) (Nat.le_of_ble_eq_true rfl) d_Wo_numberEnd_157
                    · skip
                      refine lv_iconst (v := (-1)) G.1 G.2.1 d_Wo_numberEnd_144 (by decide) ?_
                      refine hret (-1) (d_kind, d_value, d_at, ct) _ _ _ _ _ ls (show WdI ct k d_kind d_value ∧ ((((-1)) = -1 ∧ ct = ct) ∨ ∃ jr : Nat, ((-1)) = nI jr ∧ i9 < jr ∧ jr ≤ e9 ∧ ct = ct + 1) from ⟨hW, Or.inl ⟨rfl, rfl⟩⟩) (hP.sub [0, 1, 2, 3, 4] rfl) (hD.sub [0, 1, 2, 3, 4] (by decide) rfl) hS (Nat.le_of_ble_eq_true rfl) (Nat.le_of_ble_eq_true rfl) d_Wo_numberEnd_145
            refine lv_if_eq (tgt := 107) G.1 G.2.1 d_Wo_numberEnd_98 (by decide) (fun c98 => ?_) (fun c98 => ?_)
            · skip
              have c98 : e1 = 0 := (nI_z_eq (by omega)).mp c98
              refine lv_lload G.1 G.2.1 d_Wo_numberEnd_107 (lv_at hl 5 rfl) ?_
              exact J_4 x  _ _ (hP.sub [0, 1, 2, 3, 4] rfl) (hD.sub [0, 1, 2, 3, 4] (by decide) rfl) hS ls (lv_sub hl [0, 1, 2, 3, 4, 5] rfl)
            · skip
              have c98 : ¬ (e1 = 0) := fun h => c98 ((nI_z_eq (by omega)).mpr h)
              refine lv_lload G.1 G.2.1 d_Wo_numberEnd_101 (lv_at hl 5 rfl) ?_
              refine W.eq (g2 := F0 m 103 ls [.long x]) rfl ?_
              refine lv_lneg G.1 G.2.1 d_Wo_numberEnd_103 ?_
              refine lv_goto (tgt := 109) G.1 G.2.1 d_Wo_numberEnd_104 (by decide) ?_
              exact J_4 (-x)  _ _ (hP.sub [0, 1, 2, 3, 4] rfl) (hD.sub [0, 1, 2, 3, 4] (by decide) rfl) hS ls (lv_sub hl [0, 1, 2, 3, 4, 5] rfl)
          · skip
            have c41 : ¬ (e9 ≤ j) := fun h => c41 ((nI_leI (by omega) (by omega)).mpr h)
            refine lv_aload_n G.1 G.2.1 d_Wo_numberEnd_44 rfl (lv_at hl 2 rfl) ?_
            refine kg (ci := 8) G iWo hP 0 rfl rfl 6 (by decide) q558 rfl rfl d_Wo_numberEnd_45 ?_
            refine lv_iload G.1 G.2.1 d_Wo_numberEnd_48 (lv_at hl 4 rfl) ?_
            refine W.eq (g2 := F0 m 50 ls [.int (nI j), .ref tx]) rfl ?_
            refine kbald G hP 4 1 rfl rfl (by omega) (by omega) d_Wo_numberEnd_50 ?_
            refine kEi (wr := [(h0, .inr (8, [.ref r_kind, .ref r_value, .ref r_at, .int f_after, .ref nm, .int (nI ct), .ref tx, .int (nI e9)])), (r_kind, .inl (g 0, 6002, .inl d_kind)), (r_value, .inl (g 0, 6002, .inl d_value)), (r_at, .inl (g 0, 6002, .inl d_at)), (tx, .inl (g 1, N, .inl ft))]) G (kS (As := [.int (ft j)]) (rest := []) G hP hD hS [] rfl rfl (c_Wo_isDigit l D g (ft j) H.size ) w_Wo_isDigit q1279 rfl rfl ⟨Nat.le_of_ble_eq_true rfl, Nat.le_of_ble_eq_true rfl⟩ (fun _ h => absurd h List.not_mem_nil) hl.1 rfl (Nat.le_of_ble_eq_true rfl) rfl ⟨Nat.le_of_ble_eq_true rfl, (Nat.le_of_ble_eq_true rfl)⟩ d_Wo_numberEnd_51) hP hD hS [] [0, 1, 2, 3, 4] rfl rfl rfl rfl (fun r_9 u_10 H locs hw hP hD hS hzH => ?_)
            have hw : (r_9 = 1 ∧ isD (ft j)) ∨ (r_9 = 0 ∧ ¬ isD (ft j)) := hw
            have hP : va_P D CL [(h0, .inr (8, [.ref r_kind, .ref r_value, .ref r_at, .int f_after, .ref nm, .int (nI ct), .ref tx, .int (nI e9)])), (r_kind, .inl (g 0, 6002, .inl d_kind)), (r_value, .inl (g 0, 6002, .inl d_value)), (r_at, .inl (g 0, 6002, .inl d_at)), (tx, .inl (g 1, N, .inl ft))] H := hP
            have hD : va_D A [(h0, .inr (8, [.ref r_kind, .ref r_value, .ref r_at, .int f_after, .ref nm, .int (nI ct), .ref tx, .int (nI e9)])), (r_kind, .inl (g 0, 6002, .inl d_kind)), (r_value, .inl (g 0, 6002, .inl d_value)), (r_at, .inl (g 0, 6002, .inl d_at)), (tx, .inl (g 1, N, .inl ft))] := hD
            rcases hw with ⟨hw, hb54⟩ | ⟨hw, hb54⟩
            · skip
              refine tpi (w := nI 1) hw ?_
              refine lv_if_eq (tgt := 97) G.1 G.2.1 d_Wo_numberEnd_54 (by decide) (fun c54 => absurd c54 (by decide)) (fun c54 => ?_)
              refine lv_iload G.1 G.2.1 d_Wo_numberEnd_57 (lv_at hl 4 rfl) ?_
              refine lv_iload_n G.1 G.2.1 d_Wo_numberEnd_59 rfl (lv_at hl 0 rfl) ?_
              refine lv_isub G.1 G.2.1 d_Wo_numberEnd_60 ?_
              refine tpi (w := nI (j - s1)) (pk_sub (by omega)) ?_
              refine lv_bipush (v := nI 10) G.1 G.2.1 d_Wo_numberEnd_61 (by decide) ?_
              have J_11 : ∀ (y : Int64), ∀ (H : Heap) (locs : List Loc), va_P D CL [(h0, .inr (8, [.ref r_kind, .ref r_value, .ref r_at, .int f_after, .ref nm, .int (nI ct), .ref tx, .int (nI e9)])), (r_kind, .inl (g 0, 6002, .inl d_kind)), (r_value, .inl (g 0, 6002, .inl d_value)), (r_at, .inl (g 0, 6002, .inl d_at)), (tx, .inl (g 1, N, .inl ft))] H → va_D A [(h0, .inr (8, [.ref r_kind, .ref r_value, .ref r_at, .int f_after, .ref nm, .int (nI ct), .ref tx, .int (nI e9)])), (r_kind, .inl (g 0, 6002, .inl d_kind)), (r_value, .inl (g 0, 6002, .inl d_value)), (r_at, .inl (g 0, 6002, .inl d_at)), (tx, .inl (g 1, N, .inl ft))] → va_S A s.heap H locs → ∀ ls, lv_has ls 7 [(3, .int (nI s1)), (2, .int (nI e1)), (0, .ref h0), (1, .int (nI i9)), (4, .int (nI j)), (5, .long x)] → W p l e rm_Wo_numberEnd s m args below meth c H locs 0 0 Q (F0 m 89 ls [.long y]) := by
                intro y  H locs hP hD hS ls hl
                refine lv_lstore (lv' := [(5, .long y), (3, .int (nI s1)), (2, .int (nI e1)), (0, .ref h0), (1, .int (nI i9)), (4, .int (nI j))]) G.1 G.2.1 d_Wo_numberEnd_89 hl (by decide) rfl (fun ls hl => ?_)
                refine lv_iinc (v := nI (j + 1)) (lv' := [(4, .int (nI (j + 1))), (5, .long y), (3, .int (nI s1)), (2, .int (nI e1)), (0, .ref h0), (1, .int (nI i9))]) G.1 G.2.1 d_Wo_numberEnd_91 hl (k := 5) rfl (show (nI j) + Int32.ofInt 1 = nI (j + 1) from nI_1 _) (by decide) rfl (fun ls hl => ?_)
                refine lv_goto (tgt := 35) G.1 G.2.1 d_Wo_numberEnd_94 (by decide) ?_
                exact ih_L_3 (j + 1) y (by omega) (by omega) (by omega) _ _ (hP.sub [0, 1, 2, 3, 4] rfl) (hD.sub [0, 1, 2, 3, 4] (by decide) rfl) hS ls (lv_sub hl [2, 3, 4, 5, 0, 1] rfl)
              refine lv_icmp_ge (tgt := 87) G.1 G.2.1 d_Wo_numberEnd_63 (by decide) (fun c63 => ?_) (fun c63 => ?_)
              · skip
                have c63 : 10 ≤ (j - s1) := (nI_leI (by omega) (by omega)).mp c63
                refine lv_lload G.1 G.2.1 d_Wo_numberEnd_87 (lv_at hl 5 rfl) ?_
                exact J_11 x  _ _ (hP.sub [0, 1, 2, 3, 4] rfl) (hD.sub [0, 1, 2, 3, 4] (by decide) rfl) hS ls (lv_sub hl [0, 1, 2, 3, 4, 5] rfl)
              · skip
                have c63 : ¬ (10 ≤ (j - s1)) := fun h => c63 ((nI_leI (by omega) (by omega)).mpr h)
                refine lv_lload G.1 G.2.1 d_Wo_numberEnd_66 (lv_at hl 5 rfl) ?_
                refine lv_ldc2 (v := (10)) G.1 G.2.1 G.2.2.2.2.2.2.1 (G.2.2.2.2.2.1 _ q1291) d_Wo_numberEnd_68 ?_
                refine lv_lmul G.1 G.2.1 d_Wo_numberEnd_71 ?_
                refine lv_aload_n G.1 G.2.1 d_Wo_numberEnd_72 rfl (lv_at hl 2 rfl) ?_
                refine W.eq (g2 := F0 m 73 ls [.ref h0, .long (x * (10))]) rfl ?_
                refine kg (ci := 8) G iWo hP 0 rfl rfl 6 (by decide) q558 rfl rfl d_Wo_numberEnd_73 ?_
                refine lv_iload G.1 G.2.1 d_Wo_numberEnd_76 (lv_at hl 4 rfl) ?_
                refine kbald G hP 4 1 rfl rfl (by omega) (by omega) d_Wo_numberEnd_78 ?_
                refine lv_bipush (v := nI 48) G.1 G.2.1 d_Wo_numberEnd_79 (by decide) ?_
                refine lv_isub G.1 G.2.1 d_Wo_numberEnd_81 ?_
                refine lv_i2l G.1 G.2.1 d_Wo_numberEnd_82 rfl ?_
                refine lv_ladd G.1 G.2.1 d_Wo_numberEnd_83 ?_
                refine lv_goto (tgt := 89) G.1 G.2.1 d_Wo_numberEnd_84 (by decide) ?_
                exact J_11 ((x * (10)) + (((ft j) - (nI 48)).toInt64))  _ _ (hP.sub [0, 1, 2, 3, 4] rfl) (hD.sub [0, 1, 2, 3, 4] (by decide) rfl) hS ls (lv_sub hl [0, 1, 2, 3, 4, 5] rfl)
            · skip
              refine tpi (w := nI 0) hw ?_
              refine lv_if_eq (tgt := 97) G.1 G.2.1 d_Wo_numberEnd_54 (by decide) (fun c54 => ?_) (fun c54 => absurd c54 (by decide))
              refine lv_iload_n G.1 G.2.1 d_Wo_numberEnd_97 rfl (lv_at hl 1 rfl) ?_
              have J_12 : ∀ (y2 : Int64), ∀ (H : Heap) (locs : List Loc), va_P D CL [(h0, .inr (8, [.ref r_kind, .ref r_value, .ref r_at, .int f_after, .ref nm, .int (nI ct), .ref tx, .int (nI e9)])), (r_kind, .inl (g 0, 6002, .inl d_kind)), (r_value, .inl (g 0, 6002, .inl d_value)), (r_at, .inl (g 0, 6002, .inl d_at)), (tx, .inl (g 1, N, .inl ft))] H → va_D A [(h0, .inr (8, [.ref r_kind, .ref r_value, .ref r_at, .int f_after, .ref nm, .int (nI ct), .ref tx, .int (nI e9)])), (r_kind, .inl (g 0, 6002, .inl d_kind)), (r_value, .inl (g 0, 6002, .inl d_value)), (r_at, .inl (g 0, 6002, .inl d_at)), (tx, .inl (g 1, N, .inl ft))] → va_S A s.heap H locs → ∀ ls, lv_has ls 7 [(3, .int (nI s1)), (2, .int (nI e1)), (0, .ref h0), (1, .int (nI i9)), (4, .int (nI j)), (5, .long x)] → W p l e rm_Wo_numberEnd s m args below meth c H locs 0 0 Q (F0 m 109 ls [.long y2]) := by
                intro y2  H locs hP hD hS ls hl
                refine lv_lstore (lv' := [(5, .long y2), (3, .int (nI s1)), (2, .int (nI e1)), (0, .ref h0), (1, .int (nI i9)), (4, .int (nI j))]) G.1 G.2.1 d_Wo_numberEnd_109 hl (by decide) rfl (fun ls hl => ?_)
                refine lv_iload G.1 G.2.1 d_Wo_numberEnd_111 (lv_at hl 5 rfl) ?_
                refine lv_iload_n G.1 G.2.1 d_Wo_numberEnd_113 rfl (lv_at hl 1 rfl) ?_
                refine lv_icmp_eq (tgt := 144) G.1 G.2.1 d_Wo_numberEnd_114 (by decide) (fun c114 => ?_) (fun c114 => ?_)
                · skip
                  have c114 : j = s1 := (nI_eq (by omega) (by omega)).mp c114
                  refine lv_iconst (v := (-1)) G.1 G.2.1 d_Wo_numberEnd_144 (by decide) ?_
                  refine hret (-1) (d_kind, d_value, d_at, ct) _ _ _ _ _ ls (show WdI ct k d_kind d_value ∧ ((((-1)) = -1 ∧ ct = ct) ∨ ∃ jr : Nat, ((-1)) = nI jr ∧ i9 < jr ∧ jr ≤ e9 ∧ ct = ct + 1) from ⟨hW, Or.inl ⟨rfl, rfl⟩⟩) (hP.sub [0, 1, 2, 3, 4] rfl) (hD.sub [0, 1, 2, 3, 4] (by decide) rfl) hS (Nat.le_of_ble_eq_true rfl) (Nat.le_of_ble_eq_true rfl) d_Wo_numberEnd_145
                · skip
                  have c114 : ¬ (j = s1) := fun h => c114 ((nI_eq (by omega) (by omega)).mpr h)
                  refine lv_iload G.1 G.2.1 d_Wo_numberEnd_117 (lv_at hl 5 rfl) ?_
                  refine lv_iload_n G.1 G.2.1 d_Wo_numberEnd_119 rfl (lv_at hl 1 rfl) ?_
                  refine lv_isub G.1 G.2.1 d_Wo_numberEnd_120 ?_
                  refine tpi (w := nI (j - s1)) (pk_sub (by omega)) ?_
                  refine lv_bipush (v := nI 10) G.1 G.2.1 d_Wo_numberEnd_121 (by decide) ?_
                  refine lv_icmp_gt (tgt := 144) G.1 G.2.1 d_Wo_numberEnd_123 (by decide) (fun c123 => ?_) (fun c123 => ?_)
                  · skip
                    have c123 : 10 < (j - s1) := (nI_ltI (by omega) (by omega)).mp c123
                    refine lv_iconst (v := (-1)) G.1 G.2.1 d_Wo_numberEnd_144 (by decide) ?_
                    refine hret (-1) (d_kind, d_value, d_at, ct) _ _ _ _ _ ls (show WdI ct k d_kind d_value ∧ ((((-1)) = -1 ∧ ct = ct) ∨ ∃ jr : Nat, ((-1)) = nI jr ∧ i9 < jr ∧ jr ≤ e9 ∧ ct = ct + 1) from ⟨hW, Or.inl ⟨rfl, rfl⟩⟩) (hP.sub [0, 1, 2, 3, 4] rfl) (hD.sub [0, 1, 2, 3, 4] (by decide) rfl) hS (Nat.le_of_ble_eq_true rfl) (Nat.le_of_ble_eq_true rfl) d_Wo_numberEnd_145
                  · skip
                    have c123 : ¬ (10 < (j - s1)) := fun h => c123 ((nI_ltI (by omega) (by omega)).mpr h)
                    refine lv_lload G.1 G.2.1 d_Wo_numberEnd_126 (lv_at hl 0 rfl) ?_
                    refine lv_ldc2 (v := (-2147483648)) G.1 G.2.1 G.2.2.2.2.2.2.1 (G.2.2.2.2.2.1 _ q1292) d_Wo_numberEnd_128 ?_
                    refine W.eq (g2 := F0 m 131 ls [.long (-2147483648), .long y2]) rfl ?_
                    refine W.lcmp G.1 G.2.1 d_Wo_numberEnd_131 ?_
                    refine lv_topi (fun w_13 hw_13 => ?_)
                    refine lv_if_lt (tgt := 144) G.1 G.2.1 d_Wo_numberEnd_132 (by decide) (fun c132 => ?_) (fun c132 => ?_)
                    · skip
                      refine lv_iconst (v := (-1)) G.1 G.2.1 d_Wo_numberEnd_144 (by decide) ?_
                      refine hret (-1) (d_kind, d_value, d_at, ct) _ _ _ _ _ ls (show WdI ct k d_kind d_value ∧ ((((-1)) = -1 ∧ ct = ct) ∨ ∃ jr : Nat, ((-1)) = nI jr ∧ i9 < jr ∧ jr ≤ e9 ∧ ct = ct + 1) from ⟨hW, Or.inl ⟨rfl, rfl⟩⟩) (hP.sub [0, 1, 2, 3, 4] rfl) (hD.sub [0, 1, 2, 3, 4] (by decide) rfl) hS (Nat.le_of_ble_eq_true rfl) (Nat.le_of_ble_eq_true rfl) d_Wo_numberEnd_145
                    · skip
                      refine lv_lload G.1 G.2.1 d_Wo_numberEnd_135 (lv_at hl 0 rfl) ?_
                      refine lv_ldc2 (v := (2147483647)) G.1 G.2.1 G.2.2.2.2.2.2.1 (G.2.2.2.2.2.1 _ q1293) d_Wo_numberEnd_137 ?_
                      refine W.lcmp G.1 G.2.1 d_Wo_numberEnd_140 ?_
                      refine lv_topi (fun w_14 hw_14 => ?_)
                      refine lv_if_le (tgt := 146) G.1 G.2.1 d_Wo_numberEnd_141 (by decide) (fun c141 => ?_) (fun c141 => ?_)
                      · skip
                        refine lv_aload_n G.1 G.2.1 d_Wo_numberEnd_146 rfl (lv_at hl 3 rfl) ?_
                        refine lv_iconst (v := nI 2) G.1 G.2.1 d_Wo_numberEnd_147 (by decide) ?_
                        refine lv_lload G.1 G.2.1 d_Wo_numberEnd_148 (lv_at hl 0 rfl) ?_
                        refine lv_l2i G.1 G.2.1 d_Wo_numberEnd_150 rfl ?_
                        refine lv_iload_n G.1 G.2.1 d_Wo_numberEnd_151 rfl (lv_at hl 4 rfl) ?_
                        refine kEv (wr := [(tx, .inl (g 1, N, .inl ft))]) G (kV (As := [.int (nI 2), .int y2.toInt32, .int (nI i9)]) (rest := []) G hP hD hS [0, 1, 2, 3] rfl rfl (c_Wo_add l D g h0 (nI 2) y2.toInt32 (nI i9) r_kind r_value r_at f_after nm ct tx (nI e9) d_kind d_value d_at H.size (by omega)) w_Wo_add q1283 rfl rfl ⟨Nat.le_of_ble_eq_true rfl, Nat.le_of_ble_eq_true rfl⟩ (fun _ h => absurd h List.not_mem_nil) 0 (ci := 8) rfl rfl rfl hl.1 rfl (Nat.le_of_ble_eq_true rfl) rfl ⟨Nat.le_of_ble_eq_true rfl, (Nat.le_of_ble_eq_true rfl)⟩ d_Wo_numberEnd_152) hP hD hS [0, 1, 2, 3] [4] rfl rfl rfl rfl (fun u_16 H locs hw hP hD hS hzH => ?_)
                        have hw : True := hw
                        have hP : va_P D CL [(tx, .inl (g 1, N, .inl ft)), (h0, .inr (8, [.ref r_kind, .ref r_value, .ref r_at, .int f_after, .ref nm, .int (nI (ct + 1)), .ref tx, .int (nI e9)])), (r_kind, .inl (g 0, 6002, .inl (upd d_kind ct (nI 2)))), (r_value, .inl (g 0, 6002, .inl (upd d_value ct y2.toInt32))), (r_at, .inl (g 0, 6002, .inl (upd d_at ct (nI i9))))] H := hP
                        have hD : va_D A [(tx, .inl (g 1, N, .inl ft)), (h0, .inr (8, [.ref r_kind, .ref r_value, .ref r_at, .int f_after, .ref nm, .int (nI (ct + 1)), .ref tx, .int (nI e9)])), (r_kind, .inl (g 0, 6002, .inl (upd d_kind ct (nI 2)))), (r_value, .inl (g 0, 6002, .inl (upd d_value ct y2.toInt32))), (r_at, .inl (g 0, 6002, .inl (upd d_at ct (nI i9))))] := hD
                        refine W.eq (g2 := F0 m 155 ls []) rfl ?_
                        refine lv_iload G.1 G.2.1 d_Wo_numberEnd_155 (lv_at hl 5 rfl) ?_
                        refine hret (nI j) ((upd d_kind ct (nI 2)), (upd d_value ct y2.toInt32), (upd d_at ct (nI i9)), ct + 1) _ _ _ _ _ ls (show WdI (ct + 1) k ((upd d_kind ct (nI 2))) ((upd d_value ct y2.toInt32)) ∧ (((nI j) = -1 ∧ (ct + 1) = ct) ∨ ∃ jr : Nat, (nI j) = nI jr ∧ i9 < jr ∧ jr ≤ e9 ∧ (ct + 1) = ct + 1) from ⟨hW.add (fun h => absurd h (by decide)), Or.inr ⟨j, rfl, by omega, by omega, rfl⟩⟩) (hP.sub [1, 2, 3, 4, 0] rfl) (hD.sub [1, 2, 3, 4, 0] (by decide) rfl) hS (Nat.le_of_ble_eq_true rfl) (Nat.le_of_ble_eq_true rfl) d_Wo_numberEnd_157
                      · skip
                        refine lv_iconst (v := (-1)) G.1 G.2.1 d_Wo_numberEnd_144 (by decide) ?_
                        refine hret (-1) (d_kind, d_value, d_at, ct) _ _ _ _ _ ls (show WdI ct k d_kind d_value ∧ ((((-1)) = -1 ∧ ct = ct) ∨ ∃ jr : Nat, ((-1)) = nI jr ∧ i9 < jr ∧ jr ≤ e9 ∧ ct = ct + 1) from ⟨hW, Or.inl ⟨rfl, rfl⟩⟩) (hP.sub [0, 1, 2, 3, 4] rfl) (hD.sub [0, 1, 2, 3, 4] (by decide) rfl) hS (Nat.le_of_ble_eq_true rfl) (Nat.le_of_ble_eq_true rfl) d_Wo_numberEnd_145
              refine lv_if_eq (tgt := 107) G.1 G.2.1 d_Wo_numberEnd_98 (by decide) (fun c98 => ?_) (fun c98 => ?_)
              · skip
                have c98 : e1 = 0 := (nI_z_eq (by omega)).mp c98
                refine lv_lload G.1 G.2.1 d_Wo_numberEnd_107 (lv_at hl 5 rfl) ?_
                exact J_12 x  _ _ (hP.sub [0, 1, 2, 3, 4] rfl) (hD.sub [0, 1, 2, 3, 4] (by decide) rfl) hS ls (lv_sub hl [0, 1, 2, 3, 4, 5] rfl)
              · skip
                have c98 : ¬ (e1 = 0) := fun h => c98 ((nI_z_eq (by omega)).mpr h)
                refine lv_lload G.1 G.2.1 d_Wo_numberEnd_101 (lv_at hl 5 rfl) ?_
                refine lv_lneg G.1 G.2.1 d_Wo_numberEnd_103 ?_
                refine lv_goto (tgt := 109) G.1 G.2.1 d_Wo_numberEnd_104 (by decide) ?_
                exact J_12 (-x)  _ _ (hP.sub [0, 1, 2, 3, 4] rfl) (hD.sub [0, 1, 2, 3, 4] (by decide) rfl) hS ls (lv_sub hl [0, 1, 2, 3, 4, 5] rfl)
      exact L_3 (_ + 1) s1 0 (Nat.lt_succ_self _) (Nat.le_refl _) (by omega) _ _ (hP.sub [0, 1, 2, 3, 4] rfl) (hD.sub [0, 1, 2, 3, 4] (by decide) rfl) hS ls (lv_sub hl [2, 3, 4, 5, 1, 0] rfl)
    refine lv_if_eq (tgt := 27) G.1 G.2.1 d_Wo_numberEnd_18 (by decide) (fun c18 => ?_) (fun c18 => ?_)
    · skip
      have c18 : e1 = 0 := (nI_z_eq (by omega)).mp c18
      refine lv_iload_n G.1 G.2.1 d_Wo_numberEnd_27 rfl (lv_at hl 2 rfl) ?_
      exact J_2 i9 (by omega) (by omega) _ _ (hP.sub [0, 1, 2, 3, 4] rfl) (hD.sub [0, 1, 2, 3, 4] (by decide) rfl) hS ls (lv_sub hl [0, 1, 2] rfl)
    · skip
      have c18 : ¬ (e1 = 0) := fun h => c18 ((nI_z_eq (by omega)).mpr h)
      refine lv_iload_n G.1 G.2.1 d_Wo_numberEnd_21 rfl (lv_at hl 2 rfl) ?_
      refine lv_iconst (v := nI 1) G.1 G.2.1 d_Wo_numberEnd_22 (by decide) ?_
      refine lv_iadd G.1 G.2.1 d_Wo_numberEnd_23 ?_
      refine tpi (w := nI (i9 + 1)) (nI_add _ _) ?_
      refine lv_goto (tgt := 28) G.1 G.2.1 d_Wo_numberEnd_24 (by decide) ?_
      exact J_2 (i9 + 1) (by omega) (by omega) _ _ (hP.sub [0, 1, 2, 3, 4] rfl) (hD.sub [0, 1, 2, 3, 4] (by decide) rfl) hS ls (lv_sub hl [0, 1, 2] rfl)
  refine lv_icmp_ne (tgt := 15) G.1 G.2.1 d_Wo_numberEnd_8 (by decide) (fun c8 => ?_) (fun c8 => ?_)
  · skip
    refine lv_iconst (v := nI 0) G.1 G.2.1 d_Wo_numberEnd_15 (by decide) ?_
    exact J_1 0 (by decide) _ _ (hP.sub [0, 1, 2, 3, 4] rfl) (hD.sub [0, 1, 2, 3, 4] (by decide) rfl) hS ls (lv_sub hl [0, 1] rfl)
  · skip
    refine lv_iconst (v := nI 1) G.1 G.2.1 d_Wo_numberEnd_11 (by decide) ?_
    refine lv_goto (tgt := 16) G.1 G.2.1 d_Wo_numberEnd_12 (by decide) ?_
    exact J_1 1 (by decide) _ _ (hP.sub [0, 1, 2, 3, 4] rfl) (hD.sub [0, 1, 2, 3, 4] (by decide) rfl) hS ls (lv_sub hl [0, 1] rfl)
