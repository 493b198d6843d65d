theorem NI.adds {k L n hx z : Nat} {fs fz fn fh g2 g3 g4 : Nat → Int32} (h : NI k L fs fz fn fh) (hn : n ≤ 128) (hhx : hx < 256) (hz : z ≤ k) (ez : fh hx = cv z) (a2 : ∀ i, i < k → g2 i = fs i) (v2 : g2 k = nI L) (a3 : ∀ i, i < k → g3 i = fz i) (v3 : g3 k = nI n) (a4 : ∀ i, i < k → g4 i = fn i) (v4 : g4 k = cv z) : NI (k + 1) (L + n) g2 g3 g4 (upd fh hx (nI k)) := by
  obtain ⟨q1, q2, q3⟩ := h.add hn hhx hz ez
  refine ⟨fun i hi => ?_, fun i hi => ?_, q3⟩
  · obtain ⟨a, b, r1, r2, r3⟩ := q1 i hi
    by_cases e : i = k
    · subst e
      exact ⟨a, b, by rw [v2]; simpa [upd] using r1, by rw [v3]; simpa [upd] using r2, r3⟩
    · exact ⟨a, b, by rw [a2 i (by omega)]; simpa [upd, e] using r1, by rw [a3 i (by omega)]; simpa [upd, e] using r2, r3⟩
  · obtain ⟨y, r1, r2⟩ := q2 i hi
    by_cases e : i = k
    · subst e
      exact ⟨y, r1, by rw [v4]; simpa [upd] using r2⟩
    · exact ⟨y, r1, by rw [a4 i (by omega)]; simpa [upd, e] using r2⟩

abbrev rm_Na_isSame_g : Room := { frames := 0, cells := 0, slots := 0, locals := 0 }
set_option maxHeartbeats 4000000 in
set_option maxRecDepth 100000 in
/-- isSame(id, text, from, n) -/
theorem c_Na_isSame_g (l : Launch) (D : va_G) (g : Nat → ClassId) (h0 a1 a2 a3 a4 a5 a6 a7 a8 a9 b1 b2 b3 b4 n1 n2 n3 n4 : Nat) (mk stt : Int32) (k L : Nat) (fl fs fz fn fh : Nat → Int32) (tx N : Nat) (ft : Nat → Int32) (w fr n : Nat) (sz : Nat) (hI : NI k L fs fz fn fh) (hL1 : L ≤ n1) (hk2 : k ≤ n2) (hk3 : k ≤ n3) (hk4 : k ≤ n4) (hn1 : n1 < 2 ^ 24) (hn2 : n2 < 2 ^ 24) (hn3 : n3 < 2 ^ 24) (hn4 : n4 < 2 ^ 24) (hw : w < k) (hfr : fr + n ≤ N) (hN : N < 2 ^ 24) : Met l y_Na_isSame (mw y_Na_isSame b_Na_isSame 7 (some (.boolean))) (rm_Na_isSame_g) (PC g D [] [.ref h0, .int (nI w), .ref tx, .int (nI fr), .int (nI n)] sz [(h0, .inr (5, [.ref a1, .ref a2, .ref a3, .ref a4, .ref a5, .ref a6, .ref a7, .ref a8, .ref a9, .int mk, .int stt])), (a1, .inr (3, [.ref b1, .int (nI L)])), (b1, .inl (g 0, n1, .inl fl)), (a2, .inr (3, [.ref b2, .int (nI k)])), (b2, .inl (g 0, n2, .inl fs)), (a3, .inr (3, [.ref b3, .int (nI k)])), (b3, .inl (g 0, n3, .inl fz)), (a4, .inr (3, [.ref b4, .int (nI k)])), (b4, .inl (g 0, n4, .inl fn)), (a5, .inl (g 0, 256, .inl fh)), (tx, .inl (g 1, N, .inl ft))]) (va_Qi (fun (r : Int32) (u : Unit) => r = 0 ∨ r = 1) (QW D (va_A [(h0, .inr (5, [.ref a1, .ref a2, .ref a3, .ref a4, .ref a5, .ref a6, .ref a7, .ref a8, .ref a9, .int mk, .int stt])), (a1, .inr (3, [.ref b1, .int (nI L)])), (b1, .inl (g 0, n1, .inl fl)), (a2, .inr (3, [.ref b2, .int (nI k)])), (b2, .inl (g 0, n2, .inl fs)), (a3, .inr (3, [.ref b3, .int (nI k)])), (b3, .inl (g 0, n3, .inl fz)), (a4, .inr (3, [.ref b4, .int (nI k)])), (b4, .inl (g 0, n4, .inl fn)), (a5, .inl (g 0, 256, .inl fh)), (tx, .inl (g 1, N, .inl ft))] sz) (fun u : Unit => [(h0, .inr (5, [.ref a1, .ref a2, .ref a3, .ref a4, .ref a5, .ref a6, .ref a7, .ref a8, .ref a9, .int mk, .int stt])), (a1, .inr (3, [.ref b1, .int (nI L)])), (b1, .inl (g 0, n1, .inl fl)), (a2, .inr (3, [.ref b2, .int (nI k)])), (b2, .inl (g 0, n2, .inl fs)), (a3, .inr (3, [.ref b3, .int (nI k)])), (b3, .inl (g 0, n3, .inl fz)), (a4, .inr (3, [.ref b4, .int (nI k)])), (b4, .inl (g 0, n4, .inl fn)), (a5, .inl (g 0, 256, .inl fh)), (tx, .inl (g 1, N, .inl ft))])) (va_A [(h0, .inr (5, [.ref a1, .ref a2, .ref a3, .ref a4, .ref a5, .ref a6, .ref a7, .ref a8, .ref a9, .int mk, .int stt])), (a1, .inr (3, [.ref b1, .int (nI L)])), (b1, .inl (g 0, n1, .inl fl)), (a2, .inr (3, [.ref b2, .int (nI k)])), (b2, .inl (g 0, n2, .inl fs)), (a3, .inr (3, [.ref b3, .int (nI k)])), (b3, .inl (g 0, n3, .inl fz)), (a4, .inr (3, [.ref b4, .int (nI k)])), (b4, .inl (g 0, n4, .inl fn)), (a5, .inl (g 0, 256, .inl fh)), (tx, .inl (g 1, N, .inl ft))] sz)) 0 0 (va_A [(h0, .inr (5, [.ref a1, .ref a2, .ref a3, .ref a4, .ref a5, .ref a6, .ref a7, .ref a8, .ref a9, .int mk, .int stt])), (a1, .inr (3, [.ref b1, .int (nI L)])), (b1, .inl (g 0, n1, .inl fl)), (a2, .inr (3, [.ref b2, .int (nI k)])), (b2, .inl (g 0, n2, .inl fs)), (a3, .inr (3, [.ref b3, .int (nI k)])), (b3, .inl (g 0, n3, .inl fz)), (a4, .inr (3, [.ref b4, .int (nI k)])), (b4, .inl (g 0, n4, .inl fn)), (a5, .inl (g 0, 256, .inl fh)), (tx, .inl (g 1, N, .inl ft))] sz) := by
  refine ofZ (by decide +kernel) (Nat.le_of_ble_eq_true rfl) ?_
  intro p e s m args below meth c A Q ls H locs G hsz hP hD hS hl hret
  subst hsz
  have hl : lv_has ls 7 [(0, .ref h0), (1, .int (nI w)), (2, .ref tx), (3, .int (nI fr)), (4, .int (nI n))] := hl
  refine lv_aload_n G.1 G.2.1 d_Na_isSame_0 rfl (lv_at hl 0 rfl) ?_
  refine kg (ci := 5) G iNa hP 0 rfl rfl 1 (by decide) q505 rfl rfl d_Na_isSame_1 ?_
  refine kg (ci := 3) G iIn hP 3 rfl rfl 0 (by decide) q381 rfl rfl d_Na_isSame_4 ?_
  refine lv_iload_n G.1 G.2.1 d_Na_isSame_7 rfl (lv_at hl 1 rfl) ?_
  refine kiald G hP 4 0 rfl rfl (by omega) (by omega) d_Na_isSame_8 ?_
  obtain ⟨a, b, ha, hb, hab, hb2⟩ := hI.1 w hw
  refine tpi (w := nI a) ha ?_
  refine lv_istore (lv' := [(5, .int (nI a)), (0, .ref h0), (1, .int (nI w)), (2, .ref tx), (3, .int (nI fr)), (4, .int (nI n))]) G.1 G.2.1 d_Na_isSame_9 hl (by decide) rfl (fun ls hl => ?_)
  refine lv_aload_n G.1 G.2.1 d_Na_isSame_11 rfl (lv_at hl 1 rfl) ?_
  refine kg (ci := 5) G iNa hP 0 rfl rfl 2 (by decide) q506 rfl rfl d_Na_isSame_12 ?_
  refine kg (ci := 3) G iIn hP 5 rfl rfl 0 (by decide) q381 rfl rfl d_Na_isSame_15 ?_
  refine lv_iload_n G.1 G.2.1 d_Na_isSame_18 rfl (lv_at hl 2 rfl) ?_
  refine kiald G hP 6 0 rfl rfl (by omega) (by omega) d_Na_isSame_19 ?_
  refine tpi (w := nI b) hb ?_
  refine W.eq (g2 := F0 m 20 ls [.int (nI b)]) rfl ?_
  refine lv_iload G.1 G.2.1 d_Na_isSame_20 (lv_at hl 5 rfl) ?_
  refine lv_icmp_eq (tgt := 27) G.1 G.2.1 d_Na_isSame_22 (by decide) (fun c22 => ?_) (fun c22 => ?_)
  · skip
    have c22 : b = n := (nI_eq (by omega) (by omega)).mp c22
    have c22 : n = b := c22.symm
    subst c22
    refine lv_iconst (v := nI 0) G.1 G.2.1 d_Na_isSame_27 (by decide) ?_
    refine lv_istore (lv' := [(6, .int (nI 0)), (5, .int (nI a)), (0, .ref h0), (1, .int (nI w)), (2, .ref tx), (3, .int (nI fr)), (4, .int (nI n))]) G.1 G.2.1 d_Na_isSame_28 hl (by decide) rfl (fun ls hl => ?_)
    have L_1 : ∀ (k_L_1 : Nat) (i : Nat), (n - i) < k_L_1 → (i ≤ n) → ∀ (H : Heap) (locs : List Loc), va_P D CL [(h0, .inr (5, [.ref a1, .ref a2, .ref a3, .ref a4, .ref a5, .ref a6, .ref a7, .ref a8, .ref a9, .int mk, .int stt])), (a1, .inr (3, [.ref b1, .int (nI L)])), (b1, .inl (g 0, n1, .inl fl)), (a2, .inr (3, [.ref b2, .int (nI k)])), (b2, .inl (g 0, n2, .inl fs)), (a3, .inr (3, [.ref b3, .int (nI k)])), (b3, .inl (g 0, n3, .inl fz)), (a4, .inr (3, [.ref b4, .int (nI k)])), (b4, .inl (g 0, n4, .inl fn)), (a5, .inl (g 0, 256, .inl fh)), (tx, .inl (g 1, N, .inl ft))] H → va_D A [(h0, .inr (5, [.ref a1, .ref a2, .ref a3, .ref a4, .ref a5, .ref a6, .ref a7, .ref a8, .ref a9, .int mk, .int stt])), (a1, .inr (3, [.ref b1, .int (nI L)])), (b1, .inl (g 0, n1, .inl fl)), (a2, .inr (3, [.ref b2, .int (nI k)])), (b2, .inl (g 0, n2, .inl fs)), (a3, .inr (3, [.ref b3, .int (nI k)])), (b3, .inl (g 0, n3, .inl fz)), (a4, .inr (3, [.ref b4, .int (nI k)])), (b4, .inl (g 0, n4, .inl fn)), (a5, .inl (g 0, 256, .inl fh)), (tx, .inl (g 1, N, .inl ft))] → va_S A s.heap H locs → ∀ ls, lv_has ls 7 [(5, .int (nI a)), (0, .ref h0), (1, .int (nI w)), (2, .ref tx), (3, .int (nI fr)), (4, .int (nI n)), (6, .int (nI i))] → W p l e rm_Na_isSame_g s m args below meth c H locs 0 0 Q (F0 m 30 ls []) := by
      intro k_L_1
      induction k_L_1 with
      | zero => intro i hk_L_1; exact absurd hk_L_1 (Nat.not_lt_zero _)
      | succ k_L_1 ih_L_1 =>
        intro i hk_L_1 hi H locs hP hD hS ls hl
        refine lv_iload G.1 G.2.1 d_Na_isSame_30 (lv_at hl 6 rfl) ?_
        refine lv_iload G.1 G.2.1 d_Na_isSame_32 (lv_at hl 5 rfl) ?_
        refine lv_icmp_ge (tgt := 67) G.1 G.2.1 d_Na_isSame_34 (by decide) (fun c34 => ?_) (fun c34 => ?_)
        · skip
          have c34 : n ≤ i := (nI_leI (by omega) (by omega)).mp c34
          refine lv_iconst (v := nI 1) G.1 G.2.1 d_Na_isSame_67 (by decide) ?_
          have hP : va_P D CL [(h0, .inr (5, [.ref a1, .ref a2, .ref a3, .ref a4, .ref a5, .ref a6, .ref a7, .ref a8, .ref a9, .int mk, .int stt])), (a1, .inr (3, [.ref b1, .int (nI L)])), (b1, .inl (g 0, n1, .inl fl)), (a2, .inr (3, [.ref b2, .int (nI k)])), (b2, .inl (g 0, n2, .inl fs)), (a3, .inr (3, [.ref b3, .int (nI k)])), (b3, .inl (g 0, n3, .inl fz)), (a4, .inr (3, [.ref b4, .int (nI k)])), (b4, .inl (g 0, n4, .inl fn)), (a5, .inl (g 0, 256, .inl fh)), (tx, .inl (g 1, N, .inl ft))] H := hP.sub [0, 1, 2, 3, 4, 5, 6, 7, 8, 9, 10] rfl
          have hD : va_D A [(h0, .inr (5, [.ref a1, .ref a2, .ref a3, .ref a4, .ref a5, .ref a6, .ref a7, .ref a8, .ref a9, .int mk, .int stt])), (a1, .inr (3, [.ref b1, .int (nI L)])), (b1, .inl (g 0, n1, .inl fl)), (a2, .inr (3, [.ref b2, .int (nI k)])), (b2, .inl (g 0, n2, .inl fs)), (a3, .inr (3, [.ref b3, .int (nI k)])), (b3, .inl (g 0, n3, .inl fz)), (a4, .inr (3, [.ref b4, .int (nI k)])), (b4, .inl (g 0, n4, .inl fn)), (a5, .inl (g 0, 256, .inl fh)), (tx, .inl (g 1, N, .inl ft))] := hD.sub [0, 1, 2, 3, 4, 5, 6, 7, 8, 9, 10] (by decide) rfl
          refine hret (nI 1) () _ _ _ _ _ ls (by decide) (Or.inr rfl) hP hD hS (Nat.le_of_ble_eq_true rfl) (Nat.le_of_ble_eq_true rfl) d_Na_isSame_68
        · skip
          have c34 : ¬ (n ≤ i) := fun h => c34 ((nI_leI (by omega) (by omega)).mpr h)
          refine lv_aload_n G.1 G.2.1 d_Na_isSame_37 rfl (lv_at hl 1 rfl) ?_
          refine kg (ci := 5) G iNa hP 0 rfl rfl 0 (by decide) q504 rfl rfl d_Na_isSame_38 ?_
          refine kg (ci := 3) G iIn hP 1 rfl rfl 0 (by decide) q381 rfl rfl d_Na_isSame_41 ?_
          refine lv_iload G.1 G.2.1 d_Na_isSame_44 (lv_at hl 0 rfl) ?_
          refine lv_iload G.1 G.2.1 d_Na_isSame_46 (lv_at hl 6 rfl) ?_
          refine lv_iadd G.1 G.2.1 d_Na_isSame_48 ?_
          refine tpi (w := nI (a + i)) (nI_add _ _) ?_
          refine W.eq (g2 := F0 m 49 ls [.int (nI (a + i)), .ref b1]) rfl ?_
          refine kiald G hP 2 0 rfl rfl (by omega) (by omega) d_Na_isSame_49 ?_
          refine lv_aload_n G.1 G.2.1 d_Na_isSame_50 rfl (lv_at hl 3 rfl) ?_
          refine lv_iload_n G.1 G.2.1 d_Na_isSame_51 rfl (lv_at hl 4 rfl) ?_
          refine lv_iload G.1 G.2.1 d_Na_isSame_52 (lv_at hl 6 rfl) ?_
          refine lv_iadd G.1 G.2.1 d_Na_isSame_54 ?_
          refine tpi (w := nI (fr + i)) (nI_add _ _) ?_
          refine kbald G hP 10 1 rfl rfl (by omega) (by omega) d_Na_isSame_55 ?_
          refine lv_icmp_eq (tgt := 61) G.1 G.2.1 d_Na_isSame_56 (by decide) (fun c56 => ?_) (fun c56 => ?_)
          · skip
            refine lv_iinc (v := nI (i + 1)) (lv' := [(6, .int (nI (i + 1))), (5, .int (nI a)), (0, .ref h0), (1, .int (nI w)), (2, .ref tx), (3, .int (nI fr)), (4, .int (nI n))]) G.1 G.2.1 d_Na_isSame_61 hl (k := 6) rfl (show (nI i) + Int32.ofInt 1 = nI (i + 1) from nI_1 _) (by decide) rfl (fun ls hl => ?_)
            refine lv_goto (tgt := 30) G.1 G.2.1 d_Na_isSame_64 (by decide) ?_
            exact ih_L_1 (i + 1) (by omega) (by omega) _ _ (hP.sub [0, 1, 2, 3, 4, 5, 6, 7, 8, 9, 10] rfl) (hD.sub [0, 1, 2, 3, 4, 5, 6, 7, 8, 9, 10] (by decide) rfl) hS ls (lv_sub hl [1, 2, 3, 4, 5, 6, 0] rfl)
          · skip
            refine lv_iconst (v := nI 0) G.1 G.2.1 d_Na_isSame_59 (by decide) ?_
            have hP : va_P D CL [(h0, .inr (5, [.ref a1, .ref a2, .ref a3, .ref a4, .ref a5, .ref a6, .ref a7, .ref a8, .ref a9, .int mk, .int stt])), (a1, .inr (3, [.ref b1, .int (nI L)])), (b1, .inl (g 0, n1, .inl fl)), (a2, .inr (3, [.ref b2, .int (nI k)])), (b2, .inl (g 0, n2, .inl fs)), (a3, .inr (3, [.ref b3, .int (nI k)])), (b3, .inl (g 0, n3, .inl fz)), (a4, .inr (3, [.ref b4, .int (nI k)])), (b4, .inl (g 0, n4, .inl fn)), (a5, .inl (g 0, 256, .inl fh)), (tx, .inl (g 1, N, .inl ft))] H := hP.sub [0, 1, 2, 3, 4, 5, 6, 7, 8, 9, 10] rfl
            have hD : va_D A [(h0, .inr (5, [.ref a1, .ref a2, .ref a3, .ref a4, .ref a5, .ref a6, .ref a7, .ref a8, .ref a9, .int mk, .int stt])), (a1, .inr (3, [.ref b1, .int (nI L)])), (b1, .inl (g 0, n1, .inl fl)), (a2, .inr (3, [.ref b2, .int (nI k)])), (b2, .inl (g 0, n2, .inl fs)), (a3, .inr (3, [.ref b3, .int (nI k)])), (b3, .inl (g 0, n3, .inl fz)), (a4, .inr (3, [.ref b4, .int (nI k)])), (b4, .inl (g 0, n4, .inl fn)), (a5, .inl (g 0, 256, .inl fh)), (tx, .inl (g 1, N, .inl ft))] := hD.sub [0, 1, 2, 3, 4, 5, 6, 7, 8, 9, 10] (by decide) rfl
            refine hret (nI 0) () _ _ _ _ _ ls (by decide) (Or.inl rfl) hP hD hS (Nat.le_of_ble_eq_true rfl) (Nat.le_of_ble_eq_true rfl) d_Na_isSame_60
    exact L_1 (_ + 1) 0 (Nat.lt_succ_self _) (Nat.zero_le _) _ _ (hP.sub [0, 1, 2, 3, 4, 5, 6, 7, 8, 9, 10] rfl) (hD.sub [0, 1, 2, 3, 4, 5, 6, 7, 8, 9, 10] (by decide) rfl) hS ls (lv_sub hl [1, 2, 3, 4, 5, 6, 0] rfl)
  · skip
    have c22 : ¬ (b = n) := fun h => c22 ((nI_eq (by omega) (by omega)).mpr h)
    refine lv_iconst (v := nI 0) G.1 G.2.1 d_Na_isSame_25 (by decide) ?_
    have hP : va_P D CL [(h0, .inr (5, [.ref a1, .ref a2, .ref a3, .ref a4, .ref a5, .ref a6, .ref a7, .ref a8, .ref a9, .int mk, .int stt])), (a1, .inr (3, [.ref b1, .int (nI L)])), (b1, .inl (g 0, n1, .inl fl)), (a2, .inr (3, [.ref b2, .int (nI k)])), (b2, .inl (g 0, n2, .inl fs)), (a3, .inr (3, [.ref b3, .int (nI k)])), (b3, .inl (g 0, n3, .inl fz)), (a4, .inr (3, [.ref b4, .int (nI k)])), (b4, .inl (g 0, n4, .inl fn)), (a5, .inl (g 0, 256, .inl fh)), (tx, .inl (g 1, N, .inl ft))] H := hP.sub [0, 1, 2, 3, 4, 5, 6, 7, 8, 9, 10] rfl
    have hD : va_D A [(h0, .inr (5, [.ref a1, .ref a2, .ref a3, .ref a4, .ref a5, .ref a6, .ref a7, .ref a8, .ref a9, .int mk, .int stt])), (a1, .inr (3, [.ref b1, .int (nI L)])), (b1, .inl (g 0, n1, .inl fl)), (a2, .inr (3, [.ref b2, .int (nI k)])), (b2, .inl (g 0, n2, .inl fs)), (a3, .inr (3, [.ref b3, .int (nI k)])), (b3, .inl (g 0, n3, .inl fz)), (a4, .inr (3, [.ref b4, .int (nI k)])), (b4, .inl (g 0, n4, .inl fn)), (a5, .inl (g 0, 256, .inl fh)), (tx, .inl (g 1, N, .inl ft))] := hD.sub [0, 1, 2, 3, 4, 5, 6, 7, 8, 9, 10] (by decide) rfl
    refine hret (nI 0) () _ _ _ _ _ ls (by decide) (Or.inl rfl) hP hD hS (Nat.le_of_ble_eq_true rfl) (Nat.le_of_ble_eq_true rfl) d_Na_isSame_26
def y_Na_length : MethodName := ⟨"ClassWorks$Names", "length", "(I)I"⟩
abbrev b_Na_length : ByteArray := prog_7_method_5_code
theorem d_Na_length_0 : decode b_Na_length 0 = .ok (.aload_n 0, 1) := by decide +kernel
theorem d_Na_length_1 : decode b_Na_length 1 = .ok (.getfield 23, 3) := by decide +kernel
theorem d_Na_length_4 : decode b_Na_length 4 = .ok (.getfield 101, 3) := by decide +kernel
theorem d_Na_length_7 : decode b_Na_length 7 = .ok (.iload_n 1, 1) := by decide +kernel
theorem d_Na_length_8 : decode b_Na_length 8 = .ok (.iaload, 1) := by decide +kernel
theorem d_Na_length_9 : decode b_Na_length 9 = .ok (.ireturn, 1) := by decide +kernel
abbrev rm_Na_length_g : Room := { frames := 0, cells := 0, slots := 0, locals := 0 }
set_option maxHeartbeats 4000000 in
set_option maxRecDepth 100000 in
/-- length(id) -/
theorem c_Na_length_g (l : Launch) (D : va_G) (g : Nat → ClassId) (h0 a1 a2 a3 a4 a5 a6 a7 a8 a9 b1 b2 b3 b4 n1 n2 n3 n4 : Nat) (mk stt : Int32) (k L : Nat) (fl fs fz fn fh : Nat → Int32) (w : Nat) (sz : Nat) (hI : NI k L fs fz fn fh) (hL1 : L ≤ n1) (hk2 : k ≤ n2) (hk3 : k ≤ n3) (hk4 : k ≤ n4) (hn1 : n1 < 2 ^ 24) (hn2 : n2 < 2 ^ 24) (hn3 : n3 < 2 ^ 24) (hn4 : n4 < 2 ^ 24) (hw : w < k) : Met l y_Na_length (mw y_Na_length b_Na_length 2 (some .int)) (rm_Na_length_g) (PC g D [] [.ref h0, .int (nI w)] sz [(h0, .inr (5, [.ref a1, .ref a2, .ref a3, .ref a4, .ref a5, .ref a6, .ref a7, .ref a8, .ref a9, .int mk, .int stt])), (a1, .inr (3, [.ref b1, .int (nI L)])), (b1, .inl (g 0, n1, .inl fl)), (a2, .inr (3, [.ref b2, .int (nI k)])), (b2, .inl (g 0, n2, .inl fs)), (a3, .inr (3, [.ref b3, .int (nI k)])), (b3, .inl (g 0, n3, .inl fz)), (a4, .inr (3, [.ref b4, .int (nI k)])), (b4, .inl (g 0, n4, .inl fn)), (a5, .inl (g 0, 256, .inl fh))]) (va_Qi (fun (r : Int32) (u : Unit) => r = fz w) (QW D (va_A [(h0, .inr (5, [.ref a1, .ref a2, .ref a3, .ref a4, .ref a5, .ref a6, .ref a7, .ref a8, .ref a9, .int mk, .int stt])), (a1, .inr (3, [.ref b1, .int (nI L)])), (b1, .inl (g 0, n1, .inl fl)), (a2, .inr (3, [.ref b2, .int (nI k)])), (b2, .inl (g 0, n2, .inl fs)), (a3, .inr (3, [.ref b3, .int (nI k)])), (b3, .inl (g 0, n3, .inl fz)), (a4, .inr (3, [.ref b4, .int (nI k)])), (b4, .inl (g 0, n4, .inl fn)), (a5, .inl (g 0, 256, .inl fh))] sz) (fun u : Unit => [(h0, .inr (5, [.ref a1, .ref a2, .ref a3, .ref a4, .ref a5, .ref a6, .ref a7, .ref a8, .ref a9, .int mk, .int stt])), (a1, .inr (3, [.ref b1, .int (nI L)])), (b1, .inl (g 0, n1, .inl fl)), (a2, .inr (3, [.ref b2, .int (nI k)])), (b2, .inl (g 0, n2, .inl fs)), (a3, .inr (3, [.ref b3, .int (nI k)])), (b3, .inl (g 0, n3, .inl fz)), (a4, .inr (3, [.ref b4, .int (nI k)])), (b4, .inl (g 0, n4, .inl fn)), (a5, .inl (g 0, 256, .inl fh))])) (va_A [(h0, .inr (5, [.ref a1, .ref a2, .ref a3, .ref a4, .ref a5, .ref a6, .ref a7, .ref a8, .ref a9, .int mk, .int stt])), (a1, .inr (3, [.ref b1, .int (nI L)])), (b1, .inl (g 0, n1, .inl fl)), (a2, .inr (3, [.ref b2, .int (nI k)])), (b2, .inl (g 0, n2, .inl fs)), (a3, .inr (3, [.ref b3, .int (nI k)])), (b3, .inl (g 0, n3, .inl fz)), (a4, .inr (3, [.ref b4, .int (nI k)])), (b4, .inl (g 0, n4, .inl fn)), (a5, .inl (g 0, 256, .inl fh))] sz)) 0 0 (va_A [(h0, .inr (5, [.ref a1, .ref a2, .ref a3, .ref a4, .ref a5, .ref a6, .ref a7, .ref a8, .ref a9, .int mk, .int stt])), (a1, .inr (3, [.ref b1, .int (nI L)])), (b1, .inl (g 0, n1, .inl fl)), (a2, .inr (3, [.ref b2, .int (nI k)])), (b2, .inl (g 0, n2, .inl fs)), (a3, .inr (3, [.ref b3, .int (nI k)])), (b3, .inl (g 0, n3, .inl fz)), (a4, .inr (3, [.ref b4, .int (nI k)])), (b4, .inl (g 0, n4, .inl fn)), (a5, .inl (g 0, 256, .inl fh))] sz) := by
  refine ofI (by decide +kernel) (Nat.le_of_ble_eq_true rfl) ?_
  intro p e s m args below meth c A Q ls H locs G hsz hP hD hS hl hret
  subst hsz
  have hl : lv_has ls 2 [(0, .ref h0), (1, .int (nI w))] := hl
  refine lv_aload_n G.1 G.2.1 d_Na_length_0 rfl (lv_at hl 0 rfl) ?_
  refine kg (ci := 5) G iNa hP 0 rfl rfl 2 (by decide) q506 rfl rfl d_Na_length_1 ?_
  refine kg (ci := 3) G iIn hP 5 rfl rfl 0 (by decide) q381 rfl rfl d_Na_length_4 ?_
  refine lv_iload_n G.1 G.2.1 d_Na_length_7 rfl (lv_at hl 1 rfl) ?_
  refine kiald G hP 6 0 rfl rfl (by omega) (by omega) d_Na_length_8 ?_
  have hP : va_P D CL [(h0, .inr (5, [.ref a1, .ref a2, .ref a3, .ref a4, .ref a5, .ref a6, .ref a7, .ref a8, .ref a9, .int mk, .int stt])), (a1, .inr (3, [.ref b1, .int (nI L)])), (b1, .inl (g 0, n1, .inl fl)), (a2, .inr (3, [.ref b2, .int (nI k)])), (b2, .inl (g 0, n2, .inl fs)), (a3, .inr (3, [.ref b3, .int (nI k)])), (b3, .inl (g 0, n3, .inl fz)), (a4, .inr (3, [.ref b4, .int (nI k)])), (b4, .inl (g 0, n4, .inl fn)), (a5, .inl (g 0, 256, .inl fh))] H := hP.sub [0, 1, 2, 3, 4, 5, 6, 7, 8, 9] rfl
  have hD : va_D A [(h0, .inr (5, [.ref a1, .ref a2, .ref a3, .ref a4, .ref a5, .ref a6, .ref a7, .ref a8, .ref a9, .int mk, .int stt])), (a1, .inr (3, [.ref b1, .int (nI L)])), (b1, .inl (g 0, n1, .inl fl)), (a2, .inr (3, [.ref b2, .int (nI k)])), (b2, .inl (g 0, n2, .inl fs)), (a3, .inr (3, [.ref b3, .int (nI k)])), (b3, .inl (g 0, n3, .inl fz)), (a4, .inr (3, [.ref b4, .int (nI k)])), (b4, .inl (g 0, n4, .inl fn)), (a5, .inl (g 0, 256, .inl fh))] := hD.sub [0, 1, 2, 3, 4, 5, 6, 7, 8, 9] (by decide) rfl
  refine hret (fz w) () _ _ _ _ _ ls rfl hP hD hS (Nat.le_of_ble_eq_true rfl) (Nat.le_of_ble_eq_true rfl) d_Na_length_9
abbrev rm_Na_number_g (k : Nat) (L : Nat) (n : Nat) : Room := { frames := 3, cells := (2 * L + 4 * n + 6 * k + 60), slots := 2 * (2 * L + 4 * n + 6 * k + 60), locals := 163 }
set_option maxHeartbeats 4000000 in
set_option maxRecDepth 100000 in
/-- number(text, from, n): one name more at most -/
theorem c_Na_number_g (l : Launch) (D : va_G) (g : Nat → ClassId) (h0 a1 a2 a3 a4 a5 a6 a7 a8 a9 b1 b2 b3 b4 n1 n2 n3 n4 : Nat) (mk stt : Int32) (k L : Nat) (fl fs fz fn fh : Nat → Int32) (tx N : Nat) (ft : Nat → Int32) (fr n : Nat) (sz uz : Nat) (hI : NI k L fs fz fn fh) (hL1 : L ≤ n1) (hk2 : k ≤ n2) (hk3 : k ≤ n3) (hk4 : k ≤ n4) (hn1 : n1 < 2 ^ 24) (hn2 : n2 < 2 ^ 24) (hn3 : n3 < 2 ^ 24) (hn4 : n4 < 2 ^ 24) (hn : n ≤ 128) (hfr : fr + n ≤ N) (hN : N < 2 ^ 24) (hk : k < 2 ^ 20) (hL : L < 2 ^ 20) : Met l y_Na_number (mw y_Na_number b_Na_number 6 (some .int)) (rm_Na_number_g k L n) (PCu g D [] [.ref h0, .ref tx, .int (nI fr), .int (nI n)] sz uz [(h0, .inr (5, [.ref a1, .ref a2, .ref a3, .ref a4, .ref a5, .ref a6, .ref a7, .ref a8, .ref a9, .int mk, .int stt])), (a1, .inr (3, [.ref b1, .int (nI L)])), (b1, .inl (g 0, n1, .inl fl)), (a2, .inr (3, [.ref b2, .int (nI k)])), (b2, .inl (g 0, n2, .inl fs)), (a3, .inr (3, [.ref b3, .int (nI k)])), (b3, .inl (g 0, n3, .inl fz)), (a4, .inr (3, [.ref b4, .int (nI k)])), (b4, .inl (g 0, n4, .inl fn)), (a5, .inl (g 0, 256, .inl fh)), (tx, .inl (g 1, N, .inl ft))]) (va_Qi (fun (r : Int32) (u : Nat × Nat × (Nat → Int32) × (Nat → Int32) × (Nat → Int32) × (Nat → Int32) × (Nat → Int32) × Nat × Nat × Nat × Nat × Nat × Nat × Nat × Nat) => (∃ id : Nat, r = nI id ∧ id < u.1) ∧ k ≤ u.1 ∧ u.1 ≤ k + 1 ∧ L ≤ u.2.1 ∧ u.2.1 ≤ L + n ∧ NI u.1 u.2.1 u.2.2.2.1 u.2.2.2.2.1 u.2.2.2.2.2.1 u.2.2.2.2.2.2.1 ∧ (u.2.1 ≤ u.2.2.2.2.2.2.2.2.2.2.2.1 ∧ u.1 ≤ u.2.2.2.2.2.2.2.2.2.2.2.2.1 ∧ u.1 ≤ u.2.2.2.2.2.2.2.2.2.2.2.2.2.1 ∧ u.1 ≤ u.2.2.2.2.2.2.2.2.2.2.2.2.2.2) ∧ (n1 ≤ u.2.2.2.2.2.2.2.2.2.2.2.1 ∧ n2 ≤ u.2.2.2.2.2.2.2.2.2.2.2.2.1 ∧ n3 ≤ u.2.2.2.2.2.2.2.2.2.2.2.2.2.1 ∧ n4 ≤ u.2.2.2.2.2.2.2.2.2.2.2.2.2.2) ∧ (u.2.2.2.2.2.2.2.2.2.2.2.1 = n1 ∨ u.2.2.2.2.2.2.2.2.2.2.2.1 ≤ 2 * u.2.1 + 8) ∧ (u.2.2.2.2.2.2.2.2.2.2.2.2.1 = n2 ∨ u.2.2.2.2.2.2.2.2.2.2.2.2.1 ≤ 2 * u.1 + 8) ∧ (u.2.2.2.2.2.2.2.2.2.2.2.2.2.1 = n3 ∨ u.2.2.2.2.2.2.2.2.2.2.2.2.2.1 ≤ 2 * u.1 + 8) ∧ (u.2.2.2.2.2.2.2.2.2.2.2.2.2.2 = n4 ∨ u.2.2.2.2.2.2.2.2.2.2.2.2.2.2 ≤ 2 * u.1 + 8)) (QU D (va_A [(h0, .inr (5, [.ref a1, .ref a2, .ref a3, .ref a4, .ref a5, .ref a6, .ref a7, .ref a8, .ref a9, .int mk, .int stt])), (a1, .inr (3, [.ref b1, .int (nI L)])), (b1, .inl (g 0, n1, .inl fl)), (a2, .inr (3, [.ref b2, .int (nI k)])), (b2, .inl (g 0, n2, .inl fs)), (a3, .inr (3, [.ref b3, .int (nI k)])), (b3, .inl (g 0, n3, .inl fz)), (a4, .inr (3, [.ref b4, .int (nI k)])), (b4, .inl (g 0, n4, .inl fn)), (a5, .inl (g 0, 256, .inl fh)), (tx, .inl (g 1, N, .inl ft))] sz) (fun u : Nat × Nat × (Nat → Int32) × (Nat → Int32) × (Nat → Int32) × (Nat → Int32) × (Nat → Int32) × Nat × Nat × Nat × Nat × Nat × Nat × Nat × Nat => [(h0, .inr (5, [.ref a1, .ref a2, .ref a3, .ref a4, .ref a5, .ref a6, .ref a7, .ref a8, .ref a9, .int mk, .int stt])), (a1, .inr (3, [.ref u.2.2.2.2.2.2.2.1, .int (nI u.2.1)])), (u.2.2.2.2.2.2.2.1, .inl (g 0, u.2.2.2.2.2.2.2.2.2.2.2.1, .inl u.2.2.1)), (a2, .inr (3, [.ref u.2.2.2.2.2.2.2.2.1, .int (nI u.1)])), (u.2.2.2.2.2.2.2.2.1, .inl (g 0, u.2.2.2.2.2.2.2.2.2.2.2.2.1, .inl u.2.2.2.1)), (a3, .inr (3, [.ref u.2.2.2.2.2.2.2.2.2.1, .int (nI u.1)])), (u.2.2.2.2.2.2.2.2.2.1, .inl (g 0, u.2.2.2.2.2.2.2.2.2.2.2.2.2.1, .inl u.2.2.2.2.1)), (a4, .inr (3, [.ref u.2.2.2.2.2.2.2.2.2.2.1, .int (nI u.1)])), (u.2.2.2.2.2.2.2.2.2.2.1, .inl (g 0, u.2.2.2.2.2.2.2.2.2.2.2.2.2.2, .inl u.2.2.2.2.2.1)), (a5, .inl (g 0, 256, .inl u.2.2.2.2.2.2.1)), (tx, .inl (g 1, N, .inl ft))]) sz uz (fun u : Nat × Nat × (Nat → Int32) × (Nat → Int32) × (Nat → Int32) × (Nat → Int32) × (Nat → Int32) × Nat × Nat × Nat × Nat × Nat × Nat × Nat × Nat => (u.2.2.2.2.2.2.2.2.2.2.2.1 - n1) + (u.2.2.2.2.2.2.2.2.2.2.2.2.1 - n2) + (u.2.2.2.2.2.2.2.2.2.2.2.2.2.1 - n3) + (u.2.2.2.2.2.2.2.2.2.2.2.2.2.2 - n4)) (fun u : Nat × Nat × (Nat → Int32) × (Nat → Int32) × (Nat → Int32) × (Nat → Int32) × (Nat → Int32) × Nat × Nat × Nat × Nat × Nat × Nat × Nat × Nat => 2 * ((u.2.2.2.2.2.2.2.2.2.2.2.1 - n1) + (u.2.2.2.2.2.2.2.2.2.2.2.2.1 - n2) + (u.2.2.2.2.2.2.2.2.2.2.2.2.2.1 - n3) + (u.2.2.2.2.2.2.2.2.2.2.2.2.2.2 - n4)))) (va_A [(h0, .inr (5, [.ref a1, .ref a2, .ref a3, .ref a4, .ref a5, .ref a6, .ref a7, .ref a8, .ref a9, .int mk, .int stt])), (a1, .inr (3, [.ref b1, .int (nI L)])), (b1, .inl (g 0, n1, .inl fl)), (a2, .inr (3, [.ref b2, .int (nI k)])), (b2, .inl (g 0, n2, .inl fs)), (a3, .inr (3, [.ref b3, .int (nI k)])), (b3, .inl (g 0, n3, .inl fz)), (a4, .inr (3, [.ref b4, .int (nI k)])), (b4, .inl (g 0, n4, .inl fn)), (a5, .inl (g 0, 256, .inl fh)), (tx, .inl (g 1, N, .inl ft))] sz)) (2 * L + 4 * n + 6 * k + 60) (2 * (2 * L + 4 * n + 6 * k + 60)) (va_A [(h0, .inr (5, [.ref a1, .ref a2, .ref a3, .ref a4, .ref a5, .ref a6, .ref a7, .ref a8, .ref a9, .int mk, .int stt])), (a1, .inr (3, [.ref b1, .int (nI L)])), (b1, .inl (g 0, n1, .inl fl)), (a2, .inr (3, [.ref b2, .int (nI k)])), (b2, .inl (g 0, n2, .inl fs)), (a3, .inr (3, [.ref b3, .int (nI k)])), (b3, .inl (g 0, n3, .inl fz)), (a4, .inr (3, [.ref b4, .int (nI k)])), (b4, .inl (g 0, n4, .inl fn)), (a5, .inl (g 0, 256, .inl fh)), (tx, .inl (g 1, N, .inl ft))] sz) := by
  refine ofIu (by decide +kernel) (Nat.le_of_ble_eq_true rfl) ?_
  intro p e s m args below meth c A Q ls H locs G hsz hP hD hS hl hret
  subst hsz
  have hl : lv_has ls 6 [(0, .ref h0), (1, .ref tx), (2, .int (nI fr)), (3, .int (nI n))] := hl
  refine lv_iload_n G.1 G.2.1 d_Na_number_0 rfl (lv_at hl 3 rfl) ?_
  refine lv_istore (lv' := [(4, .int (nI n)), (0, .ref h0), (1, .ref tx), (2, .int (nI fr)), (3, .int (nI n))]) G.1 G.2.1 d_Na_number_1 hl (by decide) rfl (fun ls hl => ?_)
  refine lv_iload_n G.1 G.2.1 d_Na_number_3 rfl (lv_at hl 3 rfl) ?_
  refine lv_istore (lv' := [(5, .int (nI fr)), (4, .int (nI n)), (0, .ref h0), (1, .ref tx), (2, .int (nI fr)), (3, .int (nI n))]) G.1 G.2.1 d_Na_number_4 hl (by decide) rfl (fun ls hl => ?_)
  have L_1 : ∀ (k_L_1 : Nat) (i : Nat) (x : Int32), (fr + n - i) < k_L_1 → (fr ≤ i) → (i ≤ fr + n) → ∀ (H : Heap) (locs : List Loc), va_P D CL [(h0, .inr (5, [.ref a1, .ref a2, .ref a3, .ref a4, .ref a5, .ref a6, .ref a7, .ref a8, .ref a9, .int mk, .int stt])), (a1, .inr (3, [.ref b1, .int (nI L)])), (b1, .inl (g 0, n1, .inl fl)), (a2, .inr (3, [.ref b2, .int (nI k)])), (b2, .inl (g 0, n2, .inl fs)), (a3, .inr (3, [.ref b3, .int (nI k)])), (b3, .inl (g 0, n3, .inl fz)), (a4, .inr (3, [.ref b4, .int (nI k)])), (b4, .inl (g 0, n4, .inl fn)), (a5, .inl (g 0, 256, .inl fh)), (tx, .inl (g 1, N, .inl ft))] H → va_D A [(h0, .inr (5, [.ref a1, .ref a2, .ref a3, .ref a4, .ref a5, .ref a6, .ref a7, .ref a8, .ref a9, .int mk, .int stt])), (a1, .inr (3, [.ref b1, .int (nI L)])), (b1, .inl (g 0, n1, .inl fl)), (a2, .inr (3, [.ref b2, .int (nI k)])), (b2, .inl (g 0, n2, .inl fs)), (a3, .inr (3, [.ref b3, .int (nI k)])), (b3, .inl (g 0, n3, .inl fz)), (a4, .inr (3, [.ref b4, .int (nI k)])), (b4, .inl (g 0, n4, .inl fn)), (a5, .inl (g 0, 256, .inl fh)), (tx, .inl (g 1, N, .inl ft))] → va_S A s.heap H locs → ∀ ls, lv_has ls 6 [(0, .ref h0), (1, .ref tx), (2, .int (nI fr)), (3, .int (nI n)), (4, .int x), (5, .int (nI i))] → W p l e (rm_Na_number_g k L n) s m args below meth c H locs 0 0 Q (F0 m 6 ls []) := by
    intro k_L_1
    induction k_L_1 with
    | zero => intro i x hk_L_1; exact absurd hk_L_1 (Nat.not_lt_zero _)
    | succ k_L_1 ih_L_1 =>
      intro i x hk_L_1 hi hi2 H locs hP hD hS ls hl
      refine lv_iload G.1 G.2.1 d_Na_number_6 (lv_at hl 5 rfl) ?_
      refine lv_iload_n G.1 G.2.1 d_Na_number_8 rfl (lv_at hl 2 rfl) ?_
      refine lv_iload_n G.1 G.2.1 d_Na_number_9 rfl (lv_at hl 3 rfl) ?_
      refine lv_iadd G.1 G.2.1 d_Na_number_10 ?_
      refine tpi (w := nI (fr + n)) (nI_add _ _) ?_
      refine lv_icmp_ge (tgt := 32) G.1 G.2.1 d_Na_number_11 (by decide) (fun c11 => ?_) (fun c11 => ?_)
      · skip
        have c11 : (fr + n) ≤ i := (nI_leI (by omega) (by omega)).mp c11
        refine lv_iload G.1 G.2.1 d_Na_number_32 (lv_at hl 4 rfl) ?_
        refine lv_iload G.1 G.2.1 d_Na_number_34 (lv_at hl 4 rfl) ?_
        refine lv_bipush (v := nI 8) G.1 G.2.1 d_Na_number_36 (by decide) ?_
        refine W.eq (g2 := F0 m 38 ls [.int (nI 8), .int x, .int x]) rfl ?_
        refine lv_iushr G.1 G.2.1 d_Na_number_38 rfl ?_
        refine lv_ixor G.1 G.2.1 d_Na_number_39 ?_
        refine lv_sipush (v := nI 255) G.1 G.2.1 d_Na_number_40 (by decide) ?_
        refine lv_iand G.1 G.2.1 d_Na_number_43 ?_
        obtain ⟨hx, hhx, ehx⟩ := pk_andE ((x ^^^ ((x.toUInt32 >>> ((nI 8).toUInt32 &&& Int32.toUInt32 31)).toInt32))) (m := nI 255) 8 (by decide)
        refine tpi (w := nI hx) ehx ?_
        refine lv_istore (lv' := [(4, .int (nI hx)), (0, .ref h0), (1, .ref tx), (2, .int (nI fr)), (3, .int (nI n)), (5, .int (nI i))]) G.1 G.2.1 d_Na_number_44 hl (by decide) rfl (fun ls hl => ?_)
        refine lv_aload_n G.1 G.2.1 d_Na_number_46 rfl (lv_at hl 1 rfl) ?_
        refine kg (ci := 5) G iNa hP 0 rfl rfl 4 (by decide) q508 rfl rfl d_Na_number_47 ?_
        refine lv_iload G.1 G.2.1 d_Na_number_50 (lv_at hl 0 rfl) ?_
        refine kiald G hP 9 0 rfl rfl (by omega) (by omega) d_Na_number_52 ?_
        obtain ⟨z, hz, ez⟩ := hI.2.2 hx (by omega)
        refine tpi (w := cv z) ez ?_
        refine lv_istore (lv' := [(5, .int (cv z)), (4, .int (nI hx)), (0, .ref h0), (1, .ref tx), (2, .int (nI fr)), (3, .int (nI n))]) G.1 G.2.1 d_Na_number_53 hl (by decide) rfl (fun ls hl => ?_)
        have L_2 : ∀ (k_L_2 : Nat) (z9 : Nat), z9 < k_L_2 → (z9 ≤ k) → ∀ (H : Heap) (locs : List Loc), va_P D CL [(h0, .inr (5, [.ref a1, .ref a2, .ref a3, .ref a4, .ref a5, .ref a6, .ref a7, .ref a8, .ref a9, .int mk, .int stt])), (a1, .inr (3, [.ref b1, .int (nI L)])), (b1, .inl (g 0, n1, .inl fl)), (a2, .inr (3, [.ref b2, .int (nI k)])), (b2, .inl (g 0, n2, .inl fs)), (a3, .inr (3, [.ref b3, .int (nI k)])), (b3, .inl (g 0, n3, .inl fz)), (a4, .inr (3, [.ref b4, .int (nI k)])), (b4, .inl (g 0, n4, .inl fn)), (a5, .inl (g 0, 256, .inl fh)), (tx, .inl (g 1, N, .inl ft))] H → va_D A [(h0, .inr (5, [.ref a1, .ref a2, .ref a3, .ref a4, .ref a5, .ref a6, .ref a7, .ref a8, .ref a9, .int mk, .int stt])), (a1, .inr (3, [.ref b1, .int (nI L)])), (b1, .inl (g 0, n1, .inl fl)), (a2, .inr (3, [.ref b2, .int (nI k)])), (b2, .inl (g 0, n2, .inl fs)), (a3, .inr (3, [.ref b3, .int (nI k)])), (b3, .inl (g 0, n3, .inl fz)), (a4, .inr (3, [.ref b4, .int (nI k)])), (b4, .inl (g 0, n4, .inl fn)), (a5, .inl (g 0, 256, .inl fh)), (tx, .inl (g 1, N, .inl ft))] → va_S A s.heap H locs → ∀ ls, lv_has ls 6 [(5, .int (cv z9)), (4, .int (nI hx)), (0, .ref h0), (1, .ref tx), (2, .int (nI fr)), (3, .int (nI n))] → W p l e (rm_Na_number_g k L n) s m args below meth c H locs 0 0 Q (F0 m 55 ls []) := by
          intro k_L_2
          induction k_L_2 with
          | zero => intro z9 hk_L_2; exact absurd hk_L_2 (Nat.not_lt_zero _)
          | succ k_L_2 ih_L_2 =>
            intro z9 hk_L_2 hz9 H locs hP hD hS ls hl
            refine lv_iload G.1 G.2.1 d_Na_number_55 (lv_at hl 0 rfl) ?_
            refine lv_if_lt (tgt := 90) G.1 G.2.1 d_Na_number_57 (by decide) (fun c57 => ?_) (fun c57 => ?_)
            · skip
              refine lv_aload_n G.1 G.2.1 d_Na_number_90 rfl (lv_at hl 2 rfl) ?_
              refine W.eq (g2 := F0 m 91 ls [.ref h0]) rfl ?_
              refine kg (ci := 5) G iNa hP 0 rfl rfl 1 (by decide) q505 rfl rfl d_Na_number_91 ?_
              refine lv_aload_n G.1 G.2.1 d_Na_number_94 rfl (lv_at hl 2 rfl) ?_
              refine kg (ci := 5) G iNa hP 0 rfl rfl 0 (by decide) q504 rfl rfl d_Na_number_95 ?_
              refine kg (ci := 3) G iIn hP 1 rfl rfl 1 (by decide) q393 rfl rfl d_Na_number_98 ?_
              refine kEiu (wr := [(h0, .inr (5, [.ref a1, .ref a2, .ref a3, .ref a4, .ref a5, .ref a6, .ref a7, .ref a8, .ref a9, .int mk, .int stt])), (a1, .inr (3, [.ref b1, .int (nI L)])), (b1, .inl (g 0, n1, .inl fl)), (a3, .inr (3, [.ref b3, .int (nI k)])), (b3, .inl (g 0, n3, .inl fz)), (a4, .inr (3, [.ref b4, .int (nI k)])), (b4, .inl (g 0, n4, .inl fn)), (a5, .inl (g 0, 256, .inl fh)), (tx, .inl (g 1, N, .inl ft))]) G (kVu (As := [.int (nI L)]) (rest := []) G hP hD hS [3, 4] rfl rfl (c_In_add_u l D g a2 b2 n2 k fs (nI L) H.size (us H) (by omega) (by omega)) w_In_add q469 rfl rfl ⟨Nat.le_of_ble_eq_true rfl, Nat.le_of_ble_eq_true rfl⟩ (fun _ h => absurd h List.not_mem_nil) 3 (ci := 3) rfl rfl rfl hl.1 rfl (Nat.le_of_ble_eq_true rfl) rfl ⟨by show _ ≤ (2 * L + 4 * n + 6 * k + 60); omega, by show _ ≤ 2 * (2 * L + 4 * n + 6 * k + 60); omega⟩ d_Na_number_101) hP hD hS [3, 4] [0, 1, 2, 5, 6, 7, 8, 9, 10] rfl rfl rfl rfl (fun r_3 u_4 H locs hw hP hD hS hzH => ?_)
              obtain ⟨e2, m2, g2⟩ := u_4
              have hw : r_3 = nI k ∧ k + 1 ≤ m2 ∧ g2 k = (nI L) ∧ (∀ i, i < k → g2 i = fs i) ∧ ((k < n2 ∧ m2 = n2) ∨ (¬ k < n2 ∧ m2 = 2 * k + 8)) := hw
              obtain ⟨hr2, hc2, hv2, hg2, hm2⟩ := hw
              have hP : va_P D CL [(h0, .inr (5, [.ref a1, .ref a2, .ref a3, .ref a4, .ref a5, .ref a6, .ref a7, .ref a8, .ref a9, .int mk, .int stt])), (a1, .inr (3, [.ref b1, .int (nI L)])), (b1, .inl (g 0, n1, .inl fl)), (a3, .inr (3, [.ref b3, .int (nI k)])), (b3, .inl (g 0, n3, .inl fz)), (a4, .inr (3, [.ref b4, .int (nI k)])), (b4, .inl (g 0, n4, .inl fn)), (a5, .inl (g 0, 256, .inl fh)), (tx, .inl (g 1, N, .inl ft)), (a2, .inr (3, [.ref e2, .int (nI (k + 1))])), (e2, .inl (g 0, m2, .inl g2))] H := hP
              have hD : va_D A [(h0, .inr (5, [.ref a1, .ref a2, .ref a3, .ref a4, .ref a5, .ref a6, .ref a7, .ref a8, .ref a9, .int mk, .int stt])), (a1, .inr (3, [.ref b1, .int (nI L)])), (b1, .inl (g 0, n1, .inl fl)), (a3, .inr (3, [.ref b3, .int (nI k)])), (b3, .inl (g 0, n3, .inl fz)), (a4, .inr (3, [.ref b4, .int (nI k)])), (b4, .inl (g 0, n4, .inl fn)), (a5, .inl (g 0, 256, .inl fh)), (tx, .inl (g 1, N, .inl ft)), (a2, .inr (3, [.ref e2, .int (nI (k + 1))])), (e2, .inl (g 0, m2, .inl g2))] := hD
              refine W.widen (k := (m2 - n2)) (n := 2 * (m2 - n2)) (by first | (split <;> omega) | omega) (by first | (split <;> omega) | omega) ?_
              refine lv_pop G.1 G.2.1 d_Na_number_104 rfl ?_
              refine lv_aload_n G.1 G.2.1 d_Na_number_105 rfl (lv_at hl 2 rfl) ?_
              refine kg (ci := 5) G iNa hP 0 rfl rfl 2 (by decide) q506 rfl rfl d_Na_number_106 ?_
              refine lv_iload_n G.1 G.2.1 d_Na_number_109 rfl (lv_at hl 5 rfl) ?_
              refine kEiu (wr := [(h0, .inr (5, [.ref a1, .ref a2, .ref a3, .ref a4, .ref a5, .ref a6, .ref a7, .ref a8, .ref a9, .int mk, .int stt])), (a1, .inr (3, [.ref b1, .int (nI L)])), (b1, .inl (g 0, n1, .inl fl)), (a4, .inr (3, [.ref b4, .int (nI k)])), (b4, .inl (g 0, n4, .inl fn)), (a5, .inl (g 0, 256, .inl fh)), (tx, .inl (g 1, N, .inl ft)), (a2, .inr (3, [.ref e2, .int (nI (k + 1))])), (e2, .inl (g 0, m2, .inl g2))]) G (kVu (As := [.int (nI n)]) (rest := []) G hP hD hS [3, 4] rfl rfl (c_In_add_u l D g a3 b3 n3 k fz (nI n) H.size (us H) (by omega) (by omega)) w_In_add q469 rfl rfl ⟨Nat.le_of_ble_eq_true rfl, Nat.le_of_ble_eq_true rfl⟩ (fun _ h => absurd h List.not_mem_nil) 3 (ci := 3) rfl rfl rfl hl.1 rfl (Nat.le_of_ble_eq_true rfl) rfl ⟨by show _ ≤ (2 * L + 4 * n + 6 * k + 60); omega, by show _ ≤ 2 * (2 * L + 4 * n + 6 * k + 60); omega⟩ d_Na_number_110) hP hD hS [3, 4] [0, 1, 2, 5, 6, 7, 8, 9, 10] rfl rfl rfl rfl (fun r_5 u_6 H locs hw hP hD hS hzH => ?_)
              obtain ⟨e3, m3, g3⟩ := u_6
              have hw : r_5 = nI k ∧ k + 1 ≤ m3 ∧ g3 k = (nI n) ∧ (∀ i, i < k → g3 i = fz i) ∧ ((k < n3 ∧ m3 = n3) ∨ (¬ k < n3 ∧ m3 = 2 * k + 8)) := hw
              obtain ⟨hr3, hc3, hv3, hg3, hm3⟩ := hw
              have hP : va_P D CL [(h0, .inr (5, [.ref a1, .ref a2, .ref a3, .ref a4, .ref a5, .ref a6, .ref a7, .ref a8, .ref a9, .int mk, .int stt])), (a1, .inr (3, [.ref b1, .int (nI L)])), (b1, .inl (g 0, n1, .inl fl)), (a4, .inr (3, [.ref b4, .int (nI k)])), (b4, .inl (g 0, n4, .inl fn)), (a5, .inl (g 0, 256, .inl fh)), (tx, .inl (g 1, N, .inl ft)), (a2, .inr (3, [.ref e2, .int (nI (k + 1))])), (e2, .inl (g 0, m2, .inl g2)), (a3, .inr (3, [.ref e3, .int (nI (k + 1))])), (e3, .inl (g 0, m3, .inl g3))] H := hP
              have hD : va_D A [(h0, .inr (5, [.ref a1, .ref a2, .ref a3, .ref a4, .ref a5, .ref a6, .ref a7, .ref a8, .ref a9, .int mk, .int stt])), (a1, .inr (3, [.ref b1, .int (nI L)])), (b1, .inl (g 0, n1, .inl fl)), (a4, .inr (3, [.ref b4, .int (nI k)])), (b4, .inl (g 0, n4, .inl fn)), (a5, .inl (g 0, 256, .inl fh)), (tx, .inl (g 1, N, .inl ft)), (a2, .inr (3, [.ref e2, .int (nI (k + 1))])), (e2, .inl (g 0, m2, .inl g2)), (a3, .inr (3, [.ref e3, .int (nI (k + 1))])), (e3, .inl (g 0, m3, .inl g3))] := hD
              refine W.widen (k := (m2 - n2) + (m3 - n3)) (n := 2 * (m2 - n2) + 2 * (m3 - n3)) (by first | (split <;> omega) | omega) (by first | (split <;> omega) | omega) ?_
              refine lv_pop G.1 G.2.1 d_Na_number_113 rfl ?_
              refine lv_aload_n G.1 G.2.1 d_Na_number_114 rfl (lv_at hl 2 rfl) ?_
              refine W.eq (g2 := F0 m 115 ls [.ref h0]) rfl ?_
              refine kg (ci := 5) G iNa hP 0 rfl rfl 3 (by decide) q507 rfl rfl d_Na_number_115 ?_
              refine lv_aload_n G.1 G.2.1 d_Na_number_118 rfl (lv_at hl 2 rfl) ?_
              refine kg (ci := 5) G iNa hP 0 rfl rfl 4 (by decide) q508 rfl rfl d_Na_number_119 ?_
              refine lv_iload G.1 G.2.1 d_Na_number_122 (lv_at hl 1 rfl) ?_
              refine kiald G hP 5 0 rfl rfl (by omega) (by omega) d_Na_number_124 ?_
              refine tpi (w := cv z) ez ?_
              refine kEiu (wr := [(h0, .inr (5, [.ref a1, .ref a2, .ref a3, .ref a4, .ref a5, .ref a6, .ref a7, .ref a8, .ref a9, .int mk, .int stt])), (a1, .inr (3, [.ref b1, .int (nI L)])), (b1, .inl (g 0, n1, .inl fl)), (a5, .inl (g 0, 256, .inl fh)), (tx, .inl (g 1, N, .inl ft)), (a2, .inr (3, [.ref e2, .int (nI (k + 1))])), (e2, .inl (g 0, m2, .inl g2)), (a3, .inr (3, [.ref e3, .int (nI (k + 1))])), (e3, .inl (g 0, m3, .inl g3))]) G (kVu (As := [.int (cv z)]) (rest := []) G hP hD hS [3, 4] rfl rfl (c_In_add_u l D g a4 b4 n4 k fn (cv z) H.size (us H) (by omega) (by omega)) w_In_add q469 rfl rfl ⟨Nat.le_of_ble_eq_true rfl, Nat.le_of_ble_eq_true rfl⟩ (fun _ h => absurd h List.not_mem_nil) 3 (ci := 3) rfl rfl rfl hl.1 rfl (Nat.le_of_ble_eq_true rfl) rfl ⟨by show _ ≤ (2 * L + 4 * n + 6 * k + 60); omega, by show _ ≤ 2 * (2 * L + 4 * n + 6 * k + 60); omega⟩ d_Na_number_125) hP hD hS [3, 4] [0, 1, 2, 5, 6, 7, 8, 9, 10] rfl rfl rfl rfl (fun r_7 u_8 H locs hw hP hD hS hzH => ?_)
              obtain ⟨e4, m4, g4⟩ := u_8
              have hw : r_7 = nI k ∧ k + 1 ≤ m4 ∧ g4 k = (cv z) ∧ (∀ i, i < k → g4 i = fn i) ∧ ((k < n4 ∧ m4 = n4) ∨ (¬ k < n4 ∧ m4 = 2 * k + 8)) := hw
              obtain ⟨hr4, hc4, hv4, hg4, hm4⟩ := hw
              have hP : va_P D CL [(h0, .inr (5, [.ref a1, .ref a2, .ref a3, .ref a4, .ref a5, .ref a6, .ref a7, .ref a8, .ref a9, .int mk, .int stt])), (a1, .inr (3, [.ref b1, .int (nI L)])), (b1, .inl (g 0, n1, .inl fl)), (a5, .inl (g 0, 256, .inl fh)), (tx, .inl (g 1, N, .inl ft)), (a2, .inr (3, [.ref e2, .int (nI (k + 1))])), (e2, .inl (g 0, m2, .inl g2)), (a3, .inr (3, [.ref e3, .int (nI (k + 1))])), (e3, .inl (g 0, m3, .inl g3)), (a4, .inr (3, [.ref e4, .int (nI (k + 1))])), (e4, .inl (g 0, m4, .inl g4))] H := hP
              have hD : va_D A [(h0, .inr (5, [.ref a1, .ref a2, .ref a3, .ref a4, .ref a5, .ref a6, .ref a7, .ref a8, .ref a9, .int mk, .int stt])), (a1, .inr (3, [.ref b1, .int (nI L)])), (b1, .inl (g 0, n1, .inl fl)), (a5, .inl (g 0, 256, .inl fh)), (tx, .inl (g 1, N, .inl ft)), (a2, .inr (3, [.ref e2, .int (nI (k + 1))])), (e2, .inl (g 0, m2, .inl g2)), (a3, .inr (3, [.ref e3, .int (nI (k + 1))])), (e3, .inl (g 0, m3, .inl g3)), (a4, .inr (3, [.ref e4, .int (nI (k + 1))])), (e4, .inl (g 0, m4, .inl g4))] := hD
              refine W.widen (k := (m2 - n2) + (m3 - n3) + (m4 - n4)) (n := 2 * (m2 - n2) + 2 * (m3 - n3) + 2 * (m4 - n4)) (by first | (split <;> omega) | omega) (by first | (split <;> omega) | omega) ?_
              refine lv_pop G.1 G.2.1 d_Na_number_128 rfl ?_
              refine lv_aload_n G.1 G.2.1 d_Na_number_129 rfl (lv_at hl 2 rfl) ?_
              refine kg (ci := 5) G iNa hP 0 rfl rfl 4 (by decide) q508 rfl rfl d_Na_number_130 ?_
              refine lv_iload G.1 G.2.1 d_Na_number_133 (lv_at hl 1 rfl) ?_
              refine lv_aload_n G.1 G.2.1 d_Na_number_135 rfl (lv_at hl 2 rfl) ?_
              refine kg (ci := 5) G iNa hP 0 rfl rfl 3 (by decide) q507 rfl rfl d_Na_number_136 ?_
              refine W.eq (g2 := F0 m 139 ls [.ref a4, .int (nI hx), .ref a5]) rfl ?_
              refine kg (ci := 3) G iIn hP 9 rfl rfl 1 (by decide) q393 rfl rfl d_Na_number_139 ?_
              refine lv_iconst (v := nI 1) G.1 G.2.1 d_Na_number_142 (by decide) ?_
              refine lv_isub G.1 G.2.1 d_Na_number_143 ?_
              refine tpi (w := nI k) ((pk_sub (by omega)).trans (congrArg nI (by omega))) ?_
              refine kiast G hP hD hS 3 0 rfl rfl (by omega) (by omega) d_Na_number_144 (fun H locs hP hD hS => ?_)
              have hP : va_P D CL [(h0, .inr (5, [.ref a1, .ref a2, .ref a3, .ref a4, .ref a5, .ref a6, .ref a7, .ref a8, .ref a9, .int mk, .int stt])), (a1, .inr (3, [.ref b1, .int (nI L)])), (b1, .inl (g 0, n1, .inl fl)), (a5, .inl (g 0, 256, .inl (upd fh hx (nI k)))), (tx, .inl (g 1, N, .inl ft)), (a2, .inr (3, [.ref e2, .int (nI (k + 1))])), (e2, .inl (g 0, m2, .inl g2)), (a3, .inr (3, [.ref e3, .int (nI (k + 1))])), (e3, .inl (g 0, m3, .inl g3)), (a4, .inr (3, [.ref e4, .int (nI (k + 1))])), (e4, .inl (g 0, m4, .inl g4))] H := hP
              have hD : va_D A [(h0, .inr (5, [.ref a1, .ref a2, .ref a3, .ref a4, .ref a5, .ref a6, .ref a7, .ref a8, .ref a9, .int mk, .int stt])), (a1, .inr (3, [.ref b1, .int (nI L)])), (b1, .inl (g 0, n1, .inl fl)), (a5, .inl (g 0, 256, .inl (upd fh hx (nI k)))), (tx, .inl (g 1, N, .inl ft)), (a2, .inr (3, [.ref e2, .int (nI (k + 1))])), (e2, .inl (g 0, m2, .inl g2)), (a3, .inr (3, [.ref e3, .int (nI (k + 1))])), (e3, .inl (g 0, m3, .inl g3)), (a4, .inr (3, [.ref e4, .int (nI (k + 1))])), (e4, .inl (g 0, m4, .inl g4))] := hD
              refine lv_iload_n G.1 G.2.1 d_Na_number_145 rfl (lv_at hl 4 rfl) ?_
              refine lv_istore (lv' := [(5, .int (nI fr)), (4, .int (nI hx)), (0, .ref h0), (1, .ref tx), (2, .int (nI fr)), (3, .int (nI n))]) G.1 G.2.1 d_Na_number_146 hl (by decide) rfl (fun ls hl => ?_)
              refine W.widen (k := (m2 - n2) + (m3 - n3) + (m4 - n4) + (n1 - n1)) (n := 2 * (m2 - n2) + 2 * (m3 - n3) + 2 * (m4 - n4) + 2 * (n1 - n1)) (by omega) (by omega) ?_
              have L_9 : ∀ (k_L_9 : Nat) (j : Nat) (e1 : Nat) (m1 : Nat) (g1 : Nat → Int32), (n - j) < k_L_9 → (j ≤ n) → (L + j ≤ m1) → (n1 ≤ m1) → (m1 = n1 ∨ m1 ≤ 2 * (L + j) + 8) → (m1 < 2 ^ 24) → ∀ (H : Heap) (locs : List Loc), va_P D CL [(h0, .inr (5, [.ref a1, .ref a2, .ref a3, .ref a4, .ref a5, .ref a6, .ref a7, .ref a8, .ref a9, .int mk, .int stt])), (a1, .inr (3, [.ref e1, .int (nI (L + j))])), (e1, .inl (g 0, m1, .inl g1)), (a5, .inl (g 0, 256, .inl (upd fh hx (nI k)))), (tx, .inl (g 1, N, .inl ft)), (a2, .inr (3, [.ref e2, .int (nI (k + 1))])), (e2, .inl (g 0, m2, .inl g2)), (a3, .inr (3, [.ref e3, .int (nI (k + 1))])), (e3, .inl (g 0, m3, .inl g3)), (a4, .inr (3, [.ref e4, .int (nI (k + 1))])), (e4, .inl (g 0, m4, .inl g4))] H → va_D A [(h0, .inr (5, [.ref a1, .ref a2, .ref a3, .ref a4, .ref a5, .ref a6, .ref a7, .ref a8, .ref a9, .int mk, .int stt])), (a1, .inr (3, [.ref e1, .int (nI (L + j))])), (e1, .inl (g 0, m1, .inl g1)), (a5, .inl (g 0, 256, .inl (upd fh hx (nI k)))), (tx, .inl (g 1, N, .inl ft)), (a2, .inr (3, [.ref e2, .int (nI (k + 1))])), (e2, .inl (g 0, m2, .inl g2)), (a3, .inr (3, [.ref e3, .int (nI (k + 1))])), (e3, .inl (g 0, m3, .inl g3)), (a4, .inr (3, [.ref e4, .int (nI (k + 1))])), (e4, .inl (g 0, m4, .inl g4))] → va_S A s.heap H locs → ∀ ls, lv_has ls 6 [(5, .int (nI (fr + j))), (4, .int (nI hx)), (0, .ref h0), (1, .ref tx), (2, .int (nI fr)), (3, .int (nI n))] → W p l e (rm_Na_number_g k L n) s m args below meth c H locs ((m2 - n2) + (m3 - n3) + (m4 - n4) + (m1 - n1)) (2 * (m2 - n2) + 2 * (m3 - n3) + 2 * (m4 - n4) + 2 * (m1 - n1)) Q (F0 m 148 ls []) := by
                intro k_L_9
                induction k_L_9 with
                | zero => intro j e1 m1 g1 hk_L_9; exact absurd hk_L_9 (Nat.not_lt_zero _)
                | succ k_L_9 ih_L_9 =>
                  intro j e1 m1 g1 hk_L_9 hj hjm hm1 hm1b hm1c H locs hP hD hS ls hl
                  refine lv_iload G.1 G.2.1 d_Na_number_148 (lv_at hl 0 rfl) ?_
                  refine lv_iload_n G.1 G.2.1 d_Na_number_150 rfl (lv_at hl 4 rfl) ?_
                  refine lv_iload_n G.1 G.2.1 d_Na_number_151 rfl (lv_at hl 5 rfl) ?_
                  refine lv_iadd G.1 G.2.1 d_Na_number_152 ?_
                  refine tpi (w := nI (fr + n)) (nI_add _ _) ?_
                  refine lv_icmp_ge (tgt := 174) G.1 G.2.1 d_Na_number_153 (by decide) (fun c153 => ?_) (fun c153 => ?_)
                  · skip
                    have c153 : (fr + n) ≤ (fr + j) := (nI_leI (by omega) (by omega)).mp c153
                    refine lv_aload_n G.1 G.2.1 d_Na_number_174 rfl (lv_at hl 2 rfl) ?_
                    refine kg (ci := 5) G iNa hP 0 rfl rfl 3 (by decide) q507 rfl rfl d_Na_number_175 ?_
                    refine W.eq (g2 := F0 m 178 ls [.ref a4]) rfl ?_
                    refine kg (ci := 3) G iIn hP 9 rfl rfl 1 (by decide) q393 rfl rfl d_Na_number_178 ?_
                    refine lv_iconst (v := nI 1) G.1 G.2.1 d_Na_number_181 (by decide) ?_
                    refine lv_isub G.1 G.2.1 d_Na_number_182 ?_
                    refine tpi (w := nI k) ((pk_sub (by omega)).trans (congrArg nI (by omega))) ?_
                    have hin : n = j := by omega
                    subst hin
                    have hNI : NI (k + 1) (L + n) g2 g3 g4 (upd fh hx (nI k)) := NI.adds hI hn (by omega) hz ez hg2 hv2 hg3 hv3 hg4 hv4
                    have hP : va_P D CL [(h0, .inr (5, [.ref a1, .ref a2, .ref a3, .ref a4, .ref a5, .ref a6, .ref a7, .ref a8, .ref a9, .int mk, .int stt])), (a1, .inr (3, [.ref e1, .int (nI (L + n))])), (e1, .inl (g 0, m1, .inl g1)), (a2, .inr (3, [.ref e2, .int (nI (k + 1))])), (e2, .inl (g 0, m2, .inl g2)), (a3, .inr (3, [.ref e3, .int (nI (k + 1))])), (e3, .inl (g 0, m3, .inl g3)), (a4, .inr (3, [.ref e4, .int (nI (k + 1))])), (e4, .inl (g 0, m4, .inl g4)), (a5, .inl (g 0, 256, .inl (upd fh hx (nI k)))), (tx, .inl (g 1, N, .inl ft))] H := hP.sub [0, 1, 2, 5, 6, 7, 8, 9, 10, 3, 4] rfl
                    have hD : va_D A [(h0, .inr (5, [.ref a1, .ref a2, .ref a3, .ref a4, .ref a5, .ref a6, .ref a7, .ref a8, .ref a9, .int mk, .int stt])), (a1, .inr (3, [.ref e1, .int (nI (L + n))])), (e1, .inl (g 0, m1, .inl g1)), (a2, .inr (3, [.ref e2, .int (nI (k + 1))])), (e2, .inl (g 0, m2, .inl g2)), (a3, .inr (3, [.ref e3, .int (nI (k + 1))])), (e3, .inl (g 0, m3, .inl g3)), (a4, .inr (3, [.ref e4, .int (nI (k + 1))])), (e4, .inl (g 0, m4, .inl g4)), (a5, .inl (g 0, 256, .inl (upd fh hx (nI k)))), (tx, .inl (g 1, N, .inl ft))] := hD.sub [0, 1, 2, 5, 6, 7, 8, 9, 10, 3, 4] (by decide) rfl
                    refine hret (nI k) (k + 1, L + n, g1, g2, g3, g4, upd fh hx (nI k), e1, e2, e3, e4, m1, m2, m3, m4) _ _ _ _ _ ls (show (∃ id : Nat, (nI k) = nI id ∧ id < (k + 1)) ∧ k ≤ (k + 1) ∧ (k + 1) ≤ k + 1 ∧ L ≤ (L + n) ∧ (L + n) ≤ L + n ∧ NI (k + 1) (L + n) g2 g3 g4 (upd fh hx (nI k)) ∧ ((L + n) ≤ m1 ∧ (k + 1) ≤ m2 ∧ (k + 1) ≤ m3 ∧ (k + 1) ≤ m4) ∧ (n1 ≤ m1 ∧ n2 ≤ m2 ∧ n3 ≤ m3 ∧ n4 ≤ m4) ∧ (m1 = n1 ∨ m1 ≤ 2 * (L + n) + 8) ∧ (m2 = n2 ∨ m2 ≤ 2 * (k + 1) + 8) ∧ (m3 = n3 ∨ m3 ≤ 2 * (k + 1) + 8) ∧ (m4 = n4 ∨ m4 ≤ 2 * (k + 1) + 8) from ⟨⟨k, rfl, by omega⟩, by omega, by omega, by omega, by omega, hNI, ⟨by omega, by omega, by omega, by omega⟩, ⟨by omega, by omega, by omega, by omega⟩, by omega, by omega, by omega, by omega⟩) hP hD hS (by show _ ≤ (m1 - n1) + (m2 - n2) + (m3 - n3) + (m4 - n4); omega) (by show _ ≤ 2 * ((m1 - n1) + (m2 - n2) + (m3 - n3) + (m4 - n4)); omega) (by show (m1 - n1) + (m2 - n2) + (m3 - n3) + (m4 - n4) ≤ _; omega) (by show 2 * ((m1 - n1) + (m2 - n2) + (m3 - n3) + (m4 - n4)) ≤ _; omega) d_Na_number_183
                  · skip
                    have c153 : ¬ ((fr + n) ≤ (fr + j)) := fun h => c153 ((nI_leI (by omega) (by omega)).mpr h)
                    refine lv_aload_n G.1 G.2.1 d_Na_number_156 rfl (lv_at hl 2 rfl) ?_
                    refine kg (ci := 5) G iNa hP 0 rfl rfl 0 (by decide) q504 rfl rfl d_Na_number_157 ?_
                    refine W.eq (g2 := F0 m 160 ls [.ref a1]) rfl ?_
                    refine lv_aload_n G.1 G.2.1 d_Na_number_160 rfl (lv_at hl 3 rfl) ?_
                    refine lv_iload G.1 G.2.1 d_Na_number_161 (lv_at hl 0 rfl) ?_
                    refine kbald G hP 4 1 rfl rfl (by omega) (by omega) d_Na_number_163 ?_
                    refine kEiu (wr := [(h0, .inr (5, [.ref a1, .ref a2, .ref a3, .ref a4, .ref a5, .ref a6, .ref a7, .ref a8, .ref a9, .int mk, .int stt])), (a5, .inl (g 0, 256, .inl (upd fh hx (nI k)))), (tx, .inl (g 1, N, .inl ft)), (a2, .inr (3, [.ref e2, .int (nI (k + 1))])), (e2, .inl (g 0, m2, .inl g2)), (a3, .inr (3, [.ref e3, .int (nI (k + 1))])), (e3, .inl (g 0, m3, .inl g3)), (a4, .inr (3, [.ref e4, .int (nI (k + 1))])), (e4, .inl (g 0, m4, .inl g4))]) G (kVu (As := [.int (ft (fr + j))]) (rest := []) G hP hD hS [1, 2] rfl rfl (c_In_add_u l D g a1 e1 m1 (L + j) g1 (ft (fr + j)) H.size (us H) (by omega) (by omega)) w_In_add q469 rfl rfl ⟨Nat.le_of_ble_eq_true rfl, Nat.le_of_ble_eq_true rfl⟩ (fun _ h => absurd h List.not_mem_nil) 1 (ci := 3) rfl rfl rfl hl.1 rfl (Nat.le_of_ble_eq_true rfl) rfl ⟨by show _ ≤ (2 * L + 4 * n + 6 * k + 60); omega, by show _ ≤ 2 * (2 * L + 4 * n + 6 * k + 60); omega⟩ d_Na_number_164) hP hD hS [1, 2] [0, 3, 4, 5, 6, 7, 8, 9, 10] rfl rfl rfl rfl (fun r_10 u_11 H locs hw hP hD hS hzH => ?_)
                    obtain ⟨e9, m9, g9⟩ := u_11
                    have hw : r_10 = nI (L + j) ∧ (L + j) + 1 ≤ m9 ∧ g9 (L + j) = (ft (fr + j)) ∧ (∀ i, i < (L + j) → g9 i = g1 i) ∧ (((L + j) < m1 ∧ m9 = m1) ∨ (¬ (L + j) < m1 ∧ m9 = 2 * (L + j) + 8)) := hw
                    obtain ⟨hr9, hc9, hv9, hg9, hm9⟩ := hw
                    have hP : va_P D CL [(h0, .inr (5, [.ref a1, .ref a2, .ref a3, .ref a4, .ref a5, .ref a6, .ref a7, .ref a8, .ref a9, .int mk, .int stt])), (a5, .inl (g 0, 256, .inl (upd fh hx (nI k)))), (tx, .inl (g 1, N, .inl ft)), (a2, .inr (3, [.ref e2, .int (nI (k + 1))])), (e2, .inl (g 0, m2, .inl g2)), (a3, .inr (3, [.ref e3, .int (nI (k + 1))])), (e3, .inl (g 0, m3, .inl g3)), (a4, .inr (3, [.ref e4, .int (nI (k + 1))])), (e4, .inl (g 0, m4, .inl g4)), (a1, .inr (3, [.ref e9, .int (nI ((L + j) + 1))])), (e9, .inl (g 0, m9, .inl g9))] H := hP
                    have hD : va_D A [(h0, .inr (5, [.ref a1, .ref a2, .ref a3, .ref a4, .ref a5, .ref a6, .ref a7, .ref a8, .ref a9, .int mk, .int stt])), (a5, .inl (g 0, 256, .inl (upd fh hx (nI k)))), (tx, .inl (g 1, N, .inl ft)), (a2, .inr (3, [.ref e2, .int (nI (k + 1))])), (e2, .inl (g 0, m2, .inl g2)), (a3, .inr (3, [.ref e3, .int (nI (k + 1))])), (e3, .inl (g 0, m3, .inl g3)), (a4, .inr (3, [.ref e4, .int (nI (k + 1))])), (e4, .inl (g 0, m4, .inl g4)), (a1, .inr (3, [.ref e9, .int (nI ((L + j) + 1))])), (e9, .inl (g 0, m9, .inl g9))] := hD
                    refine W.widen (k := (m2 - n2) + (m3 - n3) + (m4 - n4) + (m1 - n1) + (m9 - m1)) (n := 2 * (m2 - n2) + 2 * (m3 - n3) + 2 * (m4 - n4) + 2 * (m1 - n1) + 2 * (m9 - m1)) (by first | (split <;> omega) | omega) (by first | (split <;> omega) | omega) ?_
                    refine W.widen (k := (m2 - n2) + (m3 - n3) + (m4 - n4) + (m9 - n1)) (n := 2 * (m2 - n2) + 2 * (m3 - n3) + 2 * (m4 - n4) + 2 * (m9 - n1)) (by omega) (by omega) ?_
                    refine lv_pop G.1 G.2.1 d_Na_number_167 rfl ?_
                    refine lv_iinc (v := nI (fr + j + 1)) (lv' := [(5, .int (nI (fr + j + 1))), (4, .int (nI hx)), (0, .ref h0), (1, .ref tx), (2, .int (nI fr)), (3, .int (nI n))]) G.1 G.2.1 d_Na_number_168 hl (k := 0) rfl (show (nI (fr + j)) + Int32.ofInt 1 = nI (fr + j + 1) from nI_1 _) (by decide) rfl (fun ls hl => ?_)
                    refine lv_goto (tgt := 148) G.1 G.2.1 d_Na_number_171 (by decide) ?_
                    exact ih_L_9 (j + 1) e9 m9 g9 (by omega) (by omega) (by omega) (by omega) (by omega) (by omega) _ _ (hP.sub [0, 9, 10, 1, 2, 3, 4, 5, 6, 7, 8] rfl) (hD.sub [0, 9, 10, 1, 2, 3, 4, 5, 6, 7, 8] (by decide) rfl) hS ls (lv_sub hl [0, 1, 2, 3, 4, 5] rfl)
              exact L_9 (_ + 1) 0 b1 n1 fl (Nat.lt_succ_self _) (Nat.zero_le _) (by omega) (Nat.le_refl _) (Or.inl rfl) hn1 _ _ (hP.sub [0, 1, 2, 3, 4, 5, 6, 7, 8, 9, 10] rfl) (hD.sub [0, 1, 2, 3, 4, 5, 6, 7, 8, 9, 10] (by decide) rfl) hS ls (lv_sub hl [0, 1, 2, 3, 4, 5] rfl)
            · skip
              obtain ⟨w, rfl⟩ := cv_pos c57
              have hl : lv_has ls 6 [(5, .int (nI w)), (4, .int (nI hx)), (0, .ref h0), (1, .ref tx), (2, .int (nI fr)), (3, .int (nI n))] := hl
              refine lv_aload_n G.1 G.2.1 d_Na_number_60 rfl (lv_at hl 2 rfl) ?_
              refine W.eq (g2 := F0 m 61 ls [.ref h0]) rfl ?_
              refine lv_iload G.1 G.2.1 d_Na_number_61 (lv_at hl 0 rfl) ?_
              refine lv_aload_n G.1 G.2.1 d_Na_number_63 rfl (lv_at hl 3 rfl) ?_
              refine lv_iload_n G.1 G.2.1 d_Na_number_64 rfl (lv_at hl 4 rfl) ?_
              refine lv_iload_n G.1 G.2.1 d_Na_number_65 rfl (lv_at hl 5 rfl) ?_
              refine kEi (wr := []) G (kV (As := [.int (nI w), .ref tx, .int (nI fr), .int (nI n)]) (rest := []) G hP hD hS [0, 1, 2, 3, 4, 5, 6, 7, 8, 9, 10] rfl rfl (c_Na_isSame_g l D g h0 a1 a2 a3 a4 a5 a6 a7 a8 a9 b1 b2 b3 b4 n1 n2 n3 n4 mk stt k L fl fs fz fn fh tx N ft w fr n H.size hI hL1 hk2 hk3 hk4 hn1 hn2 hn3 hn4 (by omega) hfr hN) w_Na_isSame q465 rfl rfl ⟨Nat.le_of_ble_eq_true rfl, Nat.le_of_ble_eq_true rfl⟩ (fun _ h => absurd h List.not_mem_nil) 0 (ci := 5) rfl rfl rfl hl.1 rfl (Nat.le_of_ble_eq_true rfl) rfl ⟨by show _ ≤ (2 * L + 4 * n + 6 * k + 60); omega, (by show _ ≤ 2 * (2 * L + 4 * n + 6 * k + 60); omega)⟩ d_Na_number_66) hP hD hS [0, 1, 2, 3, 4, 5, 6, 7, 8, 9, 10] [] rfl rfl rfl rfl (fun r_12 u_13 H locs hw hP hD hS hzH => ?_)
              have hw : r_12 = 0 ∨ r_12 = 1 := hw
              have hP : va_P D CL [(h0, .inr (5, [.ref a1, .ref a2, .ref a3, .ref a4, .ref a5, .ref a6, .ref a7, .ref a8, .ref a9, .int mk, .int stt])), (a1, .inr (3, [.ref b1, .int (nI L)])), (b1, .inl (g 0, n1, .inl fl)), (a2, .inr (3, [.ref b2, .int (nI k)])), (b2, .inl (g 0, n2, .inl fs)), (a3, .inr (3, [.ref b3, .int (nI k)])), (b3, .inl (g 0, n3, .inl fz)), (a4, .inr (3, [.ref b4, .int (nI k)])), (b4, .inl (g 0, n4, .inl fn)), (a5, .inl (g 0, 256, .inl fh)), (tx, .inl (g 1, N, .inl ft))] H := hP
              have hD : va_D A [(h0, .inr (5, [.ref a1, .ref a2, .ref a3, .ref a4, .ref a5, .ref a6, .ref a7, .ref a8, .ref a9, .int mk, .int stt])), (a1, .inr (3, [.ref b1, .int (nI L)])), (b1, .inl (g 0, n1, .inl fl)), (a2, .inr (3, [.ref b2, .int (nI k)])), (b2, .inl (g 0, n2, .inl fs)), (a3, .inr (3, [.ref b3, .int (nI k)])), (b3, .inl (g 0, n3, .inl fz)), (a4, .inr (3, [.ref b4, .int (nI k)])), (b4, .inl (g 0, n4, .inl fn)), (a5, .inl (g 0, 256, .inl fh)), (tx, .inl (g 1, N, .inl ft))] := hD
              refine lv_if_eq (tgt := 75) G.1 G.2.1 d_Na_number_69 (by decide) (fun c69 => ?_) (fun c69 => ?_)
              · skip
                refine lv_aload_n G.1 G.2.1 d_Na_number_75 rfl (lv_at hl 2 rfl) ?_
                refine kg (ci := 5) G iNa hP 0 rfl rfl 3 (by decide) q507 rfl rfl d_Na_number_76 ?_
                refine kg (ci := 3) G iIn hP 7 rfl rfl 0 (by decide) q381 rfl rfl d_Na_number_79 ?_
                refine lv_iload G.1 G.2.1 d_Na_number_82 (lv_at hl 0 rfl) ?_
                refine kiald G hP 8 0 rfl rfl (by omega) (by omega) d_Na_number_84 ?_
                obtain ⟨z1, hz1, ez1⟩ := hI.2.1 w (by omega)
                refine tpi (w := cv z1) ez1 ?_
                refine lv_istore (lv' := [(5, .int (cv z1)), (4, .int (nI hx)), (0, .ref h0), (1, .ref tx), (2, .int (nI fr)), (3, .int (nI n))]) G.1 G.2.1 d_Na_number_85 hl (by decide) rfl (fun ls hl => ?_)
                refine W.eq (g2 := F0 m 87 ls []) rfl ?_
                refine lv_goto (tgt := 55) G.1 G.2.1 d_Na_number_87 (by decide) ?_
                exact ih_L_2 z1 (by omega) (by omega) _ _ (hP.sub [0, 1, 2, 3, 4, 5, 6, 7, 8, 9, 10] rfl) (hD.sub [0, 1, 2, 3, 4, 5, 6, 7, 8, 9, 10] (by decide) rfl) hS ls (lv_sub hl [0, 1, 2, 3, 4, 5] rfl)
              · skip
                refine lv_iload G.1 G.2.1 d_Na_number_72 (lv_at hl 0 rfl) ?_
                have hP : va_P D CL [(h0, .inr (5, [.ref a1, .ref a2, .ref a3, .ref a4, .ref a5, .ref a6, .ref a7, .ref a8, .ref a9, .int mk, .int stt])), (a1, .inr (3, [.ref b1, .int (nI L)])), (b1, .inl (g 0, n1, .inl fl)), (a2, .inr (3, [.ref b2, .int (nI k)])), (b2, .inl (g 0, n2, .inl fs)), (a3, .inr (3, [.ref b3, .int (nI k)])), (b3, .inl (g 0, n3, .inl fz)), (a4, .inr (3, [.ref b4, .int (nI k)])), (b4, .inl (g 0, n4, .inl fn)), (a5, .inl (g 0, 256, .inl fh)), (tx, .inl (g 1, N, .inl ft))] H := hP.sub [0, 1, 2, 3, 4, 5, 6, 7, 8, 9, 10] rfl
                have hD : va_D A [(h0, .inr (5, [.ref a1, .ref a2, .ref a3, .ref a4, .ref a5, .ref a6, .ref a7, .ref a8, .ref a9, .int mk, .int stt])), (a1, .inr (3, [.ref b1, .int (nI L)])), (b1, .inl (g 0, n1, .inl fl)), (a2, .inr (3, [.ref b2, .int (nI k)])), (b2, .inl (g 0, n2, .inl fs)), (a3, .inr (3, [.ref b3, .int (nI k)])), (b3, .inl (g 0, n3, .inl fz)), (a4, .inr (3, [.ref b4, .int (nI k)])), (b4, .inl (g 0, n4, .inl fn)), (a5, .inl (g 0, 256, .inl fh)), (tx, .inl (g 1, N, .inl ft))] := hD.sub [0, 1, 2, 3, 4, 5, 6, 7, 8, 9, 10] (by decide) rfl
                refine hret (nI w) (k, L, fl, fs, fz, fn, fh, b1, b2, b3, b4, n1, n2, n3, n4) _ _ _ _ _ ls (show (∃ id : Nat, (nI w) = nI id ∧ id < k) ∧ k ≤ k ∧ k ≤ k + 1 ∧ L ≤ L ∧ L ≤ L + n ∧ NI k L fs fz fn fh ∧ (L ≤ n1 ∧ k ≤ n2 ∧ k ≤ n3 ∧ k ≤ n4) ∧ (n1 ≤ n1 ∧ n2 ≤ n2 ∧ n3 ≤ n3 ∧ n4 ≤ n4) ∧ (n1 = n1 ∨ n1 ≤ 2 * L + 8) ∧ (n2 = n2 ∨ n2 ≤ 2 * k + 8) ∧ (n3 = n3 ∨ n3 ≤ 2 * k + 8) ∧ (n4 = n4 ∨ n4 ≤ 2 * k + 8) from ⟨⟨w, rfl, by omega⟩, by omega, by omega, by omega, by omega, hI, ⟨by omega, by omega, by omega, by omega⟩, ⟨by omega, by omega, by omega, by omega⟩, Or.inl rfl, Or.inl rfl, Or.inl rfl, Or.inl rfl⟩) hP hD hS (Nat.zero_le _) (Nat.zero_le _) (by show (n1 - n1) + (n2 - n2) + (n3 - n3) + (n4 - n4) ≤ _; omega) (by show 2 * ((n1 - n1) + (n2 - n2) + (n3 - n3) + (n4 - n4)) ≤ _; omega) d_Na_number_74
        exact L_2 (_ + 1) z (Nat.lt_succ_self _) hz _ _ (hP.sub [0, 1, 2, 3, 4, 5, 6, 7, 8, 9, 10] rfl) (hD.sub [0, 1, 2, 3, 4, 5, 6, 7, 8, 9, 10] (by decide) rfl) hS ls (lv_sub hl [0, 1, 2, 3, 4, 5] rfl)
      · skip
        have c11 : ¬ ((fr + n) ≤ i) := fun h => c11 ((nI_leI (by omega) (by omega)).mpr h)
        refine lv_iload G.1 G.2.1 d_Na_number_14 (lv_at hl 4 rfl) ?_
        refine lv_bipush (v := nI 31) G.1 G.2.1 d_Na_number_16 (by decide) ?_
        refine lv_imul G.1 G.2.1 d_Na_number_18 ?_
        refine W.eq (g2 := F0 m 19 ls [.int (x * (nI 31))]) rfl ?_
        refine lv_aload_n G.1 G.2.1 d_Na_number_19 rfl (lv_at hl 1 rfl) ?_
        refine lv_iload G.1 G.2.1 d_Na_number_20 (lv_at hl 5 rfl) ?_
        refine kbald G hP 10 1 rfl rfl (by omega) (by omega) d_Na_number_22 ?_
        refine lv_iadd G.1 G.2.1 d_Na_number_23 ?_
        refine lv_istore (lv' := [(4, .int ((x * (nI 31)) + (ft i))), (0, .ref h0), (1, .ref tx), (2, .int (nI fr)), (3, .int (nI n)), (5, .int (nI i))]) G.1 G.2.1 d_Na_number_24 hl (by decide) rfl (fun ls hl => ?_)
        refine lv_iinc (v := nI (i + 1)) (lv' := [(5, .int (nI (i + 1))), (4, .int ((x * (nI 31)) + (ft i))), (0, .ref h0), (1, .ref tx), (2, .int (nI fr)), (3, .int (nI n))]) G.1 G.2.1 d_Na_number_26 hl (k := 5) rfl (show (nI i) + Int32.ofInt 1 = nI (i + 1) from nI_1 _) (by decide) rfl (fun ls hl => ?_)
        refine lv_goto (tgt := 6) G.1 G.2.1 d_Na_number_29 (by decide) ?_
        exact ih_L_1 (i + 1) ((x * (nI 31)) + (ft i)) (by omega) (by omega) (by omega) _ _ (hP.sub [0, 1, 2, 3, 4, 5, 6, 7, 8, 9, 10] rfl) (hD.sub [0, 1, 2, 3, 4, 5, 6, 7, 8, 9, 10] (by decide) rfl) hS ls (lv_sub hl [2, 3, 4, 5, 1, 0] rfl)
  exact L_1 (_ + 1) fr (nI n) (Nat.lt_succ_self _) (Nat.le_refl _) (Nat.le_add_right _ _) _ _ (hP.sub [0, 1, 2, 3, 4, 5, 6, 7, 8, 9, 10] rfl) (hD.sub [0, 1, 2, 3, 4, 5, 6, 7, 8, 9, 10] (by decide) rfl) hS ls (lv_sub hl [2, 3, 4, 5, 1, 0] rfl)
