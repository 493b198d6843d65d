/-- -1 and the numbers 0, 1 ..: a link of a chain -/
def cv : Nat → Int32
  | 0 => -1
  | z + 1 => nI z
theorem cv_neg {z : Nat} (h : cv z < 0) (hz : z < 2 ^ 31) : z = 0 := by
  cases z with
  | zero => rfl
  | succ z => exact absurd h (nI_pos (by omega))
theorem cv_pos {z : Nat} (h : ¬ cv z < 0) : ∃ w, z = w + 1 := by
  cases z with
  | zero => exact absurd (by decide) h
  | succ z => exact ⟨z, rfl⟩
/-- how many words of a text end before place i -/
def cw (l : List Int32) : Nat → Nat
  | 0 => 0
  | i + 1 => cw l i + if i < l.length ∧ ¬ (l.getD i 0 &&& 255 = nI 32) then 0 else 1
/-- numbers of names: k of them, L letters -/
def NI (k L : Nat) (fs fz fn fh : Nat → Int32) : Prop :=
  (∀ i, i < k → ∃ a b : Nat, fs i = nI a ∧ fz i = nI b ∧ a + b ≤ L ∧ b ≤ 128) ∧ (∀ i, i < k → ∃ z : Nat, z ≤ i ∧ fn i = cv z) ∧ ∀ h, h < 256 → ∃ z : Nat, z ≤ k ∧ fh h = cv z
theorem NI.add {k L n hx z : Nat} {fs fz fn fh : Nat → Int32} (h : NI k L fs fz fn fh) (hn : n ≤ 128) (hhx : hx < 256) (hz : z ≤ k) (ez : fh hx = cv z) : NI (k + 1) (L + n) (upd fs k (nI L)) (upd fz k (nI n)) (upd fn k (cv z)) (upd fh hx (nI k)) := by
  obtain ⟨h1, h2, h3⟩ := h
  refine ⟨fun i hi => ?_, fun i hi => ?_, fun j hj => ?_⟩
  · by_cases e : i = k
    · subst e; exact ⟨L, n, by simp [upd], by simp [upd], by omega, hn⟩
    · obtain ⟨a, b, q1, q2, q3, q4⟩ := h1 i (by omega)
      exact ⟨a, b, by simp [upd, e, q1], by simp [upd, e, q2], by omega, q4⟩
  · by_cases e : i = k
    · subst e; exact ⟨z, hz, by simp [upd]⟩
    · obtain ⟨z, q1, q2⟩ := h2 i (by omega)
      exact ⟨z, q1, by simp [upd, e, q2]⟩
  · by_cases e : j = hx
    · subst e; exact ⟨k + 1, by omega, by simp [upd, cv]⟩
    · obtain ⟨z, q1, q2⟩ := h3 j hj
      exact ⟨z, by omega, by simp [upd, e, q2]⟩
def y_Na_isSame : MethodName := ⟨"ClassWorks$Names", "isSame", "(I[BII)Z"⟩
abbrev b_Na_isSame : ByteArray := prog_7_method_4_code
theorem q505 : Cond.fieldLink "ClassWorks$Names" 20 "ClassWorks$Names" "start" "LClassWorks$Ints;" ∈ lw_ok := lw_okmem (List.mem_of_getElem? (i := 505) (by decide +kernel)) rfl
theorem q381 : Cond.fieldLink "ClassWorks$Names" 101 "ClassWorks$Ints" "row" "[I" ∈ lw_ok := lw_okmem (List.mem_of_getElem? (i := 381) (by decide +kernel)) rfl
theorem q506 : Cond.fieldLink "ClassWorks$Names" 23 "ClassWorks$Names" "size" "LClassWorks$Ints;" ∈ lw_ok := lw_okmem (List.mem_of_getElem? (i := 506) (by decide +kernel)) rfl
theorem q504 : Cond.fieldLink "ClassWorks$Names" 14 "ClassWorks$Names" "letters" "LClassWorks$Ints;" ∈ lw_ok := lw_okmem (List.mem_of_getElem? (i := 504) (by decide +kernel)) rfl
theorem d_Na_isSame_0 : decode b_Na_isSame 0 = .ok (.aload_n 0, 1) := by decide +kernel
theorem d_Na_isSame_1 : decode b_Na_isSame 1 = .ok (.getfield 20, 3) := by decide +kernel
theorem d_Na_isSame_4 : decode b_Na_isSame 4 = .ok (.getfield 101, 3) := by decide +kernel
theorem d_Na_isSame_7 : decode b_Na_isSame 7 = .ok (.iload_n 1, 1) := by decide +kernel
theorem d_Na_isSame_8 : decode b_Na_isSame 8 = .ok (.iaload, 1) := by decide +kernel
theorem d_Na_isSame_9 : decode b_Na_isSame 9 = .ok (.istore 5, 2) := by decide +kernel
theorem d_Na_isSame_11 : decode b_Na_isSame 11 = .ok (.aload_n 0, 1) := by decide +kernel
theorem d_Na_isSame_12 : decode b_Na_isSame 12 = .ok (.getfield 23, 3) := by decide +kernel
theorem d_Na_isSame_15 : decode b_Na_isSame 15 = .ok (.getfield 101, 3) := by decide +kernel
theorem d_Na_isSame_18 : decode b_Na_isSame 18 = .ok (.iload_n 1, 1) := by decide +kernel
theorem d_Na_isSame_19 : decode b_Na_isSame 19 = .ok (.iaload, 1) := by decide +kernel
theorem d_Na_isSame_20 : decode b_Na_isSame 20 = .ok (.iload 4, 2) := by decide +kernel
theorem d_Na_isSame_22 : decode b_Na_isSame 22 = .ok (.if_icmp .eq 5, 3) := by decide +kernel
theorem d_Na_isSame_25 : decode b_Na_isSame 25 = .ok (.iconst 0, 1) := by decide +kernel
theorem d_Na_isSame_26 : decode b_Na_isSame 26 = .ok (.ireturn, 1) := by decide +kernel
theorem d_Na_isSame_27 : decode b_Na_isSame 27 = .ok (.iconst 0, 1) := by decide +kernel
theorem d_Na_isSame_28 : decode b_Na_isSame 28 = .ok (.istore 6, 2) := by decide +kernel
theorem d_Na_isSame_30 : decode b_Na_isSame 30 = .ok (.iload 6, 2) := by decide +kernel
theorem d_Na_isSame_32 : decode b_Na_isSame 32 = .ok (.iload 4, 2) := by decide +kernel
theorem d_Na_isSame_34 : decode b_Na_isSame 34 = .ok (.if_icmp .ge 33, 3) := by decide +kernel
theorem d_Na_isSame_37 : decode b_Na_isSame 37 = .ok (.aload_n 0, 1) := by decide +kernel
theorem d_Na_isSame_38 : decode b_Na_isSame 38 = .ok (.getfield 14, 3) := by decide +kernel
theorem d_Na_isSame_41 : decode b_Na_isSame 41 = .ok (.getfield 101, 3) := by decide +kernel
theorem d_Na_isSame_44 : decode b_Na_isSame 44 = .ok (.iload 5, 2) := by decide +kernel
theorem d_Na_isSame_46 : decode b_Na_isSame 46 = .ok (.iload 6, 2) := by decide +kernel
theorem d_Na_isSame_48 : decode b_Na_isSame 48 = .ok (.iadd, 1) := by decide +kernel
theorem d_Na_isSame_49 : decode b_Na_isSame 49 = .ok (.iaload, 1) := by decide +kernel
theorem d_Na_isSame_50 : decode b_Na_isSame 50 = .ok (.aload_n 2, 1) := by decide +kernel
theorem d_Na_isSame_51 : decode b_Na_isSame 51 = .ok (.iload_n 3, 1) := by decide +kernel
theorem d_Na_isSame_52 : decode b_Na_isSame 52 = .ok (.iload 6, 2) := by decide +kernel
theorem d_Na_isSame_54 : decode b_Na_isSame 54 = .ok (.iadd, 1) := by decide +kernel
theorem d_Na_isSame_55 : decode b_Na_isSame 55 = .ok (.baload, 1) := by decide +kernel
theorem d_Na_isSame_56 : decode b_Na_isSame 56 = .ok (.if_icmp .eq 5, 3) := by decide +kernel
theorem d_Na_isSame_59 : decode b_Na_isSame 59 = .ok (.iconst 0, 1) := by decide +kernel
theorem d_Na_isSame_60 : decode b_Na_isSame 60 = .ok (.ireturn, 1) := by decide +kernel
theorem d_Na_isSame_61 : decode b_Na_isSame 61 = .ok (.iinc 6 1, 3) := by decide +kernel
theorem d_Na_isSame_64 : decode b_Na_isSame 64 = .ok (.goto (-34), 3) := by decide +kernel
theorem d_Na_isSame_67 : decode b_Na_isSame 67 = .ok (.iconst 1, 1) := by decide +kernel
theorem d_Na_isSame_68 : decode b_Na_isSame 68 = .ok (.ireturn, 1) := by decide +kernel
abbrev rm_Na_isSame : Room := { frames := 0, cells := 0, slots := 0, locals := 0 }
set_option maxHeartbeats 4000000 in
set_option maxRecDepth 100000 in
/-- isSame(id, text, 0, n) -/
theorem c_Na_isSame (l : Launch) (D : va_G) (g : Nat → ClassId) (h0 a1 a2 a3 a4 a5 a6 a7 a8 a9 b1 b2 b3 b4 : Nat) (mk stt : Int32) (k L : Nat) (fl fs fz fn fh : Nat → Int32) (tx : Nat) (ft : Nat → Int32) (w n : Nat) (sz : Nat) (hI : NI k L fs fz fn fh) (hw : w < k) (hk : k ≤ 256) (hL : L ≤ 2048) (hn : n ≤ 128) : Met l y_Na_isSame (mw y_Na_isSame b_Na_isSame 7 (some (.boolean))) (rm_Na_isSame) (PC g D [] [.ref h0, .int (nI w), .ref tx, .int (nI 0), .int (nI n)] sz [(h0, .inr (5, [.ref a1, .ref a2, .ref a3, .ref a4, .ref a5, .ref a6, .ref a7, .ref a8, .ref a9, .int mk, .int stt])), (a1, .inr (3, [.ref b1, .int (nI L)])), (b1, .inl (g 0, 2048, .inl fl)), (a2, .inr (3, [.ref b2, .int (nI k)])), (b2, .inl (g 0, 256, .inl fs)), (a3, .inr (3, [.ref b3, .int (nI k)])), (b3, .inl (g 0, 256, .inl fz)), (a4, .inr (3, [.ref b4, .int (nI k)])), (b4, .inl (g 0, 256, .inl fn)), (a5, .inl (g 0, 256, .inl fh)), (tx, .inl (g 1, 128, .inl ft))]) (va_Qi (fun (r : Int32) (u : Unit) => r = 0 ∨ r = 1) (QW D (va_A [(h0, .inr (5, [.ref a1, .ref a2, .ref a3, .ref a4, .ref a5, .ref a6, .ref a7, .ref a8, .ref a9, .int mk, .int stt])), (a1, .inr (3, [.ref b1, .int (nI L)])), (b1, .inl (g 0, 2048, .inl fl)), (a2, .inr (3, [.ref b2, .int (nI k)])), (b2, .inl (g 0, 256, .inl fs)), (a3, .inr (3, [.ref b3, .int (nI k)])), (b3, .inl (g 0, 256, .inl fz)), (a4, .inr (3, [.ref b4, .int (nI k)])), (b4, .inl (g 0, 256, .inl fn)), (a5, .inl (g 0, 256, .inl fh)), (tx, .inl (g 1, 128, .inl ft))] sz) (fun u : Unit => [(h0, .inr (5, [.ref a1, .ref a2, .ref a3, .ref a4, .ref a5, .ref a6, .ref a7, .ref a8, .ref a9, .int mk, .int stt])), (a1, .inr (3, [.ref b1, .int (nI L)])), (b1, .inl (g 0, 2048, .inl fl)), (a2, .inr (3, [.ref b2, .int (nI k)])), (b2, .inl (g 0, 256, .inl fs)), (a3, .inr (3, [.ref b3, .int (nI k)])), (b3, .inl (g 0, 256, .inl fz)), (a4, .inr (3, [.ref b4, .int (nI k)])), (b4, .inl (g 0, 256, .inl fn)), (a5, .inl (g 0, 256, .inl fh)), (tx, .inl (g 1, 128, .inl ft))])) (va_A [(h0, .inr (5, [.ref a1, .ref a2, .ref a3, .ref a4, .ref a5, .ref a6, .ref a7, .ref a8, .ref a9, .int mk, .int stt])), (a1, .inr (3, [.ref b1, .int (nI L)])), (b1, .inl (g 0, 2048, .inl fl)), (a2, .inr (3, [.ref b2, .int (nI k)])), (b2, .inl (g 0, 256, .inl fs)), (a3, .inr (3, [.ref b3, .int (nI k)])), (b3, .inl (g 0, 256, .inl fz)), (a4, .inr (3, [.ref b4, .int (nI k)])), (b4, .inl (g 0, 256, .inl fn)), (a5, .inl (g 0, 256, .inl fh)), (tx, .inl (g 1, 128, .inl ft))] sz)) 0 0 (va_A [(h0, .inr (5, [.ref a1, .ref a2, .ref a3, .ref a4, .ref a5, .ref a6, .ref a7, .ref a8, .ref a9, .int mk, .int stt])), (a1, .inr (3, [.ref b1, .int (nI L)])), (b1, .inl (g 0, 2048, .inl fl)), (a2, .inr (3, [.ref b2, .int (nI k)])), (b2, .inl (g 0, 256, .inl fs)), (a3, .inr (3, [.ref b3, .int (nI k)])), (b3, .inl (g 0, 256, .inl fz)), (a4, .inr (3, [.ref b4, .int (nI k)])), (b4, .inl (g 0, 256, .inl fn)), (a5, .inl (g 0, 256, .inl fh)), (tx, .inl (g 1, 128, .inl ft))] sz) := by
  refine ofZ (by decide +kernel) (Nat.le_of_ble_eq_true rfl) ?_
  intro p e s m args below meth c A Q ls H locs G hsz hP hD hS hl hret
  subst hsz
  have hl : lv_has ls 7 [(0, .ref h0), (1, .int (nI w)), (2, .ref tx), (3, .int (nI 0)), (4, .int (nI n))] := hl
  refine lv_aload_n G.1 G.2.1 d_Na_isSame_0 rfl (lv_at hl 0 rfl) ?_
  refine kg (ci := 5) G iNa hP 0 rfl rfl 1 (by decide) q505 rfl rfl d_Na_isSame_1 ?_
  refine kg (ci := 3) G iIn hP 3 rfl rfl 0 (by decide) q381 rfl rfl d_Na_isSame_4 ?_
  refine lv_iload_n G.1 G.2.1 d_Na_isSame_7 rfl (lv_at hl 1 rfl) ?_
  refine kiald G hP 4 0 rfl rfl (by omega) (by omega) d_Na_isSame_8 ?_
  obtain ⟨a, b, ha, hb, hab, hb2⟩ := hI.1 w hw
  refine tpi (w := nI a) ha ?_
  refine lv_istore (lv' := [(5, .int (nI a)), (0, .ref h0), (1, .int (nI w)), (2, .ref tx), (3, .int (nI 0)), (4, .int (nI n))]) G.1 G.2.1 d_Na_isSame_9 hl (by decide) rfl (fun ls hl => ?_)
  refine lv_aload_n G.1 G.2.1 d_Na_isSame_11 rfl (lv_at hl 1 rfl) ?_
  refine kg (ci := 5) G iNa hP 0 rfl rfl 2 (by decide) q506 rfl rfl d_Na_isSame_12 ?_
  refine kg (ci := 3) G iIn hP 5 rfl rfl 0 (by decide) q381 rfl rfl d_Na_isSame_15 ?_
  refine lv_iload_n G.1 G.2.1 d_Na_isSame_18 rfl (lv_at hl 2 rfl) ?_
  refine kiald G hP 6 0 rfl rfl (by omega) (by omega) d_Na_isSame_19 ?_
  refine tpi (w := nI b) hb ?_
  refine W.eq (g2 := F0 m 20 ls [.int (nI b)]) rfl ?_
  refine lv_iload G.1 G.2.1 d_Na_isSame_20 (lv_at hl 5 rfl) ?_
  refine lv_icmp_eq (tgt := 27) G.1 G.2.1 d_Na_isSame_22 (by decide) (fun c22 => ?_) (fun c22 => ?_)
  · skip
    have c22 : b = n := (nI_eq (by omega) (by omega)).mp c22
    have c22 : n = b := c22.symm
    subst c22
    refine lv_iconst (v := nI 0) G.1 G.2.1 d_Na_isSame_27 (by decide) ?_
    refine lv_istore (lv' := [(6, .int (nI 0)), (5, .int (nI a)), (0, .ref h0), (1, .int (nI w)), (2, .ref tx), (3, .int (nI 0)), (4, .int (nI n))]) G.1 G.2.1 d_Na_isSame_28 hl (by decide) rfl (fun ls hl => ?_)
    have L_1 : ∀ (k_L_1 : Nat) (i : Nat), (n - i) < k_L_1 → (i ≤ n) → ∀ (H : Heap) (locs : List Loc), va_P D CL [(h0, .inr (5, [.ref a1, .ref a2, .ref a3, .ref a4, .ref a5, .ref a6, .ref a7, .ref a8, .ref a9, .int mk, .int stt])), (a1, .inr (3, [.ref b1, .int (nI L)])), (b1, .inl (g 0, 2048, .inl fl)), (a2, .inr (3, [.ref b2, .int (nI k)])), (b2, .inl (g 0, 256, .inl fs)), (a3, .inr (3, [.ref b3, .int (nI k)])), (b3, .inl (g 0, 256, .inl fz)), (a4, .inr (3, [.ref b4, .int (nI k)])), (b4, .inl (g 0, 256, .inl fn)), (a5, .inl (g 0, 256, .inl fh)), (tx, .inl (g 1, 128, .inl ft))] H → va_D A [(h0, .inr (5, [.ref a1, .ref a2, .ref a3, .ref a4, .ref a5, .ref a6, .ref a7, .ref a8, .ref a9, .int mk, .int stt])), (a1, .inr (3, [.ref b1, .int (nI L)])), (b1, .inl (g 0, 2048, .inl fl)), (a2, .inr (3, [.ref b2, .int (nI k)])), (b2, .inl (g 0, 256, .inl fs)), (a3, .inr (3, [.ref b3, .int (nI k)])), (b3, .inl (g 0, 256, .inl fz)), (a4, .inr (3, [.ref b4, .int (nI k)])), (b4, .inl (g 0, 256, .inl fn)), (a5, .inl (g 0, 256, .inl fh)), (tx, .inl (g 1, 128, .inl ft))] → va_S A s.heap H locs → ∀ ls, lv_has ls 7 [(5, .int (nI a)), (0, .ref h0), (1, .int (nI w)), (2, .ref tx), (3, .int (nI 0)), (4, .int (nI n)), (6, .int (nI i))] → W p l e rm_Na_isSame s m args below meth c H locs 0 0 Q (F0 m 30 ls []) := by
      intro k_L_1
      induction k_L_1 with
      | zero => intro i hk_L_1; exact absurd hk_L_1 (Nat.not_lt_zero _)
      | succ k_L_1 ih_L_1 =>
        intro i hk_L_1 hi H locs hP hD hS ls hl
        refine lv_iload G.1 G.2.1 d_Na_isSame_30 (lv_at hl 6 rfl) ?_
        refine lv_iload G.1 G.2.1 d_Na_isSame_32 (lv_at hl 5 rfl) ?_
        refine lv_icmp_ge (tgt := 67) G.1 G.2.1 d_Na_isSame_34 (by decide) (fun c34 => ?_) (fun c34 => ?_)
        · skip
          have c34 : n ≤ i := (nI_leI (by omega) (by omega)).mp c34
          refine lv_iconst (v := nI 1) G.1 G.2.1 d_Na_isSame_67 (by decide) ?_
          have hP : va_P D CL [(h0, .inr (5, [.ref a1, .ref a2, .ref a3, .ref a4, .ref a5, .ref a6, .ref a7, .ref a8, .ref a9, .int mk, .int stt])), (a1, .inr (3, [.ref b1, .int (nI L)])), (b1, .inl (g 0, 2048, .inl fl)), (a2, .inr (3, [.ref b2, .int (nI k)])), (b2, .inl (g 0, 256, .inl fs)), (a3, .inr (3, [.ref b3, .int (nI k)])), (b3, .inl (g 0, 256, .inl fz)), (a4, .inr (3, [.ref b4, .int (nI k)])), (b4, .inl (g 0, 256, .inl fn)), (a5, .inl (g 0, 256, .inl fh)), (tx, .inl (g 1, 128, .inl ft))] H := hP.sub [0, 1, 2, 3, 4, 5, 6, 7, 8, 9, 10] rfl
          have hD : va_D A [(h0, .inr (5, [.ref a1, .ref a2, .ref a3, .ref a4, .ref a5, .ref a6, .ref a7, .ref a8, .ref a9, .int mk, .int stt])), (a1, .inr (3, [.ref b1, .int (nI L)])), (b1, .inl (g 0, 2048, .inl fl)), (a2, .inr (3, [.ref b2, .int (nI k)])), (b2, .inl (g 0, 256, .inl fs)), (a3, .inr (3, [.ref b3, .int (nI k)])), (b3, .inl (g 0, 256, .inl fz)), (a4, .inr (3, [.ref b4, .int (nI k)])), (b4, .inl (g 0, 256, .inl fn)), (a5, .inl (g 0, 256, .inl fh)), (tx, .inl (g 1, 128, .inl ft))] := hD.sub [0, 1, 2, 3, 4, 5, 6, 7, 8, 9, 10] (by decide) rfl
          refine hret (nI 1) () _ _ _ _ _ ls (by decide) (Or.inr rfl) hP hD hS (Nat.le_of_ble_eq_true rfl) (Nat.le_of_ble_eq_true rfl) d_Na_isSame_68
        · skip
          have c34 : ¬ (n ≤ i) := fun h => c34 ((nI_leI (by omega) (by omega)).mpr h)
          refine lv_aload_n G.1 G.2.1 d_Na_isSame_37 rfl (lv_at hl 1 rfl) ?_
          refine kg (ci := 5) G iNa hP 0 rfl rfl 0 (by decide) q504 rfl rfl d_Na_isSame_38 ?_
          refine kg (ci := 3) G iIn hP 1 rfl rfl 0 (by decide) q381 rfl rfl d_Na_isSame_41 ?_
          refine lv_iload G.1 G.2.1 d_Na_isSame_44 (lv_at hl 0 rfl) ?_
          refine lv_iload G.1 G.2.1 d_Na_isSame_46 (lv_at hl 6 rfl) ?_
          refine lv_iadd G.1 G.2.1 d_Na_isSame_48 ?_
          refine tpi (w := nI (a + i)) (nI_add _ _) ?_
          refine W.eq (g2 := F0 m 49 ls [.int (nI (a + i)), .ref b1]) rfl ?_
          refine kiald G hP 2 0 rfl rfl (by omega) (by omega) d_Na_isSame_49 ?_
          refine lv_aload_n G.1 G.2.1 d_Na_isSame_50 rfl (lv_at hl 3 rfl) ?_
          refine lv_iload_n G.1 G.2.1 d_Na_isSame_51 rfl (lv_at hl 4 rfl) ?_
          refine lv_iload G.1 G.2.1 d_Na_isSame_52 (lv_at hl 6 rfl) ?_
          refine lv_iadd G.1 G.2.1 d_Na_isSame_54 ?_
          refine tpi (w := nI (0 + i)) (nI_add _ _) ?_
          refine kbald G hP 10 1 rfl rfl (by omega) (by omega) d_Na_isSame_55 ?_
          refine lv_icmp_eq (tgt := 61) G.1 G.2.1 d_Na_isSame_56 (by decide) (fun c56 => ?_) (fun c56 => ?_)
          · skip
            refine lv_iinc (v := nI (i + 1)) (lv' := [(6, .int (nI (i + 1))), (5, .int (nI a)), (0, .ref h0), (1, .int (nI w)), (2, .ref tx), (3, .int (nI 0)), (4, .int (nI n))]) G.1 G.2.1 d_Na_isSame_61 hl (k := 6) rfl (show (nI i) + Int32.ofInt 1 = nI (i + 1) from nI_1 _) (by decide) rfl (fun ls hl => ?_)
            refine lv_goto (tgt := 30) G.1 G.2.1 d_Na_isSame_64 (by decide) ?_
            exact ih_L_1 (i + 1) (by omega) (by omega) _ _ (hP.sub [0, 1, 2, 3, 4, 5, 6, 7, 8, 9, 10] rfl) (hD.sub [0, 1, 2, 3, 4, 5, 6, 7, 8, 9, 10] (by decide) rfl) hS ls (lv_sub hl [1, 2, 3, 4, 5, 6, 0] rfl)
          · skip
            refine lv_iconst (v := nI 0) G.1 G.2.1 d_Na_isSame_59 (by decide) ?_
            have hP : va_P D CL [(h0, .inr (5, [.ref a1, .ref a2, .ref a3, .ref a4, .ref a5, .ref a6, .ref a7, .ref a8, .ref a9, .int mk, .int stt])), (a1, .inr (3, [.ref b1, .int (nI L)])), (b1, .inl (g 0, 2048, .inl fl)), (a2, .inr (3, [.ref b2, .int (nI k)])), (b2, .inl (g 0, 256, .inl fs)), (a3, .inr (3, [.ref b3, .int (nI k)])), (b3, .inl (g 0, 256, .inl fz)), (a4, .inr (3, [.ref b4, .int (nI k)])), (b4, .inl (g 0, 256, .inl fn)), (a5, .inl (g 0, 256, .inl fh)), (tx, .inl (g 1, 128, .inl ft))] H := hP.sub [0, 1, 2, 3, 4, 5, 6, 7, 8, 9, 10] rfl
            have hD : va_D A [(h0, .inr (5, [.ref a1, .ref a2, .ref a3, .ref a4, .ref a5, .ref a6, .ref a7, .ref a8, .ref a9, .int mk, .int stt])), (a1, .inr (3, [.ref b1, .int (nI L)])), (b1, .inl (g 0, 2048, .inl fl)), (a2, .inr (3, [.ref b2, .int (nI k)])), (b2, .inl (g 0, 256, .inl fs)), (a3, .inr (3, [.ref b3, .int (nI k)])), (b3, .inl (g 0, 256, .inl fz)), (a4, .inr (3, [.ref b4, .int (nI k)])), (b4, .inl (g 0, 256, .inl fn)), (a5, .inl (g 0, 256, .inl fh)), (tx, .inl (g 1, 128, .inl ft))] := hD.sub [0, 1, 2, 3, 4, 5, 6, 7, 8, 9, 10] (by decide) rfl
            refine hret (nI 0) () _ _ _ _ _ ls (by decide) (Or.inl rfl) hP hD hS (Nat.le_of_ble_eq_true rfl) (Nat.le_of_ble_eq_true rfl) d_Na_isSame_60
    exact L_1 (_ + 1) 0 (Nat.lt_succ_self _) (Nat.zero_le _) _ _ (hP.sub [0, 1, 2, 3, 4, 5, 6, 7, 8, 9, 10] rfl) (hD.sub [0, 1, 2, 3, 4, 5, 6, 7, 8, 9, 10] (by decide) rfl) hS ls (lv_sub hl [1, 2, 3, 4, 5, 6, 0] rfl)
  · skip
    have c22 : ¬ (b = n) := fun h => c22 ((nI_eq (by omega) (by omega)).mpr h)
    refine lv_iconst (v := nI 0) G.1 G.2.1 d_Na_isSame_25 (by decide) ?_
    have hP : va_P D CL [(h0, .inr (5, [.ref a1, .ref a2, .ref a3, .ref a4, .ref a5, .ref a6, .ref a7, .ref a8, .ref a9, .int mk, .int stt])), (a1, .inr (3, [.ref b1, .int (nI L)])), (b1, .inl (g 0, 2048, .inl fl)), (a2, .inr (3, [.ref b2, .int (nI k)])), (b2, .inl (g 0, 256, .inl fs)), (a3, .inr (3, [.ref b3, .int (nI k)])), (b3, .inl (g 0, 256, .inl fz)), (a4, .inr (3, [.ref b4, .int (nI k)])), (b4, .inl (g 0, 256, .inl fn)), (a5, .inl (g 0, 256, .inl fh)), (tx, .inl (g 1, 128, .inl ft))] H := hP.sub [0, 1, 2, 3, 4, 5, 6, 7, 8, 9, 10] rfl
    have hD : va_D A [(h0, .inr (5, [.ref a1, .ref a2, .ref a3, .ref a4, .ref a5, .ref a6, .ref a7, .ref a8, .ref a9, .int mk, .int stt])), (a1, .inr (3, [.ref b1, .int (nI L)])), (b1, .inl (g 0, 2048, .inl fl)), (a2, .inr (3, [.ref b2, .int (nI k)])), (b2, .inl (g 0, 256, .inl fs)), (a3, .inr (3, [.ref b3, .int (nI k)])), (b3, .inl (g 0, 256, .inl fz)), (a4, .inr (3, [.ref b4, .int (nI k)])), (b4, .inl (g 0, 256, .inl fn)), (a5, .inl (g 0, 256, .inl fh)), (tx, .inl (g 1, 128, .inl ft))] := hD.sub [0, 1, 2, 3, 4, 5, 6, 7, 8, 9, 10] (by decide) rfl
    refine hret (nI 0) () _ _ _ _ _ ls (by decide) (Or.inl rfl) hP hD hS (Nat.le_of_ble_eq_true rfl) (Nat.le_of_ble_eq_true rfl) d_Na_isSame_26
def y_Na_number : MethodName := ⟨"ClassWorks$Names", "number", "([BII)I"⟩
abbrev b_Na_number : ByteArray := prog_7_method_3_code
theorem q508 : Cond.fieldLink "ClassWorks$Names" 29 "ClassWorks$Names" "head" "[I" ∈ lw_ok := lw_okmem (List.mem_of_getElem? (i := 508) (by decide +kernel)) rfl
theorem q393 : Cond.fieldLink "ClassWorks$Names" 104 "ClassWorks$Ints" "size" "I" ∈ lw_ok := lw_okmem (List.mem_of_getElem? (i := 393) (by decide +kernel)) rfl
theorem q472 : Cond.code y_In_add b_In_add 2 (some .int) ∈ lw_ok := lw_okmem (List.mem_of_getElem? (i := 472) (by decide +kernel)) rfl
theorem q331 : Cond.initialized "ClassWorks$Ints" ∈ lw_ok := lw_okmem (List.mem_of_getElem? (i := 331) (by decide +kernel)) rfl
theorem q470 : Cond.instanceMethod y_In_add ∈ lw_ok := lw_okmem (List.mem_of_getElem? (i := 470) (by decide +kernel)) rfl
theorem q471 : Cond.selects y_In_add.cls y_In_add y_In_add ∈ lw_ok := lw_okmem (List.mem_of_getElem? (i := 471) (by decide +kernel)) rfl
theorem w_In_add : CWv y_In_add b_In_add 2 (some .int) 1 ∧ Cond.instanceMethod y_In_add ∈ lw_ok ∧ Cond.selects y_In_add.cls y_In_add y_In_add ∈ lw_ok := ⟨⟨q472, q331, by decide +kernel, by decide +kernel, by decide +kernel⟩, q470, q471⟩
theorem q469 : Cond.methodLink "ClassWorks$Names" 106 y_In_add ∈ lw_ok := lw_okmem (List.mem_of_getElem? (i := 469) (by decide +kernel)) rfl
theorem q507 : Cond.fieldLink "ClassWorks$Names" 26 "ClassWorks$Names" "next" "LClassWorks$Ints;" ∈ lw_ok := lw_okmem (List.mem_of_getElem? (i := 507) (by decide +kernel)) rfl
theorem q468 : Cond.code y_Na_isSame b_Na_isSame 7 (some (.boolean)) ∈ lw_ok := lw_okmem (List.mem_of_getElem? (i := 468) (by decide +kernel)) rfl
theorem q330 : Cond.initialized "ClassWorks$Names" ∈ lw_ok := lw_okmem (List.mem_of_getElem? (i := 330) (by decide +kernel)) rfl
theorem q467 : Cond.instanceMethod y_Na_isSame ∈ lw_ok := lw_okmem (List.mem_of_getElem? (i := 467) (by decide +kernel)) rfl
theorem q1 : Cond.selects y_Na_isSame.cls y_Na_isSame y_Na_isSame ∈ lw_ok := lw_okmem (List.mem_of_getElem? (i := 1) (by decide +kernel)) rfl
theorem w_Na_isSame : CWv y_Na_isSame b_Na_isSame 7 (some (.boolean)) 4 ∧ Cond.instanceMethod y_Na_isSame ∈ lw_ok ∧ Cond.selects y_Na_isSame.cls y_Na_isSame y_Na_isSame ∈ lw_ok := ⟨⟨q468, q330, by decide +kernel, by decide +kernel, by decide +kernel⟩, q467, q1⟩
theorem q465 : Cond.methodLink "ClassWorks$Names" 97 y_Na_isSame ∈ lw_ok := lw_okmem (List.mem_of_getElem? (i := 465) (by decide +kernel)) rfl
theorem d_Na_number_0 : decode b_Na_number 0 = .ok (.iload_n 3, 1) := by decide +kernel
theorem d_Na_number_1 : decode b_Na_number 1 = .ok (.istore 4, 2) := by decide +kernel
theorem d_Na_number_3 : decode b_Na_number 3 = .ok (.iload_n 2, 1) := by decide +kernel
theorem d_Na_number_4 : decode b_Na_number 4 = .ok (.istore 5, 2) := by decide +kernel
theorem d_Na_number_6 : decode b_Na_number 6 = .ok (.iload 5, 2) := by decide +kernel
theorem d_Na_number_8 : decode b_Na_number 8 = .ok (.iload_n 2, 1) := by decide +kernel
theorem d_Na_number_9 : decode b_Na_number 9 = .ok (.iload_n 3, 1) := by decide +kernel
theorem d_Na_number_10 : decode b_Na_number 10 = .ok (.iadd, 1) := by decide +kernel
theorem d_Na_number_11 : decode b_Na_number 11 = .ok (.if_icmp .ge 21, 3) := by decide +kernel
theorem d_Na_number_14 : decode b_Na_number 14 = .ok (.iload 4, 2) := by decide +kernel
theorem d_Na_number_16 : decode b_Na_number 16 = .ok (.bipush 31, 2) := by decide +kernel
theorem d_Na_number_18 : decode b_Na_number 18 = .ok (.imul, 1) := by decide +kernel
theorem d_Na_number_19 : decode b_Na_number 19 = .ok (.aload_n 1, 1) := by decide +kernel
theorem d_Na_number_20 : decode b_Na_number 20 = .ok (.iload 5, 2) := by decide +kernel
theorem d_Na_number_22 : decode b_Na_number 22 = .ok (.baload, 1) := by decide +kernel
theorem d_Na_number_23 : decode b_Na_number 23 = .ok (.iadd, 1) := by decide +kernel
theorem d_Na_number_24 : decode b_Na_number 24 = .ok (.istore 4, 2) := by decide +kernel
theorem d_Na_number_26 : decode b_Na_number 26 = .ok (.iinc 5 1, 3) := by decide +kernel
theorem d_Na_number_29 : decode b_Na_number 29 = .ok (.goto (-23), 3) := by decide +kernel
theorem d_Na_number_32 : decode b_Na_number 32 = .ok (.iload 4, 2) := by decide +kernel
theorem d_Na_number_34 : decode b_Na_number 34 = .ok (.iload 4, 2) := by decide +kernel
theorem d_Na_number_36 : decode b_Na_number 36 = .ok (.bipush 8, 2) := by decide +kernel
theorem d_Na_number_38 : decode b_Na_number 38 = .ok (.iushr, 1) := by decide +kernel
theorem d_Na_number_39 : decode b_Na_number 39 = .ok (.ixor, 1) := by decide +kernel
theorem d_Na_number_40 : decode b_Na_number 40 = .ok (.sipush 255, 3) := by decide +kernel
theorem d_Na_number_43 : decode b_Na_number 43 = .ok (.iand, 1) := by decide +kernel
theorem d_Na_number_44 : decode b_Na_number 44 = .ok (.istore 4, 2) := by decide +kernel
theorem d_Na_number_46 : decode b_Na_number 46 = .ok (.aload_n 0, 1) := by decide +kernel
theorem d_Na_number_47 : decode b_Na_number 47 = .ok (.getfield 29, 3) := by decide +kernel
theorem d_Na_number_50 : decode b_Na_number 50 = .ok (.iload 4, 2) := by decide +kernel
theorem d_Na_number_52 : decode b_Na_number 52 = .ok (.iaload, 1) := by decide +kernel
theorem d_Na_number_53 : decode b_Na_number 53 = .ok (.istore 5, 2) := by decide +kernel
theorem d_Na_number_55 : decode b_Na_number 55 = .ok (.iload 5, 2) := by decide +kernel
theorem d_Na_number_57 : decode b_Na_number 57 = .ok (.ifCond .lt 33, 3) := by decide +kernel
theorem d_Na_number_60 : decode b_Na_number 60 = .ok (.aload_n 0, 1) := by decide +kernel
theorem d_Na_number_61 : decode b_Na_number 61 = .ok (.iload 5, 2) := by decide +kernel
theorem d_Na_number_63 : decode b_Na_number 63 = .ok (.aload_n 1, 1) := by decide +kernel
theorem d_Na_number_64 : decode b_Na_number 64 = .ok (.iload_n 2, 1) := by decide +kernel
theorem d_Na_number_65 : decode b_Na_number 65 = .ok (.iload_n 3, 1) := by decide +kernel
theorem d_Na_number_66 : decode b_Na_number 66 = .ok (.invokevirtual 97, 3) := by decide +kernel
theorem d_Na_number_69 : decode b_Na_number 69 = .ok (.ifCond .eq 6, 3) := by decide +kernel
theorem d_Na_number_72 : decode b_Na_number 72 = .ok (.iload 5, 2) := by decide +kernel
theorem d_Na_number_74 : decode b_Na_number 74 = .ok (.ireturn, 1) := by decide +kernel
theorem d_Na_number_75 : decode b_Na_number 75 = .ok (.aload_n 0, 1) := by decide +kernel
theorem d_Na_number_76 : decode b_Na_number 76 = .ok (.getfield 26, 3) := by decide +kernel
theorem d_Na_number_79 : decode b_Na_number 79 = .ok (.getfield 101, 3) := by decide +kernel
theorem d_Na_number_82 : decode b_Na_number 82 = .ok (.iload 5, 2) := by decide +kernel
theorem d_Na_number_84 : decode b_Na_number 84 = .ok (.iaload, 1) := by decide +kernel
theorem d_Na_number_85 : decode b_Na_number 85 = .ok (.istore 5, 2) := by decide +kernel
theorem d_Na_number_87 : decode b_Na_number 87 = .ok (.goto (-32), 3) := by decide +kernel
theorem d_Na_number_90 : decode b_Na_number 90 = .ok (.aload_n 0, 1) := by decide +kernel
theorem d_Na_number_91 : decode b_Na_number 91 = .ok (.getfield 20, 3) := by decide +kernel
theorem d_Na_number_94 : decode b_Na_number 94 = .ok (.aload_n 0, 1) := by decide +kernel
theorem d_Na_number_95 : decode b_Na_number 95 = .ok (.getfield 14, 3) := by decide +kernel
theorem d_Na_number_98 : decode b_Na_number 98 = .ok (.getfield 104, 3) := by decide +kernel
theorem d_Na_number_101 : decode b_Na_number 101 = .ok (.invokevirtual 106, 3) := by decide +kernel
theorem d_Na_number_104 : decode b_Na_number 104 = .ok (.pop, 1) := by decide +kernel
theorem d_Na_number_105 : decode b_Na_number 105 = .ok (.aload_n 0, 1) := by decide +kernel
theorem d_Na_number_106 : decode b_Na_number 106 = .ok (.getfield 23, 3) := by decide +kernel
theorem d_Na_number_109 : decode b_Na_number 109 = .ok (.iload_n 3, 1) := by decide +kernel
theorem d_Na_number_110 : decode b_Na_number 110 = .ok (.invokevirtual 106, 3) := by decide +kernel
theorem d_Na_number_113 : decode b_Na_number 113 = .ok (.pop, 1) := by decide +kernel
theorem d_Na_number_114 : decode b_Na_number 114 = .ok (.aload_n 0, 1) := by decide +kernel
theorem d_Na_number_115 : decode b_Na_number 115 = .ok (.getfield 26, 3) := by decide +kernel
theorem d_Na_number_118 : decode b_Na_number 118 = .ok (.aload_n 0, 1) := by decide +kernel
theorem d_Na_number_119 : decode b_Na_number 119 = .ok (.getfield 29, 3) := by decide +kernel
theorem d_Na_number_122 : decode b_Na_number 122 = .ok (.iload 4, 2) := by decide +kernel
theorem d_Na_number_124 : decode b_Na_number 124 = .ok (.iaload, 1) := by decide +kernel
theorem d_Na_number_125 : decode b_Na_number 125 = .ok (.invokevirtual 106, 3) := by decide +kernel
theorem d_Na_number_128 : decode b_Na_number 128 = .ok (.pop, 1) := by decide +kernel
theorem d_Na_number_129 : decode b_Na_number 129 = .ok (.aload_n 0, 1) := by decide +kernel
theorem d_Na_number_130 : decode b_Na_number 130 = .ok (.getfield 29, 3) := by decide +kernel
theorem d_Na_number_133 : decode b_Na_number 133 = .ok (.iload 4, 2) := by decide +kernel
theorem d_Na_number_135 : decode b_Na_number 135 = .ok (.aload_n 0, 1) := by decide +kernel
theorem d_Na_number_136 : decode b_Na_number 136 = .ok (.getfield 26, 3) := by decide +kernel
theorem d_Na_number_139 : decode b_Na_number 139 = .ok (.getfield 104, 3) := by decide +kernel
theorem d_Na_number_142 : decode b_Na_number 142 = .ok (.iconst 1, 1) := by decide +kernel
theorem d_Na_number_143 : decode b_Na_number 143 = .ok (.isub, 1) := by decide +kernel
theorem d_Na_number_144 : decode b_Na_number 144 = .ok (.iastore, 1) := by decide +kernel
theorem d_Na_number_145 : decode b_Na_number 145 = .ok (.iload_n 2, 1) := by decide +kernel
theorem d_Na_number_146 : decode b_Na_number 146 = .ok (.istore 5, 2) := by decide +kernel
theorem d_Na_number_148 : decode b_Na_number 148 = .ok (.iload 5, 2) := by decide +kernel
theorem d_Na_number_150 : decode b_Na_number 150 = .ok (.iload_n 2, 1) := by decide +kernel
theorem d_Na_number_151 : decode b_Na_number 151 = .ok (.iload_n 3, 1) := by decide +kernel
theorem d_Na_number_152 : decode b_Na_number 152 = .ok (.iadd, 1) := by decide +kernel
theorem d_Na_number_153 : decode b_Na_number 153 = .ok (.if_icmp .ge 21, 3) := by decide +kernel
theorem d_Na_number_156 : decode b_Na_number 156 = .ok (.aload_n 0, 1) := by decide +kernel
theorem d_Na_number_157 : decode b_Na_number 157 = .ok (.getfield 14, 3) := by decide +kernel
theorem d_Na_number_160 : decode b_Na_number 160 = .ok (.aload_n 1, 1) := by decide +kernel
theorem d_Na_number_161 : decode b_Na_number 161 = .ok (.iload 5, 2) := by decide +kernel
theorem d_Na_number_163 : decode b_Na_number 163 = .ok (.baload, 1) := by decide +kernel
theorem d_Na_number_164 : decode b_Na_number 164 = .ok (.invokevirtual 106, 3) := by decide +kernel
theorem d_Na_number_167 : decode b_Na_number 167 = .ok (.pop, 1) := by decide +kernel
theorem d_Na_number_168 : decode b_Na_number 168 = .ok (.iinc 5 1, 3) := by decide +kernel
theorem d_Na_number_171 : decode b_Na_number 171 = .ok (.goto (-23), 3) := by decide +kernel
theorem d_Na_number_174 : decode b_Na_number 174 = .ok (.aload_n 0, 1) := by decide +kernel
theorem d_Na_number_175 : decode b_Na_number 175 = .ok (.getfield 26, 3) := by decide +kernel
theorem d_Na_number_178 : decode b_Na_number 178 = .ok (.getfield 104, 3) := by decide +kernel
theorem d_Na_number_181 : decode b_Na_number 181 = .ok (.iconst 1, 1) := by decide +kernel
theorem d_Na_number_182 : decode b_Na_number 182 = .ok (.isub, 1) := by decide +kernel
theorem d_Na_number_183 : decode b_Na_number 183 = .ok (.ireturn, 1) := by decide +kernel
abbrev rm_Na_number : Room := { frames := 1, cells := 0, slots := 0, locals := 26 }
set_option maxHeartbeats 4000000 in
set_option maxRecDepth 100000 in
/-- number(text, 0, n): one name more at most -/
theorem c_Na_number (l : Launch) (D : va_G) (g : Nat → ClassId) (h0 a1 a2 a3 a4 a5 a6 a7 a8 a9 b1 b2 b3 b4 : Nat) (mk stt : Int32) (k L : Nat) (fl fs fz fn fh : Nat → Int32) (tx : Nat) (ft : Nat → Int32) (n : Nat) (sz : Nat) (hI : NI k L fs fz fn fh) (hk : k < 256) (hn : n ≤ 128) (hL : L + n ≤ 2048) : Met l y_Na_number (mw y_Na_number b_Na_number 6 (some .int)) (rm_Na_number) (PC g D [] [.ref h0, .ref tx, .int (nI 0), .int (nI n)] sz [(h0, .inr (5, [.ref a1, .ref a2, .ref a3, .ref a4, .ref a5, .ref a6, .ref a7, .ref a8, .ref a9, .int mk, .int stt])), (a1, .inr (3, [.ref b1, .int (nI L)])), (b1, .inl (g 0, 2048, .inl fl)), (a2, .inr (3, [.ref b2, .int (nI k)])), (b2, .inl (g 0, 256, .inl fs)), (a3, .inr (3, [.ref b3, .int (nI k)])), (b3, .inl (g 0, 256, .inl fz)), (a4, .inr (3, [.ref b4, .int (nI k)])), (b4, .inl (g 0, 256, .inl fn)), (a5, .inl (g 0, 256, .inl fh)), (tx, .inl (g 1, 128, .inl ft))]) (va_Qi (fun (r : Int32) (u : Nat × Nat × (Nat → Int32) × (Nat → Int32) × (Nat → Int32) × (Nat → Int32) × (Nat → Int32)) => (∃ id : Nat, r = nI id ∧ id < u.1) ∧ k ≤ u.1 ∧ u.1 ≤ k + 1 ∧ u.2.1 ≤ L + n ∧ NI u.1 u.2.1 u.2.2.2.1 u.2.2.2.2.1 u.2.2.2.2.2.1 u.2.2.2.2.2.2) (QW D (va_A [(h0, .inr (5, [.ref a1, .ref a2, .ref a3, .ref a4, .ref a5, .ref a6, .ref a7, .ref a8, .ref a9, .int mk, .int stt])), (a1, .inr (3, [.ref b1, .int (nI L)])), (b1, .inl (g 0, 2048, .inl fl)), (a2, .inr (3, [.ref b2, .int (nI k)])), (b2, .inl (g 0, 256, .inl fs)), (a3, .inr (3, [.ref b3, .int (nI k)])), (b3, .inl (g 0, 256, .inl fz)), (a4, .inr (3, [.ref b4, .int (nI k)])), (b4, .inl (g 0, 256, .inl fn)), (a5, .inl (g 0, 256, .inl fh)), (tx, .inl (g 1, 128, .inl ft))] sz) (fun u : Nat × Nat × (Nat → Int32) × (Nat → Int32) × (Nat → Int32) × (Nat → Int32) × (Nat → Int32) => [(h0, .inr (5, [.ref a1, .ref a2, .ref a3, .ref a4, .ref a5, .ref a6, .ref a7, .ref a8, .ref a9, .int mk, .int stt])), (a1, .inr (3, [.ref b1, .int (nI u.2.1)])), (b1, .inl (g 0, 2048, .inl u.2.2.1)), (a2, .inr (3, [.ref b2, .int (nI u.1)])), (b2, .inl (g 0, 256, .inl u.2.2.2.1)), (a3, .inr (3, [.ref b3, .int (nI u.1)])), (b3, .inl (g 0, 256, .inl u.2.2.2.2.1)), (a4, .inr (3, [.ref b4, .int (nI u.1)])), (b4, .inl (g 0, 256, .inl u.2.2.2.2.2.1)), (a5, .inl (g 0, 256, .inl u.2.2.2.2.2.2)), (tx, .inl (g 1, 128, .inl ft))])) (va_A [(h0, .inr (5, [.ref a1, .ref a2, .ref a3, .ref a4, .ref a5, .ref a6, .ref a7, .ref a8, .ref a9, .int mk, .int stt])), (a1, .inr (3, [.ref b1, .int (nI L)])), (b1, .inl (g 0, 2048, .inl fl)), (a2, .inr (3, [.ref b2, .int (nI k)])), (b2, .inl (g 0, 256, .inl fs)), (a3, .inr (3, [.ref b3, .int (nI k)])), (b3, .inl (g 0, 256, .inl fz)), (a4, .inr (3, [.ref b4, .int (nI k)])), (b4, .inl (g 0, 256, .inl fn)), (a5, .inl (g 0, 256, .inl fh)), (tx, .inl (g 1, 128, .inl ft))] sz)) 0 0 (va_A [(h0, .inr (5, [.ref a1, .ref a2, .ref a3, .ref a4, .ref a5, .ref a6, .ref a7, .ref a8, .ref a9, .int mk, .int stt])), (a1, .inr (3, [.ref b1, .int (nI L)])), (b1, .inl (g 0, 2048, .inl fl)), (a2, .inr (3, [.ref b2, .int (nI k)])), (b2, .inl (g 0, 256, .inl fs)), (a3, .inr (3, [.ref b3, .int (nI k)])), (b3, .inl (g 0, 256, .inl fz)), (a4, .inr (3, [.ref b4, .int (nI k)])), (b4, .inl (g 0, 256, .inl fn)), (a5, .inl (g 0, 256, .inl fh)), (tx, .inl (g 1, 128, .inl ft))] sz) := by
  refine ofI (by decide +kernel) (Nat.le_of_ble_eq_true rfl) ?_
  intro p e s m args below meth c A Q ls H locs G hsz hP hD hS hl hret
  subst hsz
  have hl : lv_has ls 6 [(0, .ref h0), (1, .ref tx), (2, .int (nI 0)), (3, .int (nI n))] := hl
  refine lv_iload_n G.1 G.2.1 d_Na_number_0 rfl (lv_at hl 3 rfl) ?_
  refine lv_istore (lv' := [(4, .int (nI n)), (0, .ref h0), (1, .ref tx), (2, .int (nI 0)), (3, .int (nI n))]) G.1 G.2.1 d_Na_number_1 hl (by decide) rfl (fun ls hl => ?_)
  refine lv_iload_n G.1 G.2.1 d_Na_number_3 rfl (lv_at hl 3 rfl) ?_
  refine lv_istore (lv' := [(5, .int (nI 0)), (4, .int (nI n)), (0, .ref h0), (1, .ref tx), (2, .int (nI 0)), (3, .int (nI n))]) G.1 G.2.1 d_Na_number_4 hl (by decide) rfl (fun ls hl => ?_)
  have L_1 : ∀ (k_L_1 : Nat) (i : Nat) (x : Int32), (n - i) < k_L_1 → (i ≤ n) → ∀ (H : Heap) (locs : List Loc), va_P D CL [(h0, .inr (5, [.ref a1, .ref a2, .ref a3, .ref a4, .ref a5, .ref a6, .ref a7, .ref a8, .ref a9, .int mk, .int stt])), (a1, .inr (3, [.ref b1, .int (nI L)])), (b1, .inl (g 0, 2048, .inl fl)), (a2, .inr (3, [.ref b2, .int (nI k)])), (b2, .inl (g 0, 256, .inl fs)), (a3, .inr (3, [.ref b3, .int (nI k)])), (b3, .inl (g 0, 256, .inl fz)), (a4, .inr (3, [.ref b4, .int (nI k)])), (b4, .inl (g 0, 256, .inl fn)), (a5, .inl (g 0, 256, .inl fh)), (tx, .inl (g 1, 128, .inl ft))] H → va_D A [(h0, .inr (5, [.ref a1, .ref a2, .ref a3, .ref a4, .ref a5, .ref a6, .ref a7, .ref a8, .ref a9, .int mk, .int stt])), (a1, .inr (3, [.ref b1, .int (nI L)])), (b1, .inl (g 0, 2048, .inl fl)), (a2, .inr (3, [.ref b2, .int (nI k)])), (b2, .inl (g 0, 256, .inl fs)), (a3, .inr (3, [.ref b3, .int (nI k)])), (b3, .inl (g 0, 256, .inl fz)), (a4, .inr (3, [.ref b4, .int (nI k)])), (b4, .inl (g 0, 256, .inl fn)), (a5, .inl (g 0, 256, .inl fh)), (tx, .inl (g 1, 128, .inl ft))] → va_S A s.heap H locs → ∀ ls, lv_has ls 6 [(0, .ref h0), (1, .ref tx), (2, .int (nI 0)), (3, .int (nI n)), (4, .int x), (5, .int (nI i))] → W p l e rm_Na_number s m args below meth c H locs 0 0 Q (F0 m 6 ls []) := by
    intro k_L_1
    induction k_L_1 with
    | zero => intro i x hk_L_1; exact absurd hk_L_1 (Nat.not_lt_zero _)
    | succ k_L_1 ih_L_1 =>
      intro i x hk_L_1 hi H locs hP hD hS ls hl
      refine lv_iload G.1 G.2.1 d_Na_number_6 (lv_at hl 5 rfl) ?_
      refine lv_iload_n G.1 G.2.1 d_Na_number_8 rfl (lv_at hl 2 rfl) ?_
      refine lv_iload_n G.1 G.2.1 d_Na_number_9 rfl (lv_at hl 3 rfl) ?_
      refine lv_iadd G.1 G.2.1 d_Na_number_10 ?_
      refine tpi (w := nI (0 + n)) (nI_add _ _) ?_
      refine lv_icmp_ge (tgt := 32) G.1 G.2.1 d_Na_number_11 (by decide) (fun c11 => ?_) (fun c11 => ?_)
      · skip
        have c11 : (0 + n) ≤ i := (nI_leI (by omega) (by omega)).mp c11
        refine lv_iload G.1 G.2.1 d_Na_number_32 (lv_at hl 4 rfl) ?_
        refine lv_iload G.1 G.2.1 d_Na_number_34 (lv_at hl 4 rfl) ?_
        refine lv_bipush (v := nI 8) G.1 G.2.1 d_Na_number_36 (by decide) ?_
        refine W.eq (g2 := F0 m 38 ls [.int (nI 8), .int x, .int x]) rfl ?_
        refine lv_iushr G.1 G.2.1 d_Na_number_38 rfl ?_
        refine lv_ixor G.1 G.2.1 d_Na_number_39 ?_
        refine lv_sipush (v := nI 255) G.1 G.2.1 d_Na_number_40 (by decide) ?_
        refine lv_iand G.1 G.2.1 d_Na_number_43 ?_
        obtain ⟨hx, hhx, ehx⟩ := pk_andE ((x ^^^ ((x.toUInt32 >>> ((nI 8).toUInt32 &&& Int32.toUInt32 31)).toInt32))) (m := nI 255) 8 (by decide)
        refine tpi (w := nI hx) ehx ?_
        refine lv_istore (lv' := [(4, .int (nI hx)), (0, .ref h0), (1, .ref tx), (2, .int (nI 0)), (3, .int (nI n)), (5, .int (nI i))]) G.1 G.2.1 d_Na_number_44 hl (by decide) rfl (fun ls hl => ?_)
        refine lv_aload_n G.1 G.2.1 d_Na_number_46 rfl (lv_at hl 1 rfl) ?_
        refine kg (ci := 5) G iNa hP 0 rfl rfl 4 (by decide) q508 rfl rfl d_Na_number_47 ?_
        refine lv_iload G.1 G.2.1 d_Na_number_50 (lv_at hl 0 rfl) ?_
        refine kiald G hP 9 0 rfl rfl (by omega) (by omega) d_Na_number_52 ?_
        obtain ⟨z, hz, ez⟩ := hI.2.2 hx (by omega)
        refine tpi (w := cv z) ez ?_
        refine lv_istore (lv' := [(5, .int (cv z)), (4, .int (nI hx)), (0, .ref h0), (1, .ref tx), (2, .int (nI 0)), (3, .int (nI n))]) G.1 G.2.1 d_Na_number_53 hl (by decide) rfl (fun ls hl => ?_)
        have L_2 : ∀ (k_L_2 : Nat) (z9 : Nat), z9 < k_L_2 → (z9 ≤ k) → ∀ (H : Heap) (locs : List Loc), va_P D CL [(h0, .inr (5, [.ref a1, .ref a2, .ref a3, .ref a4, .ref a5, .ref a6, .ref a7, .ref a8, .ref a9, .int mk, .int stt])), (a1, .inr (3, [.ref b1, .int (nI L)])), (b1, .inl (g 0, 2048, .inl fl)), (a2, .inr (3, [.ref b2, .int (nI k)])), (b2, .inl (g 0, 256, .inl fs)), (a3, .inr (3, [.ref b3, .int (nI k)])), (b3, .inl (g 0, 256, .inl fz)), (a4, .inr (3, [.ref b4, .int (nI k)])), (b4, .inl (g 0, 256, .inl fn)), (a5, .inl (g 0, 256, .inl fh)), (tx, .inl (g 1, 128, .inl ft))] H → va_D A [(h0, .inr (5, [.ref a1, .ref a2, .ref a3, .ref a4, .ref a5, .ref a6, .ref a7, .ref a8, .ref a9, .int mk, .int stt])), (a1, .inr (3, [.ref b1, .int (nI L)])), (b1, .inl (g 0, 2048, .inl fl)), (a2, .inr (3, [.ref b2, .int (nI k)])), (b2, .inl (g 0, 256, .inl fs)), (a3, .inr (3, [.ref b3, .int (nI k)])), (b3, .inl (g 0, 256, .inl fz)), (a4, .inr (3, [.ref b4, .int (nI k)])), (b4, .inl (g 0, 256, .inl fn)), (a5, .inl (g 0, 256, .inl fh)), (tx, .inl (g 1, 128, .inl ft))] → va_S A s.heap H locs → ∀ ls, lv_has ls 6 [(5, .int (cv z9)), (4, .int (nI hx)), (0, .ref h0), (1, .ref tx), (2, .int (nI 0)), (3, .int (nI n))] → W p l e rm_Na_number s m args below meth c H locs 0 0 Q (F0 m 55 ls []) := by
          intro k_L_2
          induction k_L_2 with
          | zero => intro z9 hk_L_2; exact absurd hk_L_2 (Nat.not_lt_zero _)
          | succ k_L_2 ih_L_2 =>
            intro z9 hk_L_2 hz9 H locs hP hD hS ls hl
            refine lv_iload G.1 G.2.1 d_Na_number_55 (lv_at hl 0 rfl) ?_
            refine lv_if_lt (tgt := 90) G.1 G.2.1 d_Na_number_57 (by decide) (fun c57 => ?_) (fun c57 => ?_)
            · skip
              refine lv_aload_n G.1 G.2.1 d_Na_number_90 rfl (lv_at hl 2 rfl) ?_
              refine W.eq (g2 := F0 m 91 ls [.ref h0]) rfl ?_
              refine kg (ci := 5) G iNa hP 0 rfl rfl 1 (by decide) q505 rfl rfl d_Na_number_91 ?_
              refine lv_aload_n G.1 G.2.1 d_Na_number_94 rfl (lv_at hl 2 rfl) ?_
              refine kg (ci := 5) G iNa hP 0 rfl rfl 0 (by decide) q504 rfl rfl d_Na_number_95 ?_
              refine kg (ci := 3) G iIn hP 1 rfl rfl 1 (by decide) q393 rfl rfl d_Na_number_98 ?_
              refine kEi (wr := [(h0, .inr (5, [.ref a1, .ref a2, .ref a3, .ref a4, .ref a5, .ref a6, .ref a7, .ref a8, .ref a9, .int mk, .int stt])), (a1, .inr (3, [.ref b1, .int (nI L)])), (b1, .inl (g 0, 2048, .inl fl)), (a3, .inr (3, [.ref b3, .int (nI k)])), (b3, .inl (g 0, 256, .inl fz)), (a4, .inr (3, [.ref b4, .int (nI k)])), (b4, .inl (g 0, 256, .inl fn)), (a5, .inl (g 0, 256, .inl fh)), (tx, .inl (g 1, 128, .inl ft))]) G (kV (As := [.int (nI L)]) (rest := []) G hP hD hS [3, 4] rfl rfl (c_In_add l D g a2 b2 256 k fs (nI L) H.size (by omega) (by decide)) w_In_add q469 rfl rfl ⟨Nat.le_of_ble_eq_true rfl, Nat.le_of_ble_eq_true rfl⟩ (fun _ h => absurd h List.not_mem_nil) 3 (ci := 3) rfl rfl rfl hl.1 rfl (Nat.le_of_ble_eq_true rfl) rfl ⟨Nat.le_of_ble_eq_true rfl, (Nat.le_of_ble_eq_true rfl)⟩ d_Na_number_101) hP hD hS [3, 4] [0, 1, 2, 5, 6, 7, 8, 9, 10] rfl rfl rfl rfl (fun r_3 u_4 H locs hw hP hD hS hzH => ?_)
              have hw : r_3 = nI k := hw
              have hP : va_P D CL [(h0, .inr (5, [.ref a1, .ref a2, .ref a3, .ref a4, .ref a5, .ref a6, .ref a7, .ref a8, .ref a9, .int mk, .int stt])), (a1, .inr (3, [.ref b1, .int (nI L)])), (b1, .inl (g 0, 2048, .inl fl)), (a3, .inr (3, [.ref b3, .int (nI k)])), (b3, .inl (g 0, 256, .inl fz)), (a4, .inr (3, [.ref b4, .int (nI k)])), (b4, .inl (g 0, 256, .inl fn)), (a5, .inl (g 0, 256, .inl fh)), (tx, .inl (g 1, 128, .inl ft)), (a2, .inr (3, [.ref b2, .int (nI (k + 1))])), (b2, .inl (g 0, 256, .inl (upd fs k (nI L))))] H := hP
              have hD : va_D A [(h0, .inr (5, [.ref a1, .ref a2, .ref a3, .ref a4, .ref a5, .ref a6, .ref a7, .ref a8, .ref a9, .int mk, .int stt])), (a1, .inr (3, [.ref b1, .int (nI L)])), (b1, .inl (g 0, 2048, .inl fl)), (a3, .inr (3, [.ref b3, .int (nI k)])), (b3, .inl (g 0, 256, .inl fz)), (a4, .inr (3, [.ref b4, .int (nI k)])), (b4, .inl (g 0, 256, .inl fn)), (a5, .inl (g 0, 256, .inl fh)), (tx, .inl (g 1, 128, .inl ft)), (a2, .inr (3, [.ref b2, .int (nI (k + 1))])), (b2, .inl (g 0, 256, .inl (upd fs k (nI L))))] := hD
              refine lv_pop G.1 G.2.1 d_Na_number_104 rfl ?_
              refine lv_aload_n G.1 G.2.1 d_Na_number_105 rfl (lv_at hl 2 rfl) ?_
              refine kg (ci := 5) G iNa hP 0 rfl rfl 2 (by decide) q506 rfl rfl d_Na_number_106 ?_
              refine lv_iload_n G.1 G.2.1 d_Na_number_109 rfl (lv_at hl 5 rfl) ?_
              refine kEi (wr := [(h0, .inr (5, [.ref a1, .ref a2, .ref a3, .ref a4, .ref a5, .ref a6, .ref a7, .ref a8, .ref a9, .int mk, .int stt])), (a1, .inr (3, [.ref b1, .int (nI L)])), (b1, .inl (g 0, 2048, .inl fl)), (a4, .inr (3, [.ref b4, .int (nI k)])), (b4, .inl (g 0, 256, .inl fn)), (a5, .inl (g 0, 256, .inl fh)), (tx, .inl (g 1, 128, .inl ft)), (a2, .inr (3, [.ref b2, .int (nI (k + 1))])), (b2, .inl (g 0, 256, .inl (upd fs k (nI L))))]) G (kV (As := [.int (nI n)]) (rest := []) G hP hD hS [3, 4] rfl rfl (c_In_add l D g a3 b3 256 k fz (nI n) H.size (by omega) (by decide)) w_In_add q469 rfl rfl ⟨Nat.le_of_ble_eq_true rfl, Nat.le_of_ble_eq_true rfl⟩ (fun _ h => absurd h List.not_mem_nil) 3 (ci := 3) rfl rfl rfl hl.1 rfl (Nat.le_of_ble_eq_true rfl) rfl ⟨Nat.le_of_ble_eq_true rfl, (Nat.le_of_ble_eq_true rfl)⟩ d_Na_number_110) hP hD hS [3, 4] [0, 1, 2, 5, 6, 7, 8, 9, 10] rfl rfl rfl rfl (fun r_5 u_6 H locs hw hP hD hS hzH => ?_)
              have hw : r_5 = nI k := hw
              have hP : va_P D CL [(h0, .inr (5, [.ref a1, .ref a2, .ref a3, .ref a4, .ref a5, .ref a6, .ref a7, .ref a8, .ref a9, .int mk, .int stt])), (a1, .inr (3, [.ref b1, .int (nI L)])), (b1, .inl (g 0, 2048, .inl fl)), (a4, .inr (3, [.ref b4, .int (nI k)])), (b4, .inl (g 0, 256, .inl fn)), (a5, .inl (g 0, 256, .inl fh)), (tx, .inl (g 1, 128, .inl ft)), (a2, .inr (3, [.ref b2, .int (nI (k + 1))])), (b2, .inl (g 0, 256, .inl (upd fs k (nI L)))), (a3, .inr (3, [.ref b3, .int (nI (k + 1))])), (b3, .inl (g 0, 256, .inl (upd fz k (nI n))))] H := hP
              have hD : va_D A [(h0, .inr (5, [.ref a1, .ref a2, .ref a3, .ref a4, .ref a5, .ref a6, .ref a7, .ref a8, .ref a9, .int mk, .int stt])), (a1, .inr (3, [.ref b1, .int (nI L)])), (b1, .inl (g 0, 2048, .inl fl)), (a4, .inr (3, [.ref b4, .int (nI k)])), (b4, .inl (g 0, 256, .inl fn)), (a5, .inl (g 0, 256, .inl fh)), (tx, .inl (g 1, 128, .inl ft)), (a2, .inr (3, [.ref b2, .int (nI (k + 1))])), (b2, .inl (g 0, 256, .inl (upd fs k (nI L)))), (a3, .inr (3, [.ref b3, .int (nI (k + 1))])), (b3, .inl (g 0, 256, .inl (upd fz k (nI n))))] := hD
              refine lv_pop G.1 G.2.1 d_Na_number_113 rfl ?_
              refine lv_aload_n G.1 G.2.1 d_Na_number_114 rfl (lv_at hl 2 rfl) ?_
              refine W.eq (g2 := F0 m 115 ls [.ref h0]) rfl ?_
              refine kg (ci := 5) G iNa hP 0 rfl rfl 3 (by decide) q507 rfl rfl d_Na_number_115 ?_
              refine lv_aload_n G.1 G.2.1 d_Na_number_118 rfl (lv_at hl 2 rfl) ?_
              refine kg (ci := 5) G iNa hP 0 rfl rfl 4 (by decide) q508 rfl rfl d_Na_number_119 ?_
              refine lv_iload G.1 G.2.1 d_Na_number_122 (lv_at hl 1 rfl) ?_
              refine kiald G hP 5 0 rfl rfl (by omega) (by omega) d_Na_number_124 ?_
              refine tpi (w := cv z) ez ?_
              refine kEi (wr := [(h0, .inr (5, [.ref a1, .ref a2, .ref a3, .ref a4, .ref a5, .ref a6, .ref a7, .ref a8, .ref a9, .int mk, .int stt])), (a1, .inr (3, [.ref b1, .int (nI L)])), (b1, .inl (g 0, 2048, .inl fl)), (a5, .inl (g 0, 256, .inl fh)), (tx, .inl (g 1, 128, .inl ft)), (a2, .inr (3, [.ref b2, .int (nI (k + 1))])), (b2, .inl (g 0, 256, .inl (upd fs k (nI L)))), (a3, .inr (3, [.ref b3, .int (nI (k + 1))])), (b3, .inl (g 0, 256, .inl (upd fz k (nI n))))]) G (kV (As := [.int (cv z)]) (rest := []) G hP hD hS [3, 4] rfl rfl (c_In_add l D g a4 b4 256 k fn (cv z) H.size (by omega) (by decide)) w_In_add q469 rfl rfl ⟨Nat.le_of_ble_eq_true rfl, Nat.le_of_ble_eq_true rfl⟩ (fun _ h => absurd h List.not_mem_nil) 3 (ci := 3) rfl rfl rfl hl.1 rfl (Nat.le_of_ble_eq_true rfl) rfl ⟨Nat.le_of_ble_eq_true rfl, (Nat.le_of_ble_eq_true rfl)⟩ d_Na_number_125) hP hD hS [3, 4] [0, 1, 2, 5, 6, 7, 8, 9, 10] rfl rfl rfl rfl (fun r_7 u_8 H locs hw hP hD hS hzH => ?_)
              have hw : r_7 = nI k := hw
              have hP : va_P D CL [(h0, .inr (5, [.ref a1, .ref a2, .ref a3, .ref a4, .ref a5, .ref a6, .ref a7, .ref a8, .ref a9, .int mk, .int stt])), (a1, .inr (3, [.ref b1, .int (nI L)])), (b1, .inl (g 0, 2048, .inl fl)), (a5, .inl (g 0, 256, .inl fh)), (tx, .inl (g 1, 128, .inl ft)), (a2, .inr (3, [.ref b2, .int (nI (k + 1))])), (b2, .inl (g 0, 256, .inl (upd fs k (nI L)))), (a3, .inr (3, [.ref b3, .int (nI (k + 1))])), (b3, .inl (g 0, 256, .inl (upd fz k (nI n)))), (a4, .inr (3, [.ref b4, .int (nI (k + 1))])), (b4, .inl (g 0, 256, .inl (upd fn k (cv z))))] H := hP
              have hD : va_D A [(h0, .inr (5, [.ref a1, .ref a2, .ref a3, .ref a4, .ref a5, .ref a6, .ref a7, .ref a8, .ref a9, .int mk, .int stt])), (a1, .inr (3, [.ref b1, .int (nI L)])), (b1, .inl (g 0, 2048, .inl fl)), (a5, .inl (g 0, 256, .inl fh)), (tx, .inl (g 1, 128, .inl ft)), (a2, .inr (3, [.ref b2, .int (nI (k + 1))])), (b2, .inl (g 0, 256, .inl (upd fs k (nI L)))), (a3, .inr (3, [.ref b3, .int (nI (k + 1))])), (b3, .inl (g 0, 256, .inl (upd fz k (nI n)))), (a4, .inr (3, [.ref b4, .int (nI (k + 1))])), (b4, .inl (g 0, 256, .inl (upd fn k (cv z))))] := hD
              refine lv_pop G.1 G.2.1 d_Na_number_128 rfl ?_
              refine lv_aload_n G.1 G.2.1 d_Na_number_129 rfl (lv_at hl 2 rfl) ?_
              refine kg (ci := 5) G iNa hP 0 rfl rfl 4 (by decide) q508 rfl rfl d_Na_number_130 ?_
              refine lv_iload G.1 G.2.1 d_Na_number_133 (lv_at hl 1 rfl) ?_
              refine lv_aload_n G.1 G.2.1 d_Na_number_135 rfl (lv_at hl 2 rfl) ?_
              refine kg (ci := 5) G iNa hP 0 rfl rfl 3 (by decide) q507 rfl rfl d_Na_number_136 ?_
              refine W.eq (g2 := F0 m 139 ls [.ref a4, .int (nI hx), .ref a5]) rfl ?_
              refine kg (ci := 3) G iIn hP 9 rfl rfl 1 (by decide) q393 rfl rfl d_Na_number_139 ?_
              refine lv_iconst (v := nI 1) G.1 G.2.1 d_Na_number_142 (by decide) ?_
              refine lv_isub G.1 G.2.1 d_Na_number_143 ?_
              refine tpi (w := nI k) ((pk_sub (by omega)).trans (congrArg nI (by omega))) ?_
              refine kiast G hP hD hS 3 0 rfl rfl (by omega) (by omega) d_Na_number_144 (fun H locs hP hD hS => ?_)
              have hP : va_P D CL [(h0, .inr (5, [.ref a1, .ref a2, .ref a3, .ref a4, .ref a5, .ref a6, .ref a7, .ref a8, .ref a9, .int mk, .int stt])), (a1, .inr (3, [.ref b1, .int (nI L)])), (b1, .inl (g 0, 2048, .inl fl)), (a5, .inl (g 0, 256, .inl (upd fh hx (nI k)))), (tx, .inl (g 1, 128, .inl ft)), (a2, .inr (3, [.ref b2, .int (nI (k + 1))])), (b2, .inl (g 0, 256, .inl (upd fs k (nI L)))), (a3, .inr (3, [.ref b3, .int (nI (k + 1))])), (b3, .inl (g 0, 256, .inl (upd fz k (nI n)))), (a4, .inr (3, [.ref b4, .int (nI (k + 1))])), (b4, .inl (g 0, 256, .inl (upd fn k (cv z))))] H := hP
              have hD : va_D A [(h0, .inr (5, [.ref a1, .ref a2, .ref a3, .ref a4, .ref a5, .ref a6, .ref a7, .ref a8, .ref a9, .int mk, .int stt])), (a1, .inr (3, [.ref b1, .int (nI L)])), (b1, .inl (g 0, 2048, .inl fl)), (a5, .inl (g 0, 256, .inl (upd fh hx (nI k)))), (tx, .inl (g 1, 128, .inl ft)), (a2, .inr (3, [.ref b2, .int (nI (k + 1))])), (b2, .inl (g 0, 256, .inl (upd fs k (nI L)))), (a3, .inr (3, [.ref b3, .int (nI (k + 1))])), (b3, .inl (g 0, 256, .inl (upd fz k (nI n)))), (a4, .inr (3, [.ref b4, .int (nI (k + 1))])), (b4, .inl (g 0, 256, .inl (upd fn k (cv z))))] := hD
              refine lv_iload_n G.1 G.2.1 d_Na_number_145 rfl (lv_at hl 4 rfl) ?_
              refine lv_istore (lv' := [(5, .int (nI 0)), (4, .int (nI hx)), (0, .ref h0), (1, .ref tx), (2, .int (nI 0)), (3, .int (nI n))]) G.1 G.2.1 d_Na_number_146 hl (by decide) rfl (fun ls hl => ?_)
              have L_9 : ∀ (k_L_9 : Nat) (i : Nat) (f1 : Nat → Int32), (n - i) < k_L_9 → (i ≤ n) → ∀ (H : Heap) (locs : List Loc), va_P D CL [(h0, .inr (5, [.ref a1, .ref a2, .ref a3, .ref a4, .ref a5, .ref a6, .ref a7, .ref a8, .ref a9, .int mk, .int stt])), (a1, .inr (3, [.ref b1, .int (nI (L + i))])), (b1, .inl (g 0, 2048, .inl f1)), (a5, .inl (g 0, 256, .inl (upd fh hx (nI k)))), (tx, .inl (g 1, 128, .inl ft)), (a2, .inr (3, [.ref b2, .int (nI (k + 1))])), (b2, .inl (g 0, 256, .inl (upd fs k (nI L)))), (a3, .inr (3, [.ref b3, .int (nI (k + 1))])), (b3, .inl (g 0, 256, .inl (upd fz k (nI n)))), (a4, .inr (3, [.ref b4, .int (nI (k + 1))])), (b4, .inl (g 0, 256, .inl (upd fn k (cv z))))] H → va_D A [(h0, .inr (5, [.ref a1, .ref a2, .ref a3, .ref a4, .ref a5, .ref a6, .ref a7, .ref a8, .ref a9, .int mk, .int stt])), (a1, .inr (3, [.ref b1, .int (nI (L + i))])), (b1, .inl (g 0, 2048, .inl f1)), (a5, .inl (g 0, 256, .inl (upd fh hx (nI k)))), (tx, .inl (g 1, 128, .inl ft)), (a2, .inr (3, [.ref b2, .int (nI (k + 1))])), (b2, .inl (g 0, 256, .inl (upd fs k (nI L)))), (a3, .inr (3, [.ref b3, .int (nI (k + 1))])), (b3, .inl (g 0, 256, .inl (upd fz k (nI n)))), (a4, .inr (3, [.ref b4, .int (nI (k + 1))])), (b4, .inl (g 0, 256, .inl (upd fn k (cv z))))] → va_S A s.heap H locs → ∀ ls, lv_has ls 6 [(5, .int (nI i)), (4, .int (nI hx)), (0, .ref h0), (1, .ref tx), (2, .int (nI 0)), (3, .int (nI n))] → W p l e rm_Na_number s m args below meth c H locs 0 0 Q (F0 m 148 ls []) := by
                intro k_L_9
                induction k_L_9 with
                | zero => intro i f1 hk_L_9; exact absurd hk_L_9 (Nat.not_lt_zero _)
                | succ k_L_9 ih_L_9 =>
                  intro i f1 hk_L_9 hi H locs hP hD hS ls hl
                  refine lv_iload G.1 G.2.1 d_Na_number_148 (lv_at hl 0 rfl) ?_
                  refine lv_iload_n G.1 G.2.1 d_Na_number_150 rfl (lv_at hl 4 rfl) ?_
                  refine lv_iload_n G.1 G.2.1 d_Na_number_151 rfl (lv_at hl 5 rfl) ?_
                  refine lv_iadd G.1 G.2.1 d_Na_number_152 ?_
                  refine tpi (w := nI (0 + n)) (nI_add _ _) ?_
                  refine lv_icmp_ge (tgt := 174) G.1 G.2.1 d_Na_number_153 (by decide) (fun c153 => ?_) (fun c153 => ?_)
                  · skip
                    have c153 : (0 + n) ≤ i := (nI_leI (by omega) (by omega)).mp c153
                    refine lv_aload_n G.1 G.2.1 d_Na_number_174 rfl (lv_at hl 2 rfl) ?_
                    refine kg (ci := 5) G iNa hP 0 rfl rfl 3 (by decide) q507 rfl rfl d_Na_number_175 ?_
                    refine W.eq (g2 := F0 m 178 ls [.ref a4]) rfl ?_
                    refine kg (ci := 3) G iIn hP 9 rfl rfl 1 (by decide) q393 rfl rfl d_Na_number_178 ?_
                    refine lv_iconst (v := nI 1) G.1 G.2.1 d_Na_number_181 (by decide) ?_
                    refine lv_isub G.1 G.2.1 d_Na_number_182 ?_
                    refine tpi (w := nI k) ((pk_sub (by omega)).trans (congrArg nI (by omega))) ?_
                    have hin : n = i := by omega
                    subst hin
                    have hP : va_P D CL [(h0, .inr (5, [.ref a1, .ref a2, .ref a3, .ref a4, .ref a5, .ref a6, .ref a7, .ref a8, .ref a9, .int mk, .int stt])), (a1, .inr (3, [.ref b1, .int (nI (L + n))])), (b1, .inl (g 0, 2048, .inl f1)), (a2, .inr (3, [.ref b2, .int (nI (k + 1))])), (b2, .inl (g 0, 256, .inl ((upd fs k (nI L))))), (a3, .inr (3, [.ref b3, .int (nI (k + 1))])), (b3, .inl (g 0, 256, .inl ((upd fz k (nI n))))), (a4, .inr (3, [.ref b4, .int (nI (k + 1))])), (b4, .inl (g 0, 256, .inl ((upd fn k (cv z))))), (a5, .inl (g 0, 256, .inl (upd fh hx (nI k)))), (tx, .inl (g 1, 128, .inl ft))] H := hP.sub [0, 1, 2, 5, 6, 7, 8, 9, 10, 3, 4] rfl
                    have hD : va_D A [(h0, .inr (5, [.ref a1, .ref a2, .ref a3, .ref a4, .ref a5, .ref a6, .ref a7, .ref a8, .ref a9, .int mk, .int stt])), (a1, .inr (3, [.ref b1, .int (nI (L + n))])), (b1, .inl (g 0, 2048, .inl f1)), (a2, .inr (3, [.ref b2, .int (nI (k + 1))])), (b2, .inl (g 0, 256, .inl ((upd fs k (nI L))))), (a3, .inr (3, [.ref b3, .int (nI (k + 1))])), (b3, .inl (g 0, 256, .inl ((upd fz k (nI n))))), (a4, .inr (3, [.ref b4, .int (nI (k + 1))])), (b4, .inl (g 0, 256, .inl ((upd fn k (cv z))))), (a5, .inl (g 0, 256, .inl (upd fh hx (nI k)))), (tx, .inl (g 1, 128, .inl ft))] := hD.sub [0, 1, 2, 5, 6, 7, 8, 9, 10, 3, 4] (by decide) rfl
                    refine hret (nI k) (k + 1, L + n, f1, (upd fs k (nI L)), (upd fz k (nI n)), (upd fn k (cv z)), upd fh hx (nI k)) _ _ _ _ _ ls (show (∃ id : Nat, (nI k) = nI id ∧ id < (k + 1)) ∧ k ≤ (k + 1) ∧ (k + 1) ≤ k + 1 ∧ (L + n) ≤ L + n ∧ NI (k + 1) (L + n) ((upd fs k (nI L))) ((upd fz k (nI n))) ((upd fn k (cv z))) (upd fh hx (nI k)) from ⟨⟨k, rfl, by omega⟩, by omega, by omega, by omega, hI.add hn (by omega) hz ez⟩) hP hD hS (Nat.le_of_ble_eq_true rfl) (Nat.le_of_ble_eq_true rfl) d_Na_number_183
                  · skip
                    have c153 : ¬ ((0 + n) ≤ i) := fun h => c153 ((nI_leI (by omega) (by omega)).mpr h)
                    refine lv_aload_n G.1 G.2.1 d_Na_number_156 rfl (lv_at hl 2 rfl) ?_
                    refine kg (ci := 5) G iNa hP 0 rfl rfl 0 (by decide) q504 rfl rfl d_Na_number_157 ?_
                    refine W.eq (g2 := F0 m 160 ls [.ref a1]) rfl ?_
                    refine lv_aload_n G.1 G.2.1 d_Na_number_160 rfl (lv_at hl 3 rfl) ?_
                    refine lv_iload G.1 G.2.1 d_Na_number_161 (lv_at hl 0 rfl) ?_
                    refine kbald G hP 4 1 rfl rfl (by omega) (by omega) d_Na_number_163 ?_
                    refine kEi (wr := [(h0, .inr (5, [.ref a1, .ref a2, .ref a3, .ref a4, .ref a5, .ref a6, .ref a7, .ref a8, .ref a9, .int mk, .int stt])), (a5, .inl (g 0, 256, .inl (upd fh hx (nI k)))), (tx, .inl (g 1, 128, .inl ft)), (a2, .inr (3, [.ref b2, .int (nI (k + 1))])), (b2, .inl (g 0, 256, .inl (upd fs k (nI L)))), (a3, .inr (3, [.ref b3, .int (nI (k + 1))])), (b3, .inl (g 0, 256, .inl (upd fz k (nI n)))), (a4, .inr (3, [.ref b4, .int (nI (k + 1))])), (b4, .inl (g 0, 256, .inl (upd fn k (cv z))))]) G (kV (As := [.int (ft i)]) (rest := []) G hP hD hS [1, 2] rfl rfl (c_In_add l D g a1 b1 2048 (L + i) f1 (ft i) H.size (by omega) (by decide)) w_In_add q469 rfl rfl ⟨Nat.le_of_ble_eq_true rfl, Nat.le_of_ble_eq_true rfl⟩ (fun _ h => absurd h List.not_mem_nil) 1 (ci := 3) rfl rfl rfl hl.1 rfl (Nat.le_of_ble_eq_true rfl) rfl ⟨Nat.le_of_ble_eq_true rfl, (Nat.le_of_ble_eq_true rfl)⟩ d_Na_number_164) hP hD hS [1, 2] [0, 3, 4, 5, 6, 7, 8, 9, 10] rfl rfl rfl rfl (fun r_10 u_11 H locs hw hP hD hS hzH => ?_)
                    have hw : r_10 = nI (L + i) := hw
                    have hP : va_P D CL [(h0, .inr (5, [.ref a1, .ref a2, .ref a3, .ref a4, .ref a5, .ref a6, .ref a7, .ref a8, .ref a9, .int mk, .int stt])), (a5, .inl (g 0, 256, .inl (upd fh hx (nI k)))), (tx, .inl (g 1, 128, .inl ft)), (a2, .inr (3, [.ref b2, .int (nI (k + 1))])), (b2, .inl (g 0, 256, .inl (upd fs k (nI L)))), (a3, .inr (3, [.ref b3, .int (nI (k + 1))])), (b3, .inl (g 0, 256, .inl (upd fz k (nI n)))), (a4, .inr (3, [.ref b4, .int (nI (k + 1))])), (b4, .inl (g 0, 256, .inl (upd fn k (cv z)))), (a1, .inr (3, [.ref b1, .int (nI ((L + i) + 1))])), (b1, .inl (g 0, 2048, .inl (upd f1 (L + i) (ft i))))] H := hP
                    have hD : va_D A [(h0, .inr (5, [.ref a1, .ref a2, .ref a3, .ref a4, .ref a5, .ref a6, .ref a7, .ref a8, .ref a9, .int mk, .int stt])), (a5, .inl (g 0, 256, .inl (upd fh hx (nI k)))), (tx, .inl (g 1, 128, .inl ft)), (a2, .inr (3, [.ref b2, .int (nI (k + 1))])), (b2, .inl (g 0, 256, .inl (upd fs k (nI L)))), (a3, .inr (3, [.ref b3, .int (nI (k + 1))])), (b3, .inl (g 0, 256, .inl (upd fz k (nI n)))), (a4, .inr (3, [.ref b4, .int (nI (k + 1))])), (b4, .inl (g 0, 256, .inl (upd fn k (cv z)))), (a1, .inr (3, [.ref b1, .int (nI ((L + i) + 1))])), (b1, .inl (g 0, 2048, .inl (upd f1 (L + i) (ft i))))] := hD
                    refine lv_pop G.1 G.2.1 d_Na_number_167 rfl ?_
                    refine lv_iinc (v := nI (i + 1)) (lv' := [(5, .int (nI (i + 1))), (4, .int (nI hx)), (0, .ref h0), (1, .ref tx), (2, .int (nI 0)), (3, .int (nI n))]) G.1 G.2.1 d_Na_number_168 hl (k := 0) rfl (show (nI i) + Int32.ofInt 1 = nI (i + 1) from nI_1 _) (by decide) rfl (fun ls hl => ?_)
                    refine lv_goto (tgt := 148) G.1 G.2.1 d_Na_number_171 (by decide) ?_
                    exact ih_L_9 (i + 1) (upd f1 (L + i) (ft i)) (by omega) (by omega) _ _ (hP.sub [0, 9, 10, 1, 2, 3, 4, 5, 6, 7, 8] rfl) (hD.sub [0, 9, 10, 1, 2, 3, 4, 5, 6, 7, 8] (by decide) rfl) hS ls (lv_sub hl [0, 1, 2, 3, 4, 5] rfl)
              exact L_9 (_ + 1) 0 fl (Nat.lt_succ_self _) (Nat.zero_le _) _ _ (hP.sub [0, 1, 2, 3, 4, 5, 6, 7, 8, 9, 10] rfl) (hD.sub [0, 1, 2, 3, 4, 5, 6, 7, 8, 9, 10] (by decide) rfl) hS ls (lv_sub hl [0, 1, 2, 3, 4, 5] rfl)
            · skip
              obtain ⟨w, rfl⟩ := cv_pos c57
              have hl : lv_has ls 6 [(5, .int (nI w)), (4, .int (nI hx)), (0, .ref h0), (1, .ref tx), (2, .int (nI 0)), (3, .int (nI n))] := hl
              refine lv_aload_n G.1 G.2.1 d_Na_number_60 rfl (lv_at hl 2 rfl) ?_
              refine W.eq (g2 := F0 m 61 ls [.ref h0]) rfl ?_
              refine lv_iload G.1 G.2.1 d_Na_number_61 (lv_at hl 0 rfl) ?_
              refine lv_aload_n G.1 G.2.1 d_Na_number_63 rfl (lv_at hl 3 rfl) ?_
              refine lv_iload_n G.1 G.2.1 d_Na_number_64 rfl (lv_at hl 4 rfl) ?_
              refine lv_iload_n G.1 G.2.1 d_Na_number_65 rfl (lv_at hl 5 rfl) ?_
              refine kEi (wr := []) G (kV (As := [.int (nI w), .ref tx, .int (nI 0), .int (nI n)]) (rest := []) G hP hD hS [0, 1, 2, 3, 4, 5, 6, 7, 8, 9, 10] rfl rfl (c_Na_isSame l D g h0 a1 a2 a3 a4 a5 a6 a7 a8 a9 b1 b2 b3 b4 mk stt k L fl fs fz fn fh tx ft w n H.size hI (by omega) (by omega) (by omega) hn) w_Na_isSame q465 rfl rfl ⟨Nat.le_of_ble_eq_true rfl, Nat.le_of_ble_eq_true rfl⟩ (fun _ h => absurd h List.not_mem_nil) 0 (ci := 5) rfl rfl rfl hl.1 rfl (Nat.le_of_ble_eq_true rfl) rfl ⟨Nat.le_of_ble_eq_true rfl, (Nat.le_of_ble_eq_true rfl)⟩ d_Na_number_66) hP hD hS [0, 1, 2, 3, 4, 5, 6, 7, 8, 9, 10] [] rfl rfl rfl rfl (fun r_12 u_13 H locs hw hP hD hS hzH => ?_)
              have hw : r_12 = 0 ∨ r_12 = 1 := hw
              have hP : va_P D CL [(h0, .inr (5, [.ref a1, .ref a2, .ref a3, .ref a4, .ref a5, .ref a6, .ref a7, .ref a8, .ref a9, .int mk, .int stt])), (a1, .inr (3, [.ref b1, .int (nI L)])), (b1, .inl (g 0, 2048, .inl fl)), (a2, .inr (3, [.ref b2, .int (nI k)])), (b2, .inl (g 0, 256, .inl fs)), (a3, .inr (3, [.ref b3, .int (nI k)])), (b3, .inl (g 0, 256, .inl fz)), (a4, .inr (3, [.ref b4, .int (nI k)])), (b4, .inl (g 0, 256, .inl fn)), (a5, .inl (g 0, 256, .inl fh)), (tx, .inl (g 1, 128, .inl ft))] H := hP
              have hD : va_D A [(h0, .inr (5, [.ref a1, .ref a2, .ref a3, .ref a4, .ref a5, .ref a6, .ref a7, .ref a8, .ref a9, .int mk, .int stt])), (a1, .inr (3, [.ref b1, .int (nI L)])), (b1, .inl (g 0, 2048, .inl fl)), (a2, .inr (3, [.ref b2, .int (nI k)])), (b2, .inl (g 0, 256, .inl fs)), (a3, .inr (3, [.ref b3, .int (nI k)])), (b3, .inl (g 0, 256, .inl fz)), (a4, .inr (3, [.ref b4, .int (nI k)])), (b4, .inl (g 0, 256, .inl fn)), (a5, .inl (g 0, 256, .inl fh)), (tx, .inl (g 1, 128, .inl ft))] := hD
              refine lv_if_eq (tgt := 75) G.1 G.2.1 d_Na_number_69 (by decide) (fun c69 => ?_) (fun c69 => ?_)
              · skip
                refine lv_aload_n G.1 G.2.1 d_Na_number_75 rfl (lv_at hl 2 rfl) ?_
                refine kg (ci := 5) G iNa hP 0 rfl rfl 3 (by decide) q507 rfl rfl d_Na_number_76 ?_
                refine kg (ci := 3) G iIn hP 7 rfl rfl 0 (by decide) q381 rfl rfl d_Na_number_79 ?_
                refine lv_iload G.1 G.2.1 d_Na_number_82 (lv_at hl 0 rfl) ?_
                refine kiald G hP 8 0 rfl rfl (by omega) (by omega) d_Na_number_84 ?_
                obtain ⟨z1, hz1, ez1⟩ := hI.2.1 w (by omega)
                refine tpi (w := cv z1) ez1 ?_
                refine lv_istore (lv' := [(5, .int (cv z1)), (4, .int (nI hx)), (0, .ref h0), (1, .ref tx), (2, .int (nI 0)), (3, .int (nI n))]) G.1 G.2.1 d_Na_number_85 hl (by decide) rfl (fun ls hl => ?_)
                refine W.eq (g2 := F0 m 87 ls []) rfl ?_
                refine lv_goto (tgt := 55) G.1 G.2.1 d_Na_number_87 (by decide) ?_
                exact ih_L_2 z1 (by omega) (by omega) _ _ (hP.sub [0, 1, 2, 3, 4, 5, 6, 7, 8, 9, 10] rfl) (hD.sub [0, 1, 2, 3, 4, 5, 6, 7, 8, 9, 10] (by decide) rfl) hS ls (lv_sub hl [0, 1, 2, 3, 4, 5] rfl)
              · skip
                refine lv_iload G.1 G.2.1 d_Na_number_72 (lv_at hl 0 rfl) ?_
                have hP : va_P D CL [(h0, .inr (5, [.ref a1, .ref a2, .ref a3, .ref a4, .ref a5, .ref a6, .ref a7, .ref a8, .ref a9, .int mk, .int stt])), (a1, .inr (3, [.ref b1, .int (nI L)])), (b1, .inl (g 0, 2048, .inl fl)), (a2, .inr (3, [.ref b2, .int (nI k)])), (b2, .inl (g 0, 256, .inl fs)), (a3, .inr (3, [.ref b3, .int (nI k)])), (b3, .inl (g 0, 256, .inl fz)), (a4, .inr (3, [.ref b4, .int (nI k)])), (b4, .inl (g 0, 256, .inl fn)), (a5, .inl (g 0, 256, .inl fh)), (tx, .inl (g 1, 128, .inl ft))] H := hP.sub [0, 1, 2, 3, 4, 5, 6, 7, 8, 9, 10] rfl
                have hD : va_D A [(h0, .inr (5, [.ref a1, .ref a2, .ref a3, .ref a4, .ref a5, .ref a6, .ref a7, .ref a8, .ref a9, .int mk, .int stt])), (a1, .inr (3, [.ref b1, .int (nI L)])), (b1, .inl (g 0, 2048, .inl fl)), (a2, .inr (3, [.ref b2, .int (nI k)])), (b2, .inl (g 0, 256, .inl fs)), (a3, .inr (3, [.ref b3, .int (nI k)])), (b3, .inl (g 0, 256, .inl fz)), (a4, .inr (3, [.ref b4, .int (nI k)])), (b4, .inl (g 0, 256, .inl fn)), (a5, .inl (g 0, 256, .inl fh)), (tx, .inl (g 1, 128, .inl ft))] := hD.sub [0, 1, 2, 3, 4, 5, 6, 7, 8, 9, 10] (by decide) rfl
                refine hret (nI w) (k, L, fl, fs, fz, fn, fh) _ _ _ _ _ ls (show (∃ id : Nat, (nI w) = nI id ∧ id < k) ∧ k ≤ k ∧ k ≤ k + 1 ∧ L ≤ L + n ∧ NI k L fs fz fn fh from ⟨⟨w, rfl, by omega⟩, by omega, by omega, by omega, hI⟩) hP hD hS (Nat.le_of_ble_eq_true rfl) (Nat.le_of_ble_eq_true rfl) d_Na_number_74
        exact L_2 (_ + 1) z (Nat.lt_succ_self _) hz _ _ (hP.sub [0, 1, 2, 3, 4, 5, 6, 7, 8, 9, 10] rfl) (hD.sub [0, 1, 2, 3, 4, 5, 6, 7, 8, 9, 10] (by decide) rfl) hS ls (lv_sub hl [0, 1, 2, 3, 4, 5] rfl)
      · skip
        have c11 : ¬ ((0 + n) ≤ i) := fun h => c11 ((nI_leI (by omega) (by omega)).mpr h)
        refine lv_iload G.1 G.2.1 d_Na_number_14 (lv_at hl 4 rfl) ?_
        refine lv_bipush (v := nI 31) G.1 G.2.1 d_Na_number_16 (by decide) ?_
        refine lv_imul G.1 G.2.1 d_Na_number_18 ?_
        refine W.eq (g2 := F0 m 19 ls [.int (x * (nI 31))]) rfl ?_
        refine lv_aload_n G.1 G.2.1 d_Na_number_19 rfl (lv_at hl 1 rfl) ?_
        refine lv_iload G.1 G.2.1 d_Na_number_20 (lv_at hl 5 rfl) ?_
        refine kbald G hP 10 1 rfl rfl (by omega) (by omega) d_Na_number_22 ?_
        refine lv_iadd G.1 G.2.1 d_Na_number_23 ?_
        refine lv_istore (lv' := [(4, .int ((x * (nI 31)) + (ft i))), (0, .ref h0), (1, .ref tx), (2, .int (nI 0)), (3, .int (nI n)), (5, .int (nI i))]) G.1 G.2.1 d_Na_number_24 hl (by decide) rfl (fun ls hl => ?_)
        refine lv_iinc (v := nI (i + 1)) (lv' := [(5, .int (nI (i + 1))), (4, .int ((x * (nI 31)) + (ft i))), (0, .ref h0), (1, .ref tx), (2, .int (nI 0)), (3, .int (nI n))]) G.1 G.2.1 d_Na_number_26 hl (k := 5) rfl (show (nI i) + Int32.ofInt 1 = nI (i + 1) from nI_1 _) (by decide) rfl (fun ls hl => ?_)
        refine lv_goto (tgt := 6) G.1 G.2.1 d_Na_number_29 (by decide) ?_
        exact ih_L_1 (i + 1) ((x * (nI 31)) + (ft i)) (by omega) (by omega) _ _ (hP.sub [0, 1, 2, 3, 4, 5, 6, 7, 8, 9, 10] rfl) (hD.sub [0, 1, 2, 3, 4, 5, 6, 7, 8, 9, 10] (by decide) rfl) hS ls (lv_sub hl [2, 3, 4, 5, 1, 0] rfl)
  exact L_1 (_ + 1) 0 (nI n) (Nat.lt_succ_self _) (Nat.zero_le _) _ _ (hP.sub [0, 1, 2, 3, 4, 5, 6, 7, 8, 9, 10] rfl) (hD.sub [0, 1, 2, 3, 4, 5, 6, 7, 8, 9, 10] (by decide) rfl) hS ls (lv_sub hl [2, 3, 4, 5, 1, 0] rfl)
