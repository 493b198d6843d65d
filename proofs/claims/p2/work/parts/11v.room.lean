/-! ===== A row of an object that is made longer where it is too short: F = room(F, n) ===== -/
abbrev rm_Mo_rk : Room := { frames := 0, cells := 0, slots := 0, locals := 0 }
abbrev rm_Mo_rg (N : Nat) : Room := { frames := 1, cells := 1, slots := N, locals := 120 }
theorem max_at {t n : Nat} (ht : t < 2 ^ 26) (hn : n < 2 ^ 26) : (if nI t < nI (2 * n) then nI (2 * n) else nI t) = nI (max t (2 * n)) := by
  by_cases h : t < 2 * n
  · rw [if_pos ((nI_ltI (by omega) (by omega)).mpr h), Nat.max_eq_right (by omega)]
  · rw [if_neg (fun z => h ((nI_ltI (by omega) (by omega)).mp z)), Nat.max_eq_left (by omega)]
def y_Mo_room : MethodName := ⟨"ClassWorksModel", "room", "([II)[I"⟩
abbrev b_Mo_room : ByteArray := prog_14_method_1_code
theorem d_Mo_room_0 : decode b_Mo_room 0 = .ok (.iload_n 1, 1) := by decide +kernel
theorem d_Mo_room_1 : decode b_Mo_room 1 = .ok (.aload_n 0, 1) := by decide +kernel
theorem d_Mo_room_2 : decode b_Mo_room 2 = .ok (.arraylength, 1) := by decide +kernel
theorem d_Mo_room_3 : decode b_Mo_room 3 = .ok (.if_icmp .gt 5, 3) := by decide +kernel
theorem d_Mo_room_6 : decode b_Mo_room 6 = .ok (.aload_n 0, 1) := by decide +kernel
theorem d_Mo_room_7 : decode b_Mo_room 7 = .ok (.areturn, 1) := by decide +kernel
theorem d_Mo_room_8 : decode b_Mo_room 8 = .ok (.iload_n 1, 1) := by decide +kernel
theorem d_Mo_room_9 : decode b_Mo_room 9 = .ok (.iconst 2, 1) := by decide +kernel
theorem d_Mo_room_10 : decode b_Mo_room 10 = .ok (.aload_n 0, 1) := by decide +kernel
theorem d_Mo_room_11 : decode b_Mo_room 11 = .ok (.arraylength, 1) := by decide +kernel
theorem d_Mo_room_12 : decode b_Mo_room 12 = .ok (.imul, 1) := by decide +kernel
theorem d_Mo_room_13 : decode b_Mo_room 13 = .ok (.invokestatic 5, 3) := by decide +kernel
theorem d_Mo_room_16 : decode b_Mo_room 16 = .ok (.newarray .int, 2) := by decide +kernel
theorem d_Mo_room_18 : decode b_Mo_room 18 = .ok (.astore_n 2, 1) := by decide +kernel
theorem d_Mo_room_19 : decode b_Mo_room 19 = .ok (.aload_n 0, 1) := by decide +kernel
theorem d_Mo_room_20 : decode b_Mo_room 20 = .ok (.iconst 0, 1) := by decide +kernel
theorem d_Mo_room_21 : decode b_Mo_room 21 = .ok (.aload_n 2, 1) := by decide +kernel
theorem d_Mo_room_22 : decode b_Mo_room 22 = .ok (.iconst 0, 1) := by decide +kernel
theorem d_Mo_room_23 : decode b_Mo_room 23 = .ok (.aload_n 0, 1) := by decide +kernel
theorem d_Mo_room_24 : decode b_Mo_room 24 = .ok (.arraylength, 1) := by decide +kernel
theorem d_Mo_room_25 : decode b_Mo_room 25 = .ok (.invokestatic 11, 3) := by decide +kernel
theorem d_Mo_room_28 : decode b_Mo_room 28 = .ok (.aload_n 2, 1) := by decide +kernel
theorem d_Mo_room_29 : decode b_Mo_room 29 = .ok (.areturn, 1) := by decide +kernel
theorem q2594 : Cond.methodLink "ClassWorksModel" 5 Lib.Math.max.name ∈ lw_ok := lw_okmem (List.mem_of_getElem? (i := 2594) (by decide +kernel)) rfl
set_option maxHeartbeats 4000000 in
theorem c_Mo_room_k (l : Launch) (D : va_G) (g : Nat → ClassId) (ws0 : va_W) (q1 q t n : Nat) (f : Nat → Int32) (sz : Nat) (he : ws0[q1]? = some (q, .inl (g 0, n, .inl f))) (ht : t ≤ n) (hn : n < 2 ^ 26) : Met l y_Mo_room (mw y_Mo_room b_Mo_room 3 (some (.array .int))) rm_Mo_rk (PC g D [] [.ref q, .int (nI t)] sz ws0) (va_Qq (fun (r : Option Nat) (u : Unit) => r = some q) (QW D (va_A ws0 sz) (fun _ : Unit => ws0)) (va_A ws0 sz)) 0 0 (va_A ws0 sz) := by
  refine ofQ (Or.inr ⟨_, rfl⟩) (by decide +kernel) (Nat.le_of_ble_eq_true rfl) ?_
  intro p e s m args below meth c A Q ls H locs G hsz hP hD hS hl hret
  subst hsz
  have hl : lv_has ls 3 [(0, .ref q), (1, .int (nI t))] := hl
  refine lv_iload_n G.1 G.2.1 d_Mo_room_0 rfl (lv_at hl 1 rfl) ?_
  refine lv_aload_n G.1 G.2.1 d_Mo_room_1 rfl (lv_at hl 0 rfl) ?_
  refine kalen G hP q1 0 he rfl d_Mo_room_2 ?_
  refine tpi (w := nI n) rfl ?_
  refine lv_icmp_gt (tgt := 8) G.1 G.2.1 d_Mo_room_3 (by decide) (fun c9 => ?_) (fun c9 => ?_)
  · exact absurd c9 (fun z => absurd ((nI_ltI (by omega) (by omega)).mp z) (by omega))
  · refine lv_aload_n G.1 G.2.1 d_Mo_room_6 rfl (lv_at hl 0 rfl) ?_
    exact hret (some q) () _ _ _ _ _ ls rfl hP hD hS (Nat.zero_le _) (Nat.zero_le _) d_Mo_room_7
set_option maxHeartbeats 4000000 in
theorem c_Mo_room_g (l : Launch) (D : va_G) (g : Nat → ClassId) (ws0 : va_W) (q1 q t n : Nat) (f : Nat → Int32) (sz : Nat) (he : ws0[q1]? = some (q, .inl (g 0, n, .inl f))) (hn : n < t) (ht : t < 2 ^ 26) (hfs : ∀ i, i < n → fits .int (.int (f i)) = true) : Met l y_Mo_room (mw y_Mo_room b_Mo_room 3 (some (.array .int))) (rm_Mo_rg (max t (2 * n))) (PC g D [] [.ref q, .int (nI t)] sz ws0) (va_Qq (fun (r : Option Nat) (u : Nat) => r = some u) (QW D (va_A ws0 sz) (fun u : Nat => ws0 ++ [(u, .inl (g 0, max t (2 * n), .inl (va_cpy f (fun _ => nI 0) 0 0 n)))])) (va_A ws0 sz)) 1 (max t (2 * n)) (va_A ws0 sz) := by
  have hm : max t (2 * n) < 2 ^ 27 := Nat.max_lt.mpr ⟨by omega, by omega⟩
  have hm2 : n ≤ max t (2 * n) := Nat.le_trans (by omega) (Nat.le_max_left _ _)
  refine ofQ (Or.inr ⟨_, rfl⟩) (by decide +kernel) (Nat.le_of_ble_eq_true rfl) ?_
  intro p e s m args below meth c A Q ls H locs G hsz hP hD hS hl hret
  subst hsz
  have hl : lv_has ls 3 [(0, .ref q), (1, .int (nI t))] := hl
  refine lv_iload_n G.1 G.2.1 d_Mo_room_0 rfl (lv_at hl 1 rfl) ?_
  refine lv_aload_n G.1 G.2.1 d_Mo_room_1 rfl (lv_at hl 0 rfl) ?_
  refine kalen G hP q1 0 he rfl d_Mo_room_2 ?_
  refine tpi (w := nI n) rfl ?_
  refine lv_icmp_gt (tgt := 8) G.1 G.2.1 d_Mo_room_3 (by decide) (fun c9 => ?_) (fun c9 => absurd ((nI_ltI (by omega) (by omega)).mpr hn) c9)
  refine lv_iload_n G.1 G.2.1 d_Mo_room_8 rfl (lv_at hl 1 rfl) ?_
  refine lv_iconst (v := nI 2) G.1 G.2.1 d_Mo_room_9 (by decide) ?_
  refine lv_aload_n G.1 G.2.1 d_Mo_room_10 rfl (lv_at hl 0 rfl) ?_
  refine kalen G hP q1 0 he rfl d_Mo_room_11 ?_
  refine tpi (w := nI n) rfl ?_
  refine lv_imul G.1 G.2.1 d_Mo_room_12 ?_
  refine tpi (w := nI (2 * n)) (pk_mul _ _) ?_
  refine va_mmax G.1 G.2.1 (G.2.2.1.trans hl.1.symm) G.2.2.2.2.2.2.1 (G.2.2.2.2.2.1 _ q2594) (G.2.2.2.2.2.1 _ q1804) (G.2.2.2.2.2.1 _ q337) (G.2.2.2.2.2.1 _ q1805) (Nat.le_of_ble_eq_true rfl) (Nat.le_of_ble_eq_true rfl) (Nat.zero_le _) (Nat.zero_le _) d_Mo_room_13 ?_
  refine tpi (w := nI (max t (2 * n))) (max_at ht (by omega)) ?_
  refine kNew (ty := .int) (N' := max t (2 * n)) (a0 := (max t (2 * n), .inl (fun _ => nI 0))) G q404 rfl (fun _ h => h) 0 rfl hP hD hS (fun _ => rfl) (nI_pos (by omega)) (nI_clamp (by omega)) (by show _ * 4 ≤ _; omega) (Nat.le_of_ble_eq_true rfl) (by show 0 + max t (2 * n) ≤ max t (2 * n); omega) d_Mo_room_16 (fun q_1 H hP hD hS => ?_)
  refine W.widen (k := 1) (n := max t (2 * n)) (by omega) (by omega) ?_
  refine lv_astore_n (lv' := [(2, .ref q_1), (0, .ref q), (1, .int (nI t))]) G.1 G.2.1 d_Mo_room_18 rfl hl (by decide) rfl (fun ls hl => ?_)
  refine lv_aload_n G.1 G.2.1 d_Mo_room_19 rfl (lv_at hl 1 rfl) ?_
  refine lv_iconst (v := nI 0) G.1 G.2.1 d_Mo_room_20 (by decide) ?_
  refine lv_aload_n G.1 G.2.1 d_Mo_room_21 rfl (lv_at hl 0 rfl) ?_
  refine lv_iconst (v := nI 0) G.1 G.2.1 d_Mo_room_22 (by decide) ?_
  refine lv_aload_n G.1 G.2.1 d_Mo_room_23 rfl (lv_at hl 1 rfl) ?_
  have he2 : (ws0 ++ [(q_1, (.inl (g 0, (max t (2 * n), .inl (fun _ => nI 0))) : va_E))])[q1]? = some (q, .inl (g 0, n, .inl f)) := (List.getElem?_append_left (List.getElem?_eq_some_iff.mp he).1).trans he
  have he3 : (ws0 ++ [(q_1, (.inl (g 0, (max t (2 * n), .inl (fun _ => nI 0))) : va_E))])[ws0.length]? = some (q_1, .inl (g 0, max t (2 * n), .inl (fun _ => nI 0))) := by
    rw [List.getElem?_append_right (Nat.le_refl _), Nat.sub_self]; rfl
  refine kalen G hP q1 0 he2 rfl d_Mo_room_24 ?_
  refine tpi (w := nI n) rfl ?_
  refine va_copyi (ty := .int) (n0 := n) (n1 := max t (2 * n)) (f := f) (g := fun _ => nI 0) G.1 G.2.1 (G.2.2.1.trans hl.1.symm) G.2.2.2.2.2.2.1 (G.2.2.2.2.2.1 _ q2595) (G.2.2.2.2.2.1 _ q488) (G.2.2.2.2.2.1 _ q487) (G.2.2.2.2.2.1 _ q338) G.2.2.2.2.2.2.2.2.1 hP hD hS q1 ws0.length 0 0 he2 he3 rfl rfl rfl (nI_pos (by omega)) (nI_pos (by omega)) (nI_pos (by omega)) (by rw [nI_clamp (n := 0) (by decide), nI_clamp (n := n) (by omega)]; omega) (by rw [nI_clamp (n := 0) (by decide), nI_clamp (n := n) (by omega)]; omega) (fun i hi => by rw [nI_clamp (n := n) (by omega)] at hi; rw [nI_clamp (n := 0) (by decide), Nat.zero_add]; exact hfs i hi) (Nat.le_of_ble_eq_true rfl) (Nat.le_of_ble_eq_true rfl) d_Mo_room_25 (fun H locs hP hD hS => ?_)
  rw [nI_clamp (n := 0) (by decide), nI_clamp (n := n) (by omega), List.set_append_right _ _ (Nat.le_refl _), Nat.sub_self] at hP hD
  refine lv_aload_n G.1 G.2.1 d_Mo_room_28 rfl (lv_at hl 0 rfl) ?_
  exact hret (some q_1) q_1 _ _ _ _ _ ls rfl hP hD hS (Nat.le_refl _) (Nat.le_refl _) d_Mo_room_29
theorem q2598 : Cond.code y_Mo_room b_Mo_room 3 (some (.array .int)) ∈ lw_ok := lw_okmem (List.mem_of_getElem? (i := 2598) (by decide +kernel)) rfl
theorem q2597 : Cond.static y_Mo_room ∈ lw_ok := lw_okmem (List.mem_of_getElem? (i := 2597) (by decide +kernel)) rfl
theorem w9_Mo_room : CWv y_Mo_room b_Mo_room 3 (some (.array .int)) 2 ∧ Cond.static y_Mo_room ∈ lw_ok := ⟨⟨q2598, q348, by decide +kernel, by decide +kernel, by decide +kernel⟩, q2597⟩
def y_Mo_roomy : MethodName := ⟨"ClassWorksModel", "roomy", "([BI)[B"⟩
abbrev b_Mo_roomy : ByteArray := prog_14_method_2_code
theorem d_Mo_roomy_0 : decode b_Mo_roomy 0 = .ok (.iload_n 1, 1) := by decide +kernel
theorem d_Mo_roomy_1 : decode b_Mo_roomy 1 = .ok (.aload_n 0, 1) := by decide +kernel
theorem d_Mo_roomy_2 : decode b_Mo_roomy 2 = .ok (.arraylength, 1) := by decide +kernel
theorem d_Mo_roomy_3 : decode b_Mo_roomy 3 = .ok (.if_icmp .gt 5, 3) := by decide +kernel
theorem d_Mo_roomy_6 : decode b_Mo_roomy 6 = .ok (.aload_n 0, 1) := by decide +kernel
theorem d_Mo_roomy_7 : decode b_Mo_roomy 7 = .ok (.areturn, 1) := by decide +kernel
theorem d_Mo_roomy_8 : decode b_Mo_roomy 8 = .ok (.iload_n 1, 1) := by decide +kernel
theorem d_Mo_roomy_9 : decode b_Mo_roomy 9 = .ok (.iconst 2, 1) := by decide +kernel
theorem d_Mo_roomy_10 : decode b_Mo_roomy 10 = .ok (.aload_n 0, 1) := by decide +kernel
theorem d_Mo_roomy_11 : decode b_Mo_roomy 11 = .ok (.arraylength, 1) := by decide +kernel
theorem d_Mo_roomy_12 : decode b_Mo_roomy 12 = .ok (.imul, 1) := by decide +kernel
theorem d_Mo_roomy_13 : decode b_Mo_roomy 13 = .ok (.invokestatic 5, 3) := by decide +kernel
theorem d_Mo_roomy_16 : decode b_Mo_roomy 16 = .ok (.newarray .byte, 2) := by decide +kernel
theorem d_Mo_roomy_18 : decode b_Mo_roomy 18 = .ok (.astore_n 2, 1) := by decide +kernel
theorem d_Mo_roomy_19 : decode b_Mo_roomy 19 = .ok (.aload_n 0, 1) := by decide +kernel
theorem d_Mo_roomy_20 : decode b_Mo_roomy 20 = .ok (.iconst 0, 1) := by decide +kernel
theorem d_Mo_roomy_21 : decode b_Mo_roomy 21 = .ok (.aload_n 2, 1) := by decide +kernel
theorem d_Mo_roomy_22 : decode b_Mo_roomy 22 = .ok (.iconst 0, 1) := by decide +kernel
theorem d_Mo_roomy_23 : decode b_Mo_roomy 23 = .ok (.aload_n 0, 1) := by decide +kernel
theorem d_Mo_roomy_24 : decode b_Mo_roomy 24 = .ok (.arraylength, 1) := by decide +kernel
theorem d_Mo_roomy_25 : decode b_Mo_roomy 25 = .ok (.invokestatic 11, 3) := by decide +kernel
theorem d_Mo_roomy_28 : decode b_Mo_roomy 28 = .ok (.aload_n 2, 1) := by decide +kernel
theorem d_Mo_roomy_29 : decode b_Mo_roomy 29 = .ok (.areturn, 1) := by decide +kernel
theorem q403 : Cond.arrayClass .byte ∈ lw_ok := lw_okmem (List.mem_of_getElem? (i := 403) (by decide +kernel)) rfl
set_option maxHeartbeats 4000000 in
theorem c_Mo_roomy_k (l : Launch) (D : va_G) (g : Nat → ClassId) (ws0 : va_W) (q1 q t n : Nat) (f : Nat → Int32) (sz : Nat) (he : ws0[q1]? = some (q, .inl (g 1, n, .inl f))) (ht : t ≤ n) (hn : n < 2 ^ 26) : Met l y_Mo_roomy (mw y_Mo_roomy b_Mo_roomy 3 (some (.array .byte))) rm_Mo_rk (PC g D [] [.ref q, .int (nI t)] sz ws0) (va_Qq (fun (r : Option Nat) (u : Unit) => r = some q) (QW D (va_A ws0 sz) (fun _ : Unit => ws0)) (va_A ws0 sz)) 0 0 (va_A ws0 sz) := by
  refine ofQ (Or.inr ⟨_, rfl⟩) (by decide +kernel) (Nat.le_of_ble_eq_true rfl) ?_
  intro p e s m args below meth c A Q ls H locs G hsz hP hD hS hl hret
  subst hsz
  have hl : lv_has ls 3 [(0, .ref q), (1, .int (nI t))] := hl
  refine lv_iload_n G.1 G.2.1 d_Mo_roomy_0 rfl (lv_at hl 1 rfl) ?_
  refine lv_aload_n G.1 G.2.1 d_Mo_roomy_1 rfl (lv_at hl 0 rfl) ?_
  refine kalen G hP q1 1 he rfl d_Mo_roomy_2 ?_
  refine tpi (w := nI n) rfl ?_
  refine lv_icmp_gt (tgt := 8) G.1 G.2.1 d_Mo_roomy_3 (by decide) (fun c9 => ?_) (fun c9 => ?_)
  · exact absurd c9 (fun z => absurd ((nI_ltI (by omega) (by omega)).mp z) (by omega))
  · refine lv_aload_n G.1 G.2.1 d_Mo_roomy_6 rfl (lv_at hl 0 rfl) ?_
    exact hret (some q) () _ _ _ _ _ ls rfl hP hD hS (Nat.zero_le _) (Nat.zero_le _) d_Mo_roomy_7
set_option maxHeartbeats 4000000 in
theorem c_Mo_roomy_g (l : Launch) (D : va_G) (g : Nat → ClassId) (ws0 : va_W) (q1 q t n : Nat) (f : Nat → Int32) (sz : Nat) (he : ws0[q1]? = some (q, .inl (g 1, n, .inl f))) (hn : n < t) (ht : t < 2 ^ 26) (hfs : ∀ i, i < n → fits .byte (.int (f i)) = true) : Met l y_Mo_roomy (mw y_Mo_roomy b_Mo_roomy 3 (some (.array .byte))) (rm_Mo_rg (max t (2 * n))) (PC g D [] [.ref q, .int (nI t)] sz ws0) (va_Qq (fun (r : Option Nat) (u : Nat) => r = some u) (QW D (va_A ws0 sz) (fun u : Nat => ws0 ++ [(u, .inl (g 1, max t (2 * n), .inl (va_cpy f (fun _ => nI 0) 0 0 n)))])) (va_A ws0 sz)) 1 (max t (2 * n)) (va_A ws0 sz) := by
  have hm : max t (2 * n) < 2 ^ 27 := Nat.max_lt.mpr ⟨by omega, by omega⟩
  have hm2 : n ≤ max t (2 * n) := Nat.le_trans (by omega) (Nat.le_max_left _ _)
  refine ofQ (Or.inr ⟨_, rfl⟩) (by decide +kernel) (Nat.le_of_ble_eq_true rfl) ?_
  intro p e s m args below meth c A Q ls H locs G hsz hP hD hS hl hret
  subst hsz
  have hl : lv_has ls 3 [(0, .ref q), (1, .int (nI t))] := hl
  refine lv_iload_n G.1 G.2.1 d_Mo_roomy_0 rfl (lv_at hl 1 rfl) ?_
  refine lv_aload_n G.1 G.2.1 d_Mo_roomy_1 rfl (lv_at hl 0 rfl) ?_
  refine kalen G hP q1 1 he rfl d_Mo_roomy_2 ?_
  refine tpi (w := nI n) rfl ?_
  refine lv_icmp_gt (tgt := 8) G.1 G.2.1 d_Mo_roomy_3 (by decide) (fun c9 => ?_) (fun c9 => absurd ((nI_ltI (by omega) (by omega)).mpr hn) c9)
  refine lv_iload_n G.1 G.2.1 d_Mo_roomy_8 rfl (lv_at hl 1 rfl) ?_
  refine lv_iconst (v := nI 2) G.1 G.2.1 d_Mo_roomy_9 (by decide) ?_
  refine lv_aload_n G.1 G.2.1 d_Mo_roomy_10 rfl (lv_at hl 0 rfl) ?_
  refine kalen G hP q1 1 he rfl d_Mo_roomy_11 ?_
  refine tpi (w := nI n) rfl ?_
  refine lv_imul G.1 G.2.1 d_Mo_roomy_12 ?_
  refine tpi (w := nI (2 * n)) (pk_mul _ _) ?_
  refine va_mmax G.1 G.2.1 (G.2.2.1.trans hl.1.symm) G.2.2.2.2.2.2.1 (G.2.2.2.2.2.1 _ q2594) (G.2.2.2.2.2.1 _ q1804) (G.2.2.2.2.2.1 _ q337) (G.2.2.2.2.2.1 _ q1805) (Nat.le_of_ble_eq_true rfl) (Nat.le_of_ble_eq_true rfl) (Nat.zero_le _) (Nat.zero_le _) d_Mo_roomy_13 ?_
  refine tpi (w := nI (max t (2 * n))) (max_at ht (by omega)) ?_
  refine kNew (ty := .byte) (N' := max t (2 * n)) (a0 := (max t (2 * n), .inl (fun _ => nI 0))) G q403 rfl (fun _ h => h) 1 rfl hP hD hS (fun _ => rfl) (nI_pos (by omega)) (nI_clamp (by omega)) (by show _ * 1 ≤ _; omega) (Nat.le_of_ble_eq_true rfl) (by show 0 + max t (2 * n) ≤ max t (2 * n); omega) d_Mo_roomy_16 (fun q_1 H hP hD hS => ?_)
  refine W.widen (k := 1) (n := max t (2 * n)) (by omega) (by omega) ?_
  refine lv_astore_n (lv' := [(2, .ref q_1), (0, .ref q), (1, .int (nI t))]) G.1 G.2.1 d_Mo_roomy_18 rfl hl (by decide) rfl (fun ls hl => ?_)
  refine lv_aload_n G.1 G.2.1 d_Mo_roomy_19 rfl (lv_at hl 1 rfl) ?_
  refine lv_iconst (v := nI 0) G.1 G.2.1 d_Mo_roomy_20 (by decide) ?_
  refine lv_aload_n G.1 G.2.1 d_Mo_roomy_21 rfl (lv_at hl 0 rfl) ?_
  refine lv_iconst (v := nI 0) G.1 G.2.1 d_Mo_roomy_22 (by decide) ?_
  refine lv_aload_n G.1 G.2.1 d_Mo_roomy_23 rfl (lv_at hl 1 rfl) ?_
  have he2 : (ws0 ++ [(q_1, (.inl (g 1, (max t (2 * n), .inl (fun _ => nI 0))) : va_E))])[q1]? = some (q, .inl (g 1, n, .inl f)) := (List.getElem?_append_left (List.getElem?_eq_some_iff.mp he).1).trans he
  have he3 : (ws0 ++ [(q_1, (.inl (g 1, (max t (2 * n), .inl (fun _ => nI 0))) : va_E))])[ws0.length]? = some (q_1, .inl (g 1, max t (2 * n), .inl (fun _ => nI 0))) := by
    rw [List.getElem?_append_right (Nat.le_refl _), Nat.sub_self]; rfl
  refine kalen G hP q1 1 he2 rfl d_Mo_roomy_24 ?_
  refine tpi (w := nI n) rfl ?_
  refine va_copyi (ty := .byte) (n0 := n) (n1 := max t (2 * n)) (f := f) (g := fun _ => nI 0) G.1 G.2.1 (G.2.2.1.trans hl.1.symm) G.2.2.2.2.2.2.1 (G.2.2.2.2.2.1 _ q2595) (G.2.2.2.2.2.1 _ q488) (G.2.2.2.2.2.1 _ q487) (G.2.2.2.2.2.1 _ q338) G.2.2.2.2.2.2.2.2.1 hP hD hS q1 ws0.length 1 1 he2 he3 rfl rfl rfl (nI_pos (by omega)) (nI_pos (by omega)) (nI_pos (by omega)) (by rw [nI_clamp (n := 0) (by decide), nI_clamp (n := n) (by omega)]; omega) (by rw [nI_clamp (n := 0) (by decide), nI_clamp (n := n) (by omega)]; omega) (fun i hi => by rw [nI_clamp (n := n) (by omega)] at hi; rw [nI_clamp (n := 0) (by decide), Nat.zero_add]; exact hfs i hi) (Nat.le_of_ble_eq_true rfl) (Nat.le_of_ble_eq_true rfl) d_Mo_roomy_25 (fun H locs hP hD hS => ?_)
  rw [nI_clamp (n := 0) (by decide), nI_clamp (n := n) (by omega), List.set_append_right _ _ (Nat.le_refl _), Nat.sub_self] at hP hD
  refine lv_aload_n G.1 G.2.1 d_Mo_roomy_28 rfl (lv_at hl 0 rfl) ?_
  exact hret (some q_1) q_1 _ _ _ _ _ ls rfl hP hD hS (Nat.le_refl _) (Nat.le_refl _) d_Mo_roomy_29
theorem q2593 : Cond.code y_Mo_roomy b_Mo_roomy 3 (some (.array .byte)) ∈ lw_ok := lw_okmem (List.mem_of_getElem? (i := 2593) (by decide +kernel)) rfl
theorem q2592 : Cond.static y_Mo_roomy ∈ lw_ok := lw_okmem (List.mem_of_getElem? (i := 2592) (by decide +kernel)) rfl
theorem w9_Mo_roomy : CWv y_Mo_roomy b_Mo_roomy 3 (some (.array .byte)) 2 ∧ Cond.static y_Mo_roomy ∈ lw_ok := ⟨⟨q2593, q348, by decide +kernel, by decide +kernel, by decide +kernel⟩, q2592⟩
abbrev yR (y : Ly) (a k P N : Nat) : Ly := (w2 y.1 a k P, w2 y.2 a k N)
theorem fvl_mv {ad : Nat → Nat} {y : Ly} {σ : St} {a k P N z j t : Nat} {f : Nat → Int32} (hal : ∀ b j, kd (cl b) j = 7 → sX σ b j ≠ (a, k)) (h : z = a → j ≠ k) (ht : t = kd (cl z) j) (h8 : t ≤ 7) : fvl ad (yR y a k P N) (uF σ a k f) z j t = fvl ad y σ z j t := by
  have pE : yP (yR y a k P N) z j = yP y z j := w2_ne h
  unfold fvl
  rw [pE]
  by_cases h7 : t = 7
  · have hs := hal z j (ht ▸ h7)
    have : yP (yR y a k P N) (sX σ z j).1 (sX σ z j).2 = yP y (sX σ z j).1 (sX σ z j).2 := w2_ne (fun q1 q2 => hs (Prod.ext q1 q2))
    show (if t = 0 then _ else if t = 1 then _ else if t ≤ 4 then _ else if t = 5 then _ else if t = 6 then _ else Value.ref (yP (yR y a k P N) (sX σ z j).1 (sX σ z j).2)) = _
    rw [this]; rfl
  · by_cases h6 : t ≤ 6
    · have c7 : t = 0 ∨ t = 1 ∨ t = 2 ∨ t = 3 ∨ t = 4 ∨ t = 5 ∨ t = 6 := by omega
      rcases c7 with e | e | e | e | e | e | e <;> subst e <;> rfl
    · omega
theorem rm_ws {g : Nat → ClassId} {ad : Nat → Nat} {D : va_G} {y : Ly} {σ : St} {a cn k q0 t P N : Nat} {f : Nat → Int32} {A : Nat → Prop} {H : Heap} (hs : k < 200) (hcl : cl a = cn) (hq : cL[q0]? = some (a, 200)) (hd : kd cn k = 2) (ht : tyx cn k = t) (hal : ∀ b j, kd (cl b) j = 7 → sX σ b j ≠ (a, k))
    (hP : va_P D CL ((ws g ad y σ ++ [(P, (.inl (g t, (N, .inl f)) : va_E))]).set q0 (ad a, .inr (cn, (fls ad y σ a).set k (.ref P)))) H) (hD : va_D A ((ws g ad y σ ++ [(P, (.inl (g t, (N, .inl f)) : va_E))]).set q0 (ad a, .inr (cn, (fls ad y σ a).set k (.ref P))))) :
    va_P D CL (ws g ad (yR y a k P N) (uF σ a k f)) H ∧ va_D A (ws g ad (yR y a k P N) (uF σ a k f)) := by
  have hd' : kd (cl a) k = 2 := by rw [hcl]; exact hd
  have ht' : tyx (cl a) k = t := by rw [hcl]; exact ht
  obtain ⟨i1, hi1⟩ := List.mem_iff_getElem?.mp (mem_row (a := a) (k := k) (by rw [hd']; decide) (by rw [hd']; decide))
  have n1 : k ≠ 200 := row_ne (a := a) (by rw [hd']; decide) (by rw [hd']; decide)
  have hlw : (ws g ad y σ).length = cL.length := List.length_map _
  have hq0 : q0 < cL.length := (List.getElem?_eq_some_iff.mp hq).1
  have h1l : i1 < cL.length := (List.getElem?_eq_some_iff.mp hi1).1
  have old : ∀ (i : Nat) (x : Nat × Nat), cL[i]? = some x → i ≠ q0 → ((ws g ad y σ ++ [(P, (.inl (g t, (N, .inl f)) : va_E))]).set q0 (ad a, .inr (cn, (fls ad y σ a).set k (.ref P))))[i]? = some (clv g ad y σ x) := by
    intro i x hx hne
    rw [List.getElem?_set_ne (fun z => hne z.symm), List.getElem?_append_left (by rw [hlw]; exact (List.getElem?_eq_some_iff.mp hx).1)]
    show (cL.map _)[i]? = _
    rw [List.getElem?_map, hx]; rfl
  have new : ((ws g ad y σ ++ [(P, (.inl (g t, (N, .inl f)) : va_E))]).set q0 (ad a, .inr (cn, (fls ad y σ a).set k (.ref P))))[q0]? = some (ad a, .inr (cn, (fls ad y σ a).set k (.ref P))) := by
    rw [List.getElem?_set_self]
    rw [List.length_append, hlw]; omega
  have last : ((ws g ad y σ ++ [(P, (.inl (g t, (N, .inl f)) : va_E))]).set q0 (ad a, .inr (cn, (fls ad y σ a).set k (.ref P))))[cL.length]? = some (P, .inl (g t, (N, .inl f))) := by
    rw [List.getElem?_set_ne (by omega), List.getElem?_append_right (by rw [hlw]; exact Nat.le_refl _), hlw, Nat.sub_self]; rfl
  have p1 : yP (yR y a k P N) a k = P := w2_eq
  have m1 : yN (yR y a k P N) a k = N := w2_eq
  have a1 : sA (uF σ a k f) a k = f := w2_eq
  let π : Nat → Nat := fun i => if i = i1 then cL.length else i
  have hπ : ∀ (i : Nat) (z : Nat × va_E), (ws g ad (yR y a k P N) (uF σ a k f))[i]? = some z → ((ws g ad y σ ++ [(P, (.inl (g t, (N, .inl f)) : va_E))]).set q0 (ad a, .inr (cn, (fls ad y σ a).set k (.ref P))))[π i]? = some z := by
    intro i z hz
    have hz' : (cL.map (clv g ad (yR y a k P N) (uF σ a k f)))[i]? = some z := hz
    rw [List.getElem?_map] at hz'
    cases ex : cL[i]? with
    | none => rw [ex] at hz'; cases hz'
    | some x =>
      rw [ex] at hz'
      injection hz' with hz'
      subst hz'
      by_cases c1 : i = i1
      · subst c1
        rw [hi1] at ex; injection ex with ex; subst ex
        show (_ : List _)[if i = i then cL.length else i]? = _
        rw [if_pos rfl, last, clv_r n1, hd', ht', p1]
        show some (P, Sum.inl (g t, (N, Sum.inl f))) = some (P, Sum.inl (g t, (yN (yR y a k P N) a k, Sum.inl (sA (uF σ a k f) a k))))
        rw [m1, a1]
      · show (_ : List _)[if i = i1 then cL.length else i]? = _
        rw [if_neg c1]
        by_cases c0 : i = q0
        · subst c0
          rw [hq] at ex; injection ex with ex; subst ex
          rw [new, clv_o hcl]
          have : (fls ad y σ a).set k (.ref P) = fls ad (yR y a k P N) (uF σ a k f) a := by
            apply List.ext_getElem?
            intro j
            show (((List.range (nf (cl a))).map (fun k => fvl ad y σ a k (kd (cl a) k))).set k _)[j]? = ((List.range (nf (cl a))).map (fun j => fvl ad (yR y a k P N) (uF σ a k f) a j (kd (cl a) j)))[j]?
            have hn1 : k < nf (cl a) := kd_lt (by rw [hd']; decide) hs
            by_cases j1 : k = j
            · subst j1
              rw [List.getElem?_set_self (by rw [List.length_map, List.length_range]; exact hn1), List.getElem?_map, List.getElem?_range hn1]
              show _ = some (fvl ad (yR y a k P N) (uF σ a k f) a k (kd (cl a) k))
              rw [hd']
              show _ = some (Value.ref (yP (yR y a k P N) a k))
              rw [p1]
            · rw [List.getElem?_set_ne j1, List.getElem?_map, List.getElem?_map]
              cases er : (List.range (nf (cl a)))[j]? with
              | none => rfl
              | some j' =>
                have hl := (List.getElem?_eq_some_iff.mp er).1
                rw [List.length_range] at hl
                have hj : j' = j := by
                  rw [List.getElem?_range hl] at er
                  exact (Option.some.inj er).symm
                subst hj
                exact congrArg some (fvl_mv hal (fun _ z => j1 z.symm) rfl (kd7 hl)).symm
          rw [this]
        · rw [old i x ex c0]
          have x0 : x ≠ (a, 200) := fun z => c0 (cL_inj ex (z ▸ hq))
          have x1 : x ≠ (a, k) := fun z => c1 (cL_inj ex (z ▸ hi1))
          refine congrArg some ?_
          show (if x.2 = 200 then _ else _) = (if x.2 = 200 then _ else _)
          by_cases hx : x.2 = 200
          · rw [if_pos hx, if_pos hx]
            have hne : x.1 ≠ a := fun q => x0 (Prod.ext q hx)
            have : fls ad (yR y a k P N) (uF σ a k f) x.1 = fls ad y σ x.1 := by
              unfold fls
              apply List.map_congr_left
              intro j hj
              exact fvl_mv hal (fun q => absurd q hne) rfl (kd7 (List.mem_range.mp hj))
            rw [this]
          · rw [if_neg hx, if_neg hx]
            have hz : x.1 = a → x.2 ≠ k := fun q w => x1 (Prod.ext q w)
            unfold rwd
            have e1 : yP (yR y a k P N) x.1 x.2 = yP y x.1 x.2 := w2_ne hz
            have e2 : yN (yR y a k P N) x.1 x.2 = yN y x.1 x.2 := w2_ne hz
            have e3 : sA (uF σ a k f) x.1 x.2 = sA σ x.1 x.2 := w2_ne hz
            rw [e1, e2, e3]
            rfl
  have hinj : ∀ i j : Nat, i < cL.length → j < cL.length → π i = π j → i = j := by
    intro i j hi hj h
    have h' : (if i = i1 then cL.length else i) = (if j = i1 then cL.length else j) := h
    by_cases b1 : i = i1
    · by_cases b2 : j = i1
      · omega
      · rw [if_pos b1, if_neg b2] at h'; omega
    · by_cases b2 : j = i1
      · rw [if_neg b1, if_pos b2] at h'; omega
      · rw [if_neg b1, if_neg b2] at h'; exact h'
  have hlw' : (ws g ad (yR y a k P N) (uF σ a k f)).length = cL.length := List.length_map _
  exact ⟨hP.by π hπ, hD.by π hπ (fun i j hi hj h => hinj i j (by rw [← hlw']; exact hi) (by rw [← hlw']; exact hj) h)⟩
/-- what is asked ahead of F = room(F, v) -/
def xR (mc ms dk dn : Nat) (ty : FieldType) (y : Ly) (σ : St) (a k : Nat) (v : Int32) (K : Ly → St → Nat → Nat → Prop) : Prop :=
  ∃ t : Nat, v = nI t ∧ t < 67108864 ∧ yN y a k < 67108864 ∧ (∀ i, i < yN y a k → fits ty (.int (sA σ a k i)) = true) ∧ (∀ b j, kd (cl b) j = 7 → sX σ b j ≠ (a, k)) ∧
    (t ≤ yN y a k → K y σ dk dn) ∧
    (yN y a k < t → (dk + 1 ≤ mc ∧ dn + max t (2 * yN y a k) ≤ ms) ∧ ∀ (q : Nat) (f : Nat → Int32), (∀ i, i < yN y a k → f i = sA σ a k i) → (∀ i, yN y a k ≤ i → f i = nI 0) → K (w2 y.1 a k q, w2 y.2 a k (max t (2 * yN y a k))) (uF σ a k f) (dk + 1) (dn + max t (2 * yN y a k)))
section RM
variable {p : Program} {l : Launch} {e : Env} {R : Room} {s : State} {m : MethodId} {args : Array Value} {below : List Frame} {meth : Method} {c : Code} {H : Heap} {locs : List Loc} {dk dn : Nat} {Q : State → Prop}
variable {cc : ByteArray} {pc : Nat} {ls : Array Slot} {rest : List Value} {A0 : Nat → Prop} {D : va_G} {y0 : MethodName} {nL : Nat} {r0 : Option FieldType} {g : Nat → ClassId} {sl : List SL} {ad : Nat → Nat} {y : Ly} {σ : St} {a : Nat}
theorem uroom {C ref : String} {T : u_T} {N cn k t2 index idx2 mc ms : Nat} {ty : FieldType} {y1 : MethodName} {b1 : ByteArray} {v : Int32} {K : Ly → St → Nat → Nat → Prop} (G : GV l p s m args meth c y0 cc nL r0 g D sl A0) (hP : va_P D CL (ws g ad y σ) H) (hD : va_D A0 (ws g ad y σ)) (hS : va_S A0 s.heap H locs)
    (ck : ∀ (ws0 : va_W) (q1 q t n : Nat) (f : Nat → Int32) (sz : Nat), ws0[q1]? = some (q, .inl (g t2, n, .inl f)) → t ≤ n → n < 2 ^ 26 → Met l y1 (mw y1 b1 3 (some (.array ty))) rm_Mo_rk (PC g D [] [.ref q, .int (nI t)] sz ws0) (va_Qq (fun (r : Option Nat) (u : Unit) => r = some q) (QW D (va_A ws0 sz) (fun _ : Unit => ws0)) (va_A ws0 sz)) 0 0 (va_A ws0 sz))
    (cg : ∀ (ws0 : va_W) (q1 q t n : Nat) (f : Nat → Int32) (sz : Nat), ws0[q1]? = some (q, .inl (g t2, n, .inl f)) → n < t → t < 2 ^ 26 → (∀ i, i < n → fits ty (.int (f i)) = true) → Met l y1 (mw y1 b1 3 (some (.array ty))) (rm_Mo_rg (max t (2 * n))) (PC g D [] [.ref q, .int (nI t)] sz ws0) (va_Qq (fun (r : Option Nat) (u : Nat) => r = some u) (QW D (va_A ws0 sz) (fun u : Nat => ws0 ++ [(u, .inl (g t2, max t (2 * n), .inl (va_cpy f (fun _ => nI 0) 0 0 n)))])) (va_A ws0 sz)) 1 (max t (2 * n)) (va_A ws0 sz))
    (w : CWv y1 b1 3 (some (.array ty)) 2 ∧ Cond.static y1 ∈ lw_ok) (hl : Cond.methodLink y0.cls index y1 ∈ lw_ok) (hR : 2 ≤ R.frames ∧ 150 ≤ R.locals) (hmc : mc ≤ R.cells) (hms : ms ≤ R.slots) (hd : dk ≤ mc ∧ dn ≤ ms)
    (hs : k < 200) (hcl : cl a = cn) (hkd : kd cn k = 2) (hty : tyx cn k = t2) (hin : ∀ w ∈ u_ws C T N, w ∈ lw_ok) (ty0 : Nat → FieldType) (hty0 : ∀ k, k < N → parseFieldDescriptor (T k).2.2.1 = some (ty0 k)) (hnm : ∀ a, a < N → ∀ b, b < N → a ≠ b → (T a).2.1 ≠ (T b).2.1) (hc : CL[cn]? = some (C, T, N)) (hk : k < N) (hlink : Cond.fieldLink y0.cls idx2 ref (T k).2.1 (T k).2.2.1 ∈ lw_ok) (hsame : (T k).1 = ref) (hfin : (T k).2.2.2 = false) (hn : ∀ q : Nat, narrow (ty0 k) (.ref q) = .ref q) (hfit : ∀ q : Nat, fits (ty0 k) (.ref q) = true)
    (hsz : ls.size = nL) (hroom : ((Value.ref (ad a) :: rest).map fun v => v.category).sum ≤ 8) (h : xR mc ms dk dn ty y σ a k v K) (hdg : decode cc pc = .ok (.invokestatic index, 3)) (hdp : decode cc (pc + 3) = .ok (.putfield idx2, 3))
    (kk : ∀ (y2 : Ly) (σ2 : St) (d1 d2 : Nat) (H1 : Heap) (locs1 : List Loc), K y2 σ2 d1 d2 → va_P D CL (ws g ad y2 σ2) H1 → va_D A0 (ws g ad y2 σ2) → va_S A0 s.heap H1 locs1 → W p l e R s m args below meth c H1 locs1 d1 d2 Q (F0 m (pc + 6) ls rest)) : W p l e R s m args below meth c H locs dk dn Q (F0 m pc ls (.int v :: .ref (yP y a k) :: .ref (ad a) :: rest)) := by
  obtain ⟨t, rfl, ht, hy, hfs, hal, hA, hB⟩ := h
  have h99 : cl a ≠ 99 := fun q => by rw [hcl] at q; subst q; simp at hc
  have hkd' : kd (cl a) k = 2 := by rw [hcl]; exact hkd
  have hty' : tyx (cl a) k = t2 := by rw [hcl]; exact hty
  obtain ⟨q0, hq, he⟩ := ws_at (g := g) (ad := ad) (y := y) (σ := σ) (mem_obj h99)
  obtain ⟨q1, hq1, hne1, he1⟩ := row_at (g := g) (ad := ad) (y := y) (σ0 := σ) hkd' (by decide) (by decide) hty'
  rw [clv_o hcl] at he
  have hr : rwd ad y σ a k 2 = (yN y a k, .inl (sA σ a k)) := rfl
  rw [hr] at he1
  have hkn : k < nf (cl a) := kd_lt (by rw [hkd']; decide) hs
  have hlen : k < (fls ad y σ a).length := by
    show k < (List.map _ (List.range (nf (cl a)))).length
    rw [List.length_map, List.length_range]; exact hkn
  by_cases h1 : t ≤ yN y a k
  · refine kEq (wr := []) G (kS (As := [.ref (yP y a k), .int (nI t)]) (rest := .ref (ad a) :: rest) G hP hD hS (List.range cL.length) ws_all cL_nd (ck (ws g ad y σ) q1 (yP y a k) t (yN y a k) (sA σ a k) H.size he1 h1 hy) w hl rfl rfl ⟨Nat.le_trans (by decide) hR.1, Nat.le_trans (by decide) hR.2⟩ (fun _ h => absurd h List.not_mem_nil) hsz rfl hroom rfl ⟨Nat.le_trans hd.1 hmc, Nat.le_trans hd.2 hms⟩ hdg) hP hD hS (List.range cL.length) [] ws_all rfl rfl rfl (fun r u H1 locs1 hw hP1 hD1 hS1 hz => ?_)
    have hw : r = some (yP y a k) := hw
    subst hw
    refine kp G hin ty0 hty0 hnm hP1 hD1 hS1 q0 he hc k hk hlink hsame hfin (hn _) (hfit _) hlen hdp (fun H2 locs2 hP2 hD2 hS2 => ?_)
    have hw := ws_put (g := g) (ad := ad) (y := y) (σ := σ) (σ' := σ) (a := a) (k := k) (v := .ref (yP y a k)) hcl hq (by rw [hkd]; rfl) ⟨fun _ _ _ => ⟨rfl, rfl, rfl, rfl⟩, rfl, rfl⟩
    have hP2 : va_P D CL ((ws g ad y σ).set q0 (ad a, .inr (cn, (fls ad y σ a).set k (.ref (yP y a k))))) H2 := hP2
    have hD2 : va_D A0 ((ws g ad y σ).set q0 (ad a, .inr (cn, (fls ad y σ a).set k (.ref (yP y a k))))) := hD2
    rw [hw] at hP2 hD2
    exact kk _ _ _ _ _ _ (hA h1) hP2 hD2 hS2
  · have h1 : yN y a k < t := by omega
    obtain ⟨⟨g1, g2⟩, hB⟩ := hB h1
    refine kEq (wr := []) G (kS (As := [.ref (yP y a k), .int (nI t)]) (rest := .ref (ad a) :: rest) G hP hD hS (List.range cL.length) ws_all cL_nd (cg (ws g ad y σ) q1 (yP y a k) t (yN y a k) (sA σ a k) H.size he1 h1 ht hfs) w hl rfl rfl ⟨hR.1, Nat.le_trans (by show 8 + (3 + 11) + 120 ≤ 150; decide) hR.2⟩ (fun _ h => absurd h List.not_mem_nil) hsz rfl hroom rfl ⟨Nat.le_trans g1 hmc, Nat.le_trans g2 hms⟩ hdg) hP hD hS (List.range cL.length) [] ws_all rfl rfl rfl (fun r u H1 locs1 hw hP1 hD1 hS1 hz => ?_)
    have hw : r = some u := hw
    subst hw
    have hP1 : va_P D CL (ws g ad y σ ++ [(u, .inl (g t2, (max t (2 * yN y a k), .inl (va_cpy (sA σ a k) (fun _ => nI 0) 0 0 (yN y a k)))))]) H1 := hP1
    have hD1 : va_D A0 (ws g ad y σ ++ [(u, .inl (g t2, (max t (2 * yN y a k), .inl (va_cpy (sA σ a k) (fun _ => nI 0) 0 0 (yN y a k)))))]) := hD1
    refine kp G hin ty0 hty0 hnm hP1 hD1 hS1 q0 ((List.getElem?_append_left (List.getElem?_eq_some_iff.mp he).1).trans he) hc k hk hlink hsame hfin (hn _) (hfit _) hlen hdp (fun H2 locs2 hP2 hD2 hS2 => ?_)
    obtain ⟨hP3, hD3⟩ := rm_ws hs hcl hq hkd hty hal hP2 hD2
    refine kk _ _ _ _ _ _ (hB u (va_cpy (sA σ a k) (fun _ => nI 0) 0 0 (yN y a k)) (fun i hi => ?_) (fun i hi => ?_)) hP3 hD3 hS2
    · simp [va_cpy, hi]
    · simp [va_cpy, Nat.not_lt.mpr hi]
theorem uroomN {host : String} {C ref : String} {T : u_T} {N cn k t2 index idx2 mc ms : Nat} {ty : FieldType} {y1 : MethodName} {b1 : ByteArray} {v : Int32} {K : Ly → St → Nat → Nat → Prop} (G : GV l p s m args meth c y0 cc nL r0 g D sl A0) (hP : va_P D CL (ws g ad y σ) H) (hD : va_D A0 (ws g ad y σ)) (hS : va_S A0 s.heap H locs)
    (ck : ∀ (ws0 : va_W) (q1 q t n : Nat) (f : Nat → Int32) (sz : Nat), ws0[q1]? = some (q, .inl (g t2, n, .inl f)) → t ≤ n → n < 2 ^ 26 → Met l y1 (mw y1 b1 3 (some (.array ty))) rm_Mo_rk (PC g D [] [.ref q, .int (nI t)] sz ws0) (va_Qq (fun (r : Option Nat) (u : Unit) => r = some q) (QW D (va_A ws0 sz) (fun _ : Unit => ws0)) (va_A ws0 sz)) 0 0 (va_A ws0 sz))
    (cg : ∀ (ws0 : va_W) (q1 q t n : Nat) (f : Nat → Int32) (sz : Nat), ws0[q1]? = some (q, .inl (g t2, n, .inl f)) → n < t → t < 2 ^ 26 → (∀ i, i < n → fits ty (.int (f i)) = true) → Met l y1 (mw y1 b1 3 (some (.array ty))) (rm_Mo_rg (max t (2 * n))) (PC g D [] [.ref q, .int (nI t)] sz ws0) (va_Qq (fun (r : Option Nat) (u : Nat) => r = some u) (QW D (va_A ws0 sz) (fun u : Nat => ws0 ++ [(u, .inl (g t2, max t (2 * n), .inl (va_cpy f (fun _ => nI 0) 0 0 n)))])) (va_A ws0 sz)) 1 (max t (2 * n)) (va_A ws0 sz))
    (w : CWv y1 b1 3 (some (.array ty)) 2 ∧ Cond.static y1 ∈ lw_ok) (hl : Cond.methodLink y0.cls index y1 ∈ lw_ok) (hR : 2 ≤ R.frames ∧ 150 ≤ R.locals) (hmc : mc ≤ R.cells) (hms : ms ≤ R.slots) (hd : dk ≤ mc ∧ dn ≤ ms)
    (hs : k < 200) (hcl : cl a = cn) (hkd : kd cn k = 2) (hty : tyx cn k = t2) (hin : ∀ w ∈ u_ws C T N, w ∈ lw_ok) (ty0 : Nat → FieldType) (hty0 : ∀ k, k < N → parseFieldDescriptor (T k).2.2.1 = some (ty0 k)) (hnm : ∀ a, a < N → ∀ b, b < N → a ≠ b → (T a).2.1 ≠ (T b).2.1) (hc : CL[cn]? = some (C, T, N)) (hk : k < N) (hlink : Cond.fieldLinkNest y0.cls idx2 ref (T k).2.1 (T k).2.2.1 host ∈ lw_nest) (hsame : (T k).1 = ref) (hfin : (T k).2.2.2 = false) (hn : ∀ q : Nat, narrow (ty0 k) (.ref q) = .ref q) (hfit : ∀ q : Nat, fits (ty0 k) (.ref q) = true)
    (hsz : ls.size = nL) (hroom : ((Value.ref (ad a) :: rest).map fun v => v.category).sum ≤ 8) (h : xR mc ms dk dn ty y σ a k v K) (hdg : decode cc pc = .ok (.invokestatic index, 3)) (hdp : decode cc (pc + 3) = .ok (.putfield idx2, 3))
    (kk : ∀ (y2 : Ly) (σ2 : St) (d1 d2 : Nat) (H1 : Heap) (locs1 : List Loc), K y2 σ2 d1 d2 → va_P D CL (ws g ad y2 σ2) H1 → va_D A0 (ws g ad y2 σ2) → va_S A0 s.heap H1 locs1 → W p l e R s m args below meth c H1 locs1 d1 d2 Q (F0 m (pc + 6) ls rest)) : W p l e R s m args below meth c H locs dk dn Q (F0 m pc ls (.int v :: .ref (yP y a k) :: .ref (ad a) :: rest)) := by
  obtain ⟨t, rfl, ht, hy, hfs, hal, hA, hB⟩ := h
  have h99 : cl a ≠ 99 := fun q => by rw [hcl] at q; subst q; simp at hc
  have hkd' : kd (cl a) k = 2 := by rw [hcl]; exact hkd
  have hty' : tyx (cl a) k = t2 := by rw [hcl]; exact hty
  obtain ⟨q0, hq, he⟩ := ws_at (g := g) (ad := ad) (y := y) (σ := σ) (mem_obj h99)
  obtain ⟨q1, hq1, hne1, he1⟩ := row_at (g := g) (ad := ad) (y := y) (σ0 := σ) hkd' (by decide) (by decide) hty'
  rw [clv_o hcl] at he
  have hr : rwd ad y σ a k 2 = (yN y a k, .inl (sA σ a k)) := rfl
  rw [hr] at he1
  have hkn : k < nf (cl a) := kd_lt (by rw [hkd']; decide) hs
  have hlen : k < (fls ad y σ a).length := by
    show k < (List.map _ (List.range (nf (cl a)))).length
    rw [List.length_map, List.length_range]; exact hkn
  by_cases h1 : t ≤ yN y a k
  · refine kEq (wr := []) G (kS (As := [.ref (yP y a k), .int (nI t)]) (rest := .ref (ad a) :: rest) G hP hD hS (List.range cL.length) ws_all cL_nd (ck (ws g ad y σ) q1 (yP y a k) t (yN y a k) (sA σ a k) H.size he1 h1 hy) w hl rfl rfl ⟨Nat.le_trans (by decide) hR.1, Nat.le_trans (by decide) hR.2⟩ (fun _ h => absurd h List.not_mem_nil) hsz rfl hroom rfl ⟨Nat.le_trans hd.1 hmc, Nat.le_trans hd.2 hms⟩ hdg) hP hD hS (List.range cL.length) [] ws_all rfl rfl rfl (fun r u H1 locs1 hw hP1 hD1 hS1 hz => ?_)
    have hw : r = some (yP y a k) := hw
    subst hw
    refine kpN G hin ty0 hty0 hnm hP1 hD1 hS1 q0 he hc k hk hlink hsame hfin (hn _) (hfit _) hlen hdp (fun H2 locs2 hP2 hD2 hS2 => ?_)
    have hw := ws_put (g := g) (ad := ad) (y := y) (σ := σ) (σ' := σ) (a := a) (k := k) (v := .ref (yP y a k)) hcl hq (by rw [hkd]; rfl) ⟨fun _ _ _ => ⟨rfl, rfl, rfl, rfl⟩, rfl, rfl⟩
    have hP2 : va_P D CL ((ws g ad y σ).set q0 (ad a, .inr (cn, (fls ad y σ a).set k (.ref (yP y a k))))) H2 := hP2
    have hD2 : va_D A0 ((ws g ad y σ).set q0 (ad a, .inr (cn, (fls ad y σ a).set k (.ref (yP y a k))))) := hD2
    rw [hw] at hP2 hD2
    exact kk _ _ _ _ _ _ (hA h1) hP2 hD2 hS2
  · have h1 : yN y a k < t := by omega
    obtain ⟨⟨g1, g2⟩, hB⟩ := hB h1
    refine kEq (wr := []) G (kS (As := [.ref (yP y a k), .int (nI t)]) (rest := .ref (ad a) :: rest) G hP hD hS (List.range cL.length) ws_all cL_nd (cg (ws g ad y σ) q1 (yP y a k) t (yN y a k) (sA σ a k) H.size he1 h1 ht hfs) w hl rfl rfl ⟨hR.1, Nat.le_trans (by show 8 + (3 + 11) + 120 ≤ 150; decide) hR.2⟩ (fun _ h => absurd h List.not_mem_nil) hsz rfl hroom rfl ⟨Nat.le_trans g1 hmc, Nat.le_trans g2 hms⟩ hdg) hP hD hS (List.range cL.length) [] ws_all rfl rfl rfl (fun r u H1 locs1 hw hP1 hD1 hS1 hz => ?_)
    have hw : r = some u := hw
    subst hw
    have hP1 : va_P D CL (ws g ad y σ ++ [(u, .inl (g t2, (max t (2 * yN y a k), .inl (va_cpy (sA σ a k) (fun _ => nI 0) 0 0 (yN y a k)))))]) H1 := hP1
    have hD1 : va_D A0 (ws g ad y σ ++ [(u, .inl (g t2, (max t (2 * yN y a k), .inl (va_cpy (sA σ a k) (fun _ => nI 0) 0 0 (yN y a k)))))]) := hD1
    refine kpN G hin ty0 hty0 hnm hP1 hD1 hS1 q0 ((List.getElem?_append_left (List.getElem?_eq_some_iff.mp he).1).trans he) hc k hk hlink hsame hfin (hn _) (hfit _) hlen hdp (fun H2 locs2 hP2 hD2 hS2 => ?_)
    obtain ⟨hP3, hD3⟩ := rm_ws hs hcl hq hkd hty hal hP2 hD2
    refine kk _ _ _ _ _ _ (hB u (va_cpy (sA σ a k) (fun _ => nI 0) 0 0 (yN y a k)) (fun i hi => ?_) (fun i hi => ?_)) hP3 hD3 hS2
    · simp [va_cpy, hi]
    · simp [va_cpy, Nat.not_lt.mpr hi]
end RM
