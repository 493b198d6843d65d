def y_Mo_key : MethodName := ⟨"ClassWorksModel", "key", "(Ljava/lang/String;)I"⟩
abbrev b_Mo_key : ByteArray := prog_14_method_5_code
theorem q2581 : Cond.methodLink "ClassWorksModel" 47 y_Js_length ∈ lw_ok := lw_okmem (List.mem_of_getElem? (i := 2581) (by decide +kernel)) rfl
theorem q3069 : Cond.fieldLink "ClassWorksModel" 53 "ClassWorksModel" "keyRow" "[B" ∈ lw_ok := lw_okmem (List.mem_of_getElem? (i := 3069) (by decide +kernel)) rfl
theorem q2586 : Cond.code y_Mo_nameIn b_Mo_nameIn 7 (some .int) ∈ lw_ok := lw_okmem (List.mem_of_getElem? (i := 2586) (by decide +kernel)) rfl
theorem q2585 : Cond.instanceMethod y_Mo_nameIn ∈ lw_ok := lw_okmem (List.mem_of_getElem? (i := 2585) (by decide +kernel)) rfl
theorem q169 : Cond.selects y_Mo_nameIn.cls y_Mo_nameIn y_Mo_nameIn ∈ lw_ok := lw_okmem (List.mem_of_getElem? (i := 169) (by decide +kernel)) rfl
theorem w_Mo_nameIn : CWv y_Mo_nameIn b_Mo_nameIn 7 (some .int) 3 ∧ Cond.instanceMethod y_Mo_nameIn ∈ lw_ok ∧ Cond.selects y_Mo_nameIn.cls y_Mo_nameIn y_Mo_nameIn ∈ lw_ok := ⟨⟨q2586, q348, by decide +kernel, by decide +kernel, by decide +kernel⟩, q2585, q169⟩
theorem q2583 : Cond.methodLink "ClassWorksModel" 60 y_Mo_nameIn ∈ lw_ok := lw_okmem (List.mem_of_getElem? (i := 2583) (by decide +kernel)) rfl
theorem q2582 : Cond.methodLink "ClassWorksModel" 56 y_Js_charAt ∈ lw_ok := lw_okmem (List.mem_of_getElem? (i := 2582) (by decide +kernel)) rfl
theorem d_Mo_key_0 : decode b_Mo_key 0 = .ok (.iconst 0, 1) := by decide +kernel
theorem d_Mo_key_1 : decode b_Mo_key 1 = .ok (.istore_n 2, 1) := by decide +kernel
theorem d_Mo_key_2 : decode b_Mo_key 2 = .ok (.iload_n 2, 1) := by decide +kernel
theorem d_Mo_key_3 : decode b_Mo_key 3 = .ok (.aload_n 1, 1) := by decide +kernel
theorem d_Mo_key_4 : decode b_Mo_key 4 = .ok (.invokevirtual 47, 3) := by decide +kernel
theorem d_Mo_key_7 : decode b_Mo_key 7 = .ok (.if_icmp .ge 21, 3) := by decide +kernel
theorem d_Mo_key_10 : decode b_Mo_key 10 = .ok (.aload_n 0, 1) := by decide +kernel
theorem d_Mo_key_11 : decode b_Mo_key 11 = .ok (.getfield 53, 3) := by decide +kernel
theorem d_Mo_key_14 : decode b_Mo_key 14 = .ok (.iload_n 2, 1) := by decide +kernel
theorem d_Mo_key_15 : decode b_Mo_key 15 = .ok (.aload_n 1, 1) := by decide +kernel
theorem d_Mo_key_16 : decode b_Mo_key 16 = .ok (.iload_n 2, 1) := by decide +kernel
theorem d_Mo_key_17 : decode b_Mo_key 17 = .ok (.invokevirtual 56, 3) := by decide +kernel
theorem d_Mo_key_20 : decode b_Mo_key 20 = .ok (.i2b, 1) := by decide +kernel
theorem d_Mo_key_21 : decode b_Mo_key 21 = .ok (.bastore, 1) := by decide +kernel
theorem d_Mo_key_22 : decode b_Mo_key 22 = .ok (.iinc 2 1, 3) := by decide +kernel
theorem d_Mo_key_25 : decode b_Mo_key 25 = .ok (.goto (-23), 3) := by decide +kernel
theorem d_Mo_key_28 : decode b_Mo_key 28 = .ok (.aload_n 0, 1) := by decide +kernel
theorem d_Mo_key_29 : decode b_Mo_key 29 = .ok (.aload_n 0, 1) := by decide +kernel
theorem d_Mo_key_30 : decode b_Mo_key 30 = .ok (.getfield 53, 3) := by decide +kernel
theorem d_Mo_key_33 : decode b_Mo_key 33 = .ok (.iconst 0, 1) := by decide +kernel
theorem d_Mo_key_34 : decode b_Mo_key 34 = .ok (.aload_n 1, 1) := by decide +kernel
theorem d_Mo_key_35 : decode b_Mo_key 35 = .ok (.invokevirtual 47, 3) := by decide +kernel
theorem d_Mo_key_38 : decode b_Mo_key 38 = .ok (.invokevirtual 60, 3) := by decide +kernel
theorem d_Mo_key_41 : decode b_Mo_key 41 = .ok (.ireturn, 1) := by decide +kernel
abbrev rm_Mo_key : Room := { frames := 4, cells := 0, slots := 0, locals := 85 }
set_option maxHeartbeats 4000000 in
set_option maxRecDepth 100000 in
/-- key(word) -/
theorem c_Mo_key (l : Launch) (D : va_G) (g : Nat → ClassId) (h0 : Nat) (fs : List Value) (nb : Nat) (nz : Nat) (nx : Nat) (nf : Nat) (k : Nat) (kr : Nat) (fb : Nat → Int32) (fz : Nat → Int32) (fn : Nat → Int32) (fh : Nat → Int32) (fk : Nat → Int32) (x : SL) (sz : Nat) (glen : fs.length = 131) (g0 : fs[0]? = some (.ref nb)) (g1 : fs[1]? = some (.ref nz)) (g2 : fs[2]? = some (.ref nx)) (g3 : fs[3]? = some (.ref nf)) (g4 : fs[4]? = some (.int (nI k))) (g5 : fs[5]? = some (.ref kr)) (hI : MI k fn fh) (hk : k < 512) (hx : (sb x).length ≤ 12) : Met l y_Mo_key (mw y_Mo_key b_Mo_key 3 (some .int)) (rm_Mo_key) (PC g D [x] [.ref h0, .ref (sk x)] sz [(h0, .inr (14, fs)), (nb, .inl (g 1, 6144, .inl fb)), (nz, .inl (g 1, 512, .inl fz)), (nx, .inl (g 0, 512, .inl fn)), (nf, .inl (g 0, 4096, .inl fh)), (kr, .inl (g 1, 16, .inl fk))]) (va_Qi (fun (r : Int32) (u : Nat × (Nat → Int32) × (Nat → Int32) × (Nat → Int32) × (Nat → Int32) × (Nat → Int32)) => u.1 ≤ k + 1 ∧ MI u.1 u.2.2.2.1 u.2.2.2.2.1) (QW D (va_A [(h0, .inr (14, fs)), (nb, .inl (g 1, 6144, .inl fb)), (nz, .inl (g 1, 512, .inl fz)), (nx, .inl (g 0, 512, .inl fn)), (nf, .inl (g 0, 4096, .inl fh)), (kr, .inl (g 1, 16, .inl fk))] sz) (fun u : Nat × (Nat → Int32) × (Nat → Int32) × (Nat → Int32) × (Nat → Int32) × (Nat → Int32) => [(h0, .inr (14, (fs.set 4 (.int (nI u.1))))), (nb, .inl (g 1, 6144, .inl u.2.1)), (nz, .inl (g 1, 512, .inl u.2.2.1)), (nx, .inl (g 0, 512, .inl u.2.2.2.1)), (nf, .inl (g 0, 4096, .inl u.2.2.2.2.1)), (kr, .inl (g 1, 16, .inl u.2.2.2.2.2))])) (va_A [(h0, .inr (14, fs)), (nb, .inl (g 1, 6144, .inl fb)), (nz, .inl (g 1, 512, .inl fz)), (nx, .inl (g 0, 512, .inl fn)), (nf, .inl (g 0, 4096, .inl fh)), (kr, .inl (g 1, 16, .inl fk))] sz)) 0 0 (va_A [(h0, .inr (14, fs)), (nb, .inl (g 1, 6144, .inl fb)), (nz, .inl (g 1, 512, .inl fz)), (nx, .inl (g 0, 512, .inl fn)), (nf, .inl (g 0, 4096, .inl fh)), (kr, .inl (g 1, 16, .inl fk))] sz) := by
  refine ofI (by decide +kernel) (Nat.le_of_ble_eq_true rfl) ?_
  intro p e s m args below meth c A Q ls H locs G hsz hP hD hS hl hret
  subst hsz
  have hl : lv_has ls 3 [(0, .ref h0), (1, .ref (sk x))] := hl
  refine lv_iconst (v := nI 0) G.1 G.2.1 d_Mo_key_0 (by decide) ?_
  refine lv_istore_n (lv' := [(2, .int (nI 0)), (0, .ref h0), (1, .ref (sk x))]) G.1 G.2.1 d_Mo_key_1 rfl hl (by decide) rfl (fun ls hl => ?_)
  have L_1 : ∀ (k_L_1 : Nat) (i : Nat) (fk2 : Nat → Int32), ((sb x).length - i) < k_L_1 → (i ≤ (sb x).length) → ∀ (H : Heap) (locs : List Loc), va_P D CL [(h0, .inr (14, fs)), (nb, .inl (g 1, 6144, .inl fb)), (nz, .inl (g 1, 512, .inl fz)), (nx, .inl (g 0, 512, .inl fn)), (nf, .inl (g 0, 4096, .inl fh)), (kr, .inl (g 1, 16, .inl fk2))] H → va_D A [(h0, .inr (14, fs)), (nb, .inl (g 1, 6144, .inl fb)), (nz, .inl (g 1, 512, .inl fz)), (nx, .inl (g 0, 512, .inl fn)), (nf, .inl (g 0, 4096, .inl fh)), (kr, .inl (g 1, 16, .inl fk2))] → va_S A s.heap H locs → ∀ ls, lv_has ls 3 [(0, .ref h0), (1, .ref (sk x)), (2, .int (nI i))] → W p l e rm_Mo_key s m args below meth c H locs 0 0 Q (F0 m 2 ls []) := by
    intro k_L_1
    induction k_L_1 with
    | zero => intro i fk2 hk_L_1; exact absurd hk_L_1 (Nat.not_lt_zero _)
    | succ k_L_1 ih_L_1 =>
      intro i fk2 hk_L_1 hi H locs hP hD hS ls hl
      refine lv_iload_n G.1 G.2.1 d_Mo_key_2 rfl (lv_at hl 2 rfl) ?_
      refine lv_aload_n G.1 G.2.1 d_Mo_key_3 rfl (lv_at hl 1 rfl) ?_
      refine kEi (wr := [(h0, .inr (14, fs)), (nb, .inl (g 1, 6144, .inl fb)), (nz, .inl (g 1, 512, .inl fz)), (nx, .inl (g 0, 512, .inl fn)), (nf, .inl (g 0, 4096, .inl fh)), (kr, .inl (g 1, 16, .inl fk2))]) G (kVr (As := []) (rest := [.int (nI i)]) G hP hD hS [] rfl rfl (c_Js_length l D g x H.size ) w_Js_length q2581 rfl rfl ⟨Nat.le_of_ble_eq_true rfl, Nat.le_of_ble_eq_true rfl⟩ (fun _ h => h) (S1.recv (G.2.2.2.2.2.2.2.2.2.2.1.2 x List.mem_cons_self) hS) hl.1 rfl (Nat.le_of_ble_eq_true rfl) rfl ⟨Nat.le_of_ble_eq_true rfl, (Nat.le_of_ble_eq_true rfl)⟩ d_Mo_key_4) hP hD hS [] [0, 1, 2, 3, 4, 5] rfl rfl rfl rfl (fun r_2 u_3 H locs hw hP hD hS hzH => ?_)
      have hw : r_2 = nI (sb x).length := hw
      have hP : va_P D CL [(h0, .inr (14, fs)), (nb, .inl (g 1, 6144, .inl fb)), (nz, .inl (g 1, 512, .inl fz)), (nx, .inl (g 0, 512, .inl fn)), (nf, .inl (g 0, 4096, .inl fh)), (kr, .inl (g 1, 16, .inl fk2))] H := hP
      have hD : va_D A [(h0, .inr (14, fs)), (nb, .inl (g 1, 6144, .inl fb)), (nz, .inl (g 1, 512, .inl fz)), (nx, .inl (g 0, 512, .inl fn)), (nf, .inl (g 0, 4096, .inl fh)), (kr, .inl (g 1, 16, .inl fk2))] := hD
      subst hw
      refine lv_icmp_ge (tgt := 28) G.1 G.2.1 d_Mo_key_7 (by decide) (fun c7 => ?_) (fun c7 => ?_)
      · skip
        have c7 : ((sb x).length) ≤ i := (nI_leI (by omega) (by omega)).mp c7
        refine lv_aload_n G.1 G.2.1 d_Mo_key_28 rfl (lv_at hl 0 rfl) ?_
        refine lv_aload_n G.1 G.2.1 d_Mo_key_29 rfl (lv_at hl 0 rfl) ?_
        refine kg (ci := 14) (v := .ref kr) G iMo hP 0 rfl rfl 5 (by decide) q3069 rfl g5 d_Mo_key_30 ?_
        refine lv_iconst (v := nI 0) G.1 G.2.1 d_Mo_key_33 (by decide) ?_
        refine lv_aload_n G.1 G.2.1 d_Mo_key_34 rfl (lv_at hl 1 rfl) ?_
        refine kEi (wr := [(h0, .inr (14, fs)), (nb, .inl (g 1, 6144, .inl fb)), (nz, .inl (g 1, 512, .inl fz)), (nx, .inl (g 0, 512, .inl fn)), (nf, .inl (g 0, 4096, .inl fh)), (kr, .inl (g 1, 16, .inl fk2))]) G (kVr (As := []) (rest := [.int (nI 0), .ref kr, .ref h0]) G hP hD hS [] rfl rfl (c_Js_length l D g x H.size ) w_Js_length q2581 rfl rfl ⟨Nat.le_of_ble_eq_true rfl, Nat.le_of_ble_eq_true rfl⟩ (fun _ h => h) (S1.recv (G.2.2.2.2.2.2.2.2.2.2.1.2 x List.mem_cons_self) hS) hl.1 rfl (Nat.le_of_ble_eq_true rfl) rfl ⟨Nat.le_of_ble_eq_true rfl, (Nat.le_of_ble_eq_true rfl)⟩ d_Mo_key_35) hP hD hS [] [0, 1, 2, 3, 4, 5] rfl rfl rfl rfl (fun r_4 u_5 H locs hw hP hD hS hzH => ?_)
        have hw : r_4 = nI (sb x).length := hw
        have hP : va_P D CL [(h0, .inr (14, fs)), (nb, .inl (g 1, 6144, .inl fb)), (nz, .inl (g 1, 512, .inl fz)), (nx, .inl (g 0, 512, .inl fn)), (nf, .inl (g 0, 4096, .inl fh)), (kr, .inl (g 1, 16, .inl fk2))] H := hP
        have hD : va_D A [(h0, .inr (14, fs)), (nb, .inl (g 1, 6144, .inl fb)), (nz, .inl (g 1, 512, .inl fz)), (nx, .inl (g 0, 512, .inl fn)), (nf, .inl (g 0, 4096, .inl fh)), (kr, .inl (g 1, 16, .inl fk2))] := hD
        subst hw
        refine W.eq (g2 := F0 m 38 ls [.int (nI ((sb x).length)), .int (nI 0), .ref kr, .ref h0]) rfl ?_
        refine kEi (wr := []) G (kV (As := [.ref kr, .int (nI 0), .int (nI ((sb x).length))]) (rest := []) G hP hD hS [0, 1, 2, 3, 4, 5] rfl rfl (c_Mo_nameIn l D g h0 kr ((sb x).length) fs nb nz nx nf k kr fb fz fn fh fk2 H.size glen g0 g1 g2 g3 g4 g5 hI hk (by omega)) w_Mo_nameIn q2583 rfl rfl ⟨Nat.le_of_ble_eq_true rfl, Nat.le_of_ble_eq_true rfl⟩ (fun _ h => absurd h List.not_mem_nil) 0 (ci := 14) rfl rfl rfl hl.1 rfl (Nat.le_of_ble_eq_true rfl) rfl ⟨Nat.le_of_ble_eq_true rfl, (Nat.le_of_ble_eq_true rfl)⟩ d_Mo_key_38) hP hD hS [0, 1, 2, 3, 4, 5] [] rfl rfl rfl rfl (fun r_6 u_7 H locs hw hP hD hS hzH => ?_)
        obtain ⟨k3, fb3, fz3, fn3, fh3⟩ := u_7
        have hw : (∃ id : Nat, r_6 = nI id) ∧ k ≤ k3 ∧ k3 ≤ k + 1 ∧ MI k3 fn3 fh3 := hw
        have hP : va_P D CL [(h0, .inr (14, (fs.set 4 (.int (nI k3))))), (nb, .inl (g 1, 6144, .inl fb3)), (nz, .inl (g 1, 512, .inl fz3)), (nx, .inl (g 0, 512, .inl fn3)), (nf, .inl (g 0, 4096, .inl fh3)), (kr, .inl (g 1, 16, .inl fk2))] H := hP
        have hD : va_D A [(h0, .inr (14, (fs.set 4 (.int (nI k3))))), (nb, .inl (g 1, 6144, .inl fb3)), (nz, .inl (g 1, 512, .inl fz3)), (nx, .inl (g 0, 512, .inl fn3)), (nf, .inl (g 0, 4096, .inl fh3)), (kr, .inl (g 1, 16, .inl fk2))] := hD
        obtain ⟨⟨id, hid⟩, hk3, hk4, hI3⟩ := hw
        refine hret r_6 (k3, fb3, fz3, fn3, fh3, fk2) _ _ _ _ _ ls (show k3 ≤ k + 1 ∧ MI k3 fn3 fh3 from ⟨hk4, hI3⟩) (hP.sub [0, 1, 2, 3, 4, 5] rfl) (hD.sub [0, 1, 2, 3, 4, 5] (by decide) rfl) hS (Nat.le_of_ble_eq_true rfl) (Nat.le_of_ble_eq_true rfl) d_Mo_key_41
      · skip
        have c7 : ¬ (((sb x).length) ≤ i) := fun h => c7 ((nI_leI (by omega) (by omega)).mpr h)
        refine lv_aload_n G.1 G.2.1 d_Mo_key_10 rfl (lv_at hl 0 rfl) ?_
        refine kg (ci := 14) (v := .ref kr) G iMo hP 0 rfl rfl 5 (by decide) q3069 rfl g5 d_Mo_key_11 ?_
        refine lv_iload_n G.1 G.2.1 d_Mo_key_14 rfl (lv_at hl 2 rfl) ?_
        refine lv_aload_n G.1 G.2.1 d_Mo_key_15 rfl (lv_at hl 1 rfl) ?_
        refine lv_iload_n G.1 G.2.1 d_Mo_key_16 rfl (lv_at hl 2 rfl) ?_
        refine kEi (wr := [(h0, .inr (14, fs)), (nb, .inl (g 1, 6144, .inl fb)), (nz, .inl (g 1, 512, .inl fz)), (nx, .inl (g 0, 512, .inl fn)), (nf, .inl (g 0, 4096, .inl fh)), (kr, .inl (g 1, 16, .inl fk2))]) G (kVr (As := [.int (nI i)]) (rest := [.int (nI i), .ref kr]) G hP hD hS [] rfl rfl (c_Js_charAt l D g x i H.size (by omega) (by omega)) w_Js_charAt q2582 rfl rfl ⟨Nat.le_of_ble_eq_true rfl, Nat.le_of_ble_eq_true rfl⟩ (fun _ h => h) (S1.recv (G.2.2.2.2.2.2.2.2.2.2.1.2 x List.mem_cons_self) hS) hl.1 rfl (Nat.le_of_ble_eq_true rfl) rfl ⟨Nat.le_of_ble_eq_true rfl, (Nat.le_of_ble_eq_true rfl)⟩ d_Mo_key_17) hP hD hS [] [0, 1, 2, 3, 4, 5] rfl rfl rfl rfl (fun r_8 u_9 H locs hw hP hD hS hzH => ?_)
        have hw : r_8 = (sb x).getD i 0 &&& 255 := hw
        have hP : va_P D CL [(h0, .inr (14, fs)), (nb, .inl (g 1, 6144, .inl fb)), (nz, .inl (g 1, 512, .inl fz)), (nx, .inl (g 0, 512, .inl fn)), (nf, .inl (g 0, 4096, .inl fh)), (kr, .inl (g 1, 16, .inl fk2))] H := hP
        have hD : va_D A [(h0, .inr (14, fs)), (nb, .inl (g 1, 6144, .inl fb)), (nz, .inl (g 1, 512, .inl fz)), (nx, .inl (g 0, 512, .inl fn)), (nf, .inl (g 0, 4096, .inl fh)), (kr, .inl (g 1, 16, .inl fk2))] := hD
        subst hw
        refine W.eq (g2 := F0 m 20 ls [.int ((sb x).getD i 0 &&& 255), .int (nI i), .ref kr]) rfl ?_
        refine lv_i2b G.1 G.2.1 d_Mo_key_20 rfl ?_
        refine kbast G hP hD hS 5 1 rfl rfl (by omega) (by omega) d_Mo_key_21 (fun H locs hP hD hS => ?_)
        have hP : va_P D CL [(h0, .inr (14, fs)), (nb, .inl (g 1, 6144, .inl fb)), (nz, .inl (g 1, 512, .inl fz)), (nx, .inl (g 0, 512, .inl fn)), (nf, .inl (g 0, 4096, .inl fh)), (kr, .inl (g 1, 16, .inl (upd fk2 i (vp_nar .byte (((sb x).getD i 0 &&& 255).toInt8.toInt32)))))] H := hP
        have hD : va_D A [(h0, .inr (14, fs)), (nb, .inl (g 1, 6144, .inl fb)), (nz, .inl (g 1, 512, .inl fz)), (nx, .inl (g 0, 512, .inl fn)), (nf, .inl (g 0, 4096, .inl fh)), (kr, .inl (g 1, 16, .inl (upd fk2 i (vp_nar .byte (((sb x).getD i 0 &&& 255).toInt8.toInt32)))))] := hD
        refine lv_iinc (v := nI (i + 1)) (lv' := [(2, .int (nI (i + 1))), (0, .ref h0), (1, .ref (sk x))]) G.1 G.2.1 d_Mo_key_22 hl (k := 2) rfl (show (nI i) + Int32.ofInt 1 = nI (i + 1) from nI_1 _) (by decide) rfl (fun ls hl => ?_)
        refine lv_goto (tgt := 2) G.1 G.2.1 d_Mo_key_25 (by decide) ?_
        exact ih_L_1 (i + 1) (upd fk2 i (vp_nar .byte (((sb x).getD i 0 &&& 255).toInt8.toInt32))) (by omega) (by omega) _ _ (hP.sub [0, 1, 2, 3, 4, 5] rfl) (hD.sub [0, 1, 2, 3, 4, 5] (by decide) rfl) hS ls (lv_sub hl [1, 2, 0] rfl)
  exact L_1 (_ + 1) 0 fk (Nat.lt_succ_self _) (Nat.zero_le _) _ _ (hP.sub [0, 1, 2, 3, 4, 5] rfl) (hD.sub [0, 1, 2, 3, 4, 5] (by decide) rfl) hS ls (lv_sub hl [1, 2, 0] rfl)
def y_Mo_keys : MethodName := ⟨"ClassWorksModel", "keys", "(Ljava/lang/String;)I"⟩
abbrev b_Mo_keys : ByteArray := prog_14_method_6_code
theorem d_Mo_keys_0 : decode b_Mo_keys 0 = .ok (.iconst (-1), 1) := by decide +kernel
theorem d_Mo_keys_1 : decode b_Mo_keys 1 = .ok (.istore_n 2, 1) := by decide +kernel
theorem d_Mo_keys_2 : decode b_Mo_keys 2 = .ok (.iconst 0, 1) := by decide +kernel
theorem d_Mo_keys_3 : decode b_Mo_keys 3 = .ok (.istore_n 3, 1) := by decide +kernel
theorem d_Mo_keys_4 : decode b_Mo_keys 4 = .ok (.iconst 0, 1) := by decide +kernel
theorem d_Mo_keys_5 : decode b_Mo_keys 5 = .ok (.istore 4, 2) := by decide +kernel
theorem d_Mo_keys_7 : decode b_Mo_keys 7 = .ok (.iload 4, 2) := by decide +kernel
theorem d_Mo_keys_9 : decode b_Mo_keys 9 = .ok (.aload_n 1, 1) := by decide +kernel
theorem d_Mo_keys_10 : decode b_Mo_keys 10 = .ok (.invokevirtual 47, 3) := by decide +kernel
theorem d_Mo_keys_13 : decode b_Mo_keys 13 = .ok (.if_icmp .ge 64, 3) := by decide +kernel
theorem d_Mo_keys_16 : decode b_Mo_keys 16 = .ok (.aload_n 1, 1) := by decide +kernel
theorem d_Mo_keys_17 : decode b_Mo_keys 17 = .ok (.iload 4, 2) := by decide +kernel
theorem d_Mo_keys_19 : decode b_Mo_keys 19 = .ok (.invokevirtual 56, 3) := by decide +kernel
theorem d_Mo_keys_22 : decode b_Mo_keys 22 = .ok (.istore 5, 2) := by decide +kernel
theorem d_Mo_keys_24 : decode b_Mo_keys 24 = .ok (.iload 5, 2) := by decide +kernel
theorem d_Mo_keys_26 : decode b_Mo_keys 26 = .ok (.bipush 32, 2) := by decide +kernel
theorem d_Mo_keys_28 : decode b_Mo_keys 28 = .ok (.if_icmp .eq 18, 3) := by decide +kernel
theorem d_Mo_keys_31 : decode b_Mo_keys 31 = .ok (.aload_n 0, 1) := by decide +kernel
theorem d_Mo_keys_32 : decode b_Mo_keys 32 = .ok (.getfield 53, 3) := by decide +kernel
theorem d_Mo_keys_35 : decode b_Mo_keys 35 = .ok (.iload_n 3, 1) := by decide +kernel
theorem d_Mo_keys_36 : decode b_Mo_keys 36 = .ok (.iload 5, 2) := by decide +kernel
theorem d_Mo_keys_38 : decode b_Mo_keys 38 = .ok (.i2b, 1) := by decide +kernel
theorem d_Mo_keys_39 : decode b_Mo_keys 39 = .ok (.bastore, 1) := by decide +kernel
theorem d_Mo_keys_40 : decode b_Mo_keys 40 = .ok (.iinc 3 1, 3) := by decide +kernel
theorem d_Mo_keys_43 : decode b_Mo_keys 43 = .ok (.goto 28, 3) := by decide +kernel
theorem d_Mo_keys_46 : decode b_Mo_keys 46 = .ok (.aload_n 0, 1) := by decide +kernel
theorem d_Mo_keys_47 : decode b_Mo_keys 47 = .ok (.aload_n 0, 1) := by decide +kernel
theorem d_Mo_keys_48 : decode b_Mo_keys 48 = .ok (.getfield 53, 3) := by decide +kernel
theorem d_Mo_keys_51 : decode b_Mo_keys 51 = .ok (.iconst 0, 1) := by decide +kernel
theorem d_Mo_keys_52 : decode b_Mo_keys 52 = .ok (.iload_n 3, 1) := by decide +kernel
theorem d_Mo_keys_53 : decode b_Mo_keys 53 = .ok (.invokevirtual 60, 3) := by decide +kernel
theorem d_Mo_keys_56 : decode b_Mo_keys 56 = .ok (.istore 6, 2) := by decide +kernel
theorem d_Mo_keys_58 : decode b_Mo_keys 58 = .ok (.iload_n 2, 1) := by decide +kernel
theorem d_Mo_keys_59 : decode b_Mo_keys 59 = .ok (.ifCond .ge 8, 3) := by decide +kernel
theorem d_Mo_keys_62 : decode b_Mo_keys 62 = .ok (.iload 6, 2) := by decide +kernel
theorem d_Mo_keys_64 : decode b_Mo_keys 64 = .ok (.goto 4, 3) := by decide +kernel
theorem d_Mo_keys_67 : decode b_Mo_keys 67 = .ok (.iload_n 2, 1) := by decide +kernel
theorem d_Mo_keys_68 : decode b_Mo_keys 68 = .ok (.istore_n 2, 1) := by decide +kernel
theorem d_Mo_keys_69 : decode b_Mo_keys 69 = .ok (.iconst 0, 1) := by decide +kernel
theorem d_Mo_keys_70 : decode b_Mo_keys 70 = .ok (.istore_n 3, 1) := by decide +kernel
theorem d_Mo_keys_71 : decode b_Mo_keys 71 = .ok (.iinc 4 1, 3) := by decide +kernel
theorem d_Mo_keys_74 : decode b_Mo_keys 74 = .ok (.goto (-67), 3) := by decide +kernel
theorem d_Mo_keys_77 : decode b_Mo_keys 77 = .ok (.iload_n 2, 1) := by decide +kernel
theorem d_Mo_keys_78 : decode b_Mo_keys 78 = .ok (.ireturn, 1) := by decide +kernel
abbrev rm_Mo_keys : Room := { frames := 4, cells := 0, slots := 0, locals := 85 }
set_option maxHeartbeats 4000000 in
set_option maxRecDepth 100000 in
/-- keys(words) -/
theorem c_Mo_keys (l : Launch) (D : va_G) (g : Nat → ClassId) (h0 : Nat) (fs : List Value) (nb : Nat) (nz : Nat) (nx : Nat) (nf : Nat) (k : Nat) (kr : Nat) (fb : Nat → Int32) (fz : Nat → Int32) (fn : Nat → Int32) (fh : Nat → Int32) (fk : Nat → Int32) (x : SL) (sz : Nat) (glen : fs.length = 131) (g0 : fs[0]? = some (.ref nb)) (g1 : fs[1]? = some (.ref nz)) (g2 : fs[2]? = some (.ref nx)) (g3 : fs[3]? = some (.ref nf)) (g4 : fs[4]? = some (.int (nI k))) (g5 : fs[5]? = some (.ref kr)) (hI : MI k fn fh) (hk : k + cbl (sb x) (sb x).length ≤ 512) (hx : (sb x).length < 2 ^ 29) (hrl : ∀ j, j ≤ (sb x).length → rl (sb x) j ≤ 12) : Met l y_Mo_keys (mw y_Mo_keys b_Mo_keys 7 (some .int)) (rm_Mo_keys) (PC g D [x] [.ref h0, .ref (sk x)] sz [(h0, .inr (14, fs)), (nb, .inl (g 1, 6144, .inl fb)), (nz, .inl (g 1, 512, .inl fz)), (nx, .inl (g 0, 512, .inl fn)), (nf, .inl (g 0, 4096, .inl fh)), (kr, .inl (g 1, 16, .inl fk))]) (va_Qi (fun (r : Int32) (u : Nat × (Nat → Int32) × (Nat → Int32) × (Nat → Int32) × (Nat → Int32) × (Nat → Int32)) => u.1 ≤ k + cbl (sb x) (sb x).length ∧ MI u.1 u.2.2.2.1 u.2.2.2.2.1) (QW D (va_A [(h0, .inr (14, fs)), (nb, .inl (g 1, 6144, .inl fb)), (nz, .inl (g 1, 512, .inl fz)), (nx, .inl (g 0, 512, .inl fn)), (nf, .inl (g 0, 4096, .inl fh)), (kr, .inl (g 1, 16, .inl fk))] sz) (fun u : Nat × (Nat → Int32) × (Nat → Int32) × (Nat → Int32) × (Nat → Int32) × (Nat → Int32) => [(h0, .inr (14, (fs.set 4 (.int (nI u.1))))), (nb, .inl (g 1, 6144, .inl u.2.1)), (nz, .inl (g 1, 512, .inl u.2.2.1)), (nx, .inl (g 0, 512, .inl u.2.2.2.1)), (nf, .inl (g 0, 4096, .inl u.2.2.2.2.1)), (kr, .inl (g 1, 16, .inl u.2.2.2.2.2))])) (va_A [(h0, .inr (14, fs)), (nb, .inl (g 1, 6144, .inl fb)), (nz, .inl (g 1, 512, .inl fz)), (nx, .inl (g 0, 512, .inl fn)), (nf, .inl (g 0, 4096, .inl fh)), (kr, .inl (g 1, 16, .inl fk))] sz)) 0 0 (va_A [(h0, .inr (14, fs)), (nb, .inl (g 1, 6144, .inl fb)), (nz, .inl (g 1, 512, .inl fz)), (nx, .inl (g 0, 512, .inl fn)), (nf, .inl (g 0, 4096, .inl fh)), (kr, .inl (g 1, 16, .inl fk))] sz) := by
  refine ofI (by decide +kernel) (Nat.le_of_ble_eq_true rfl) ?_
  intro p e s m args below meth c A Q ls H locs G hsz hP hD hS hl hret
  subst hsz
  have hl : lv_has ls 7 [(0, .ref h0), (1, .ref (sk x))] := hl
  refine lv_iconst (v := (-1)) G.1 G.2.1 d_Mo_keys_0 (by decide) ?_
  refine lv_istore_n (lv' := [(2, .int (-1)), (0, .ref h0), (1, .ref (sk x))]) G.1 G.2.1 d_Mo_keys_1 rfl hl (by decide) rfl (fun ls hl => ?_)
  refine lv_iconst (v := nI 0) G.1 G.2.1 d_Mo_keys_2 (by decide) ?_
  refine lv_istore_n (lv' := [(3, .int (nI 0)), (2, .int (-1)), (0, .ref h0), (1, .ref (sk x))]) G.1 G.2.1 d_Mo_keys_3 rfl hl (by decide) rfl (fun ls hl => ?_)
  refine lv_iconst (v := nI 0) G.1 G.2.1 d_Mo_keys_4 (by decide) ?_
  refine lv_istore (lv' := [(4, .int (nI 0)), (3, .int (nI 0)), (2, .int (-1)), (0, .ref h0), (1, .ref (sk x))]) G.1 G.2.1 d_Mo_keys_5 hl (by decide) rfl (fun ls hl => ?_)
  have L_1 : ∀ (k_L_1 : Nat) (i : Nat) (fi : Int32) (k2 : Nat) (fs2 : List Value) (fb2 : Nat → Int32) (fz2 : Nat → Int32) (fn2 : Nat → Int32) (fh2 : Nat → Int32) (fk2 : Nat → Int32), ((sb x).length - i) < k_L_1 → (i ≤ (sb x).length) → (fs2 = fs.set 4 (.int (nI k2))) → (k2 ≤ k + cbl (sb x) i) → (MI k2 fn2 fh2) → ∀ (H : Heap) (locs : List Loc), va_P D CL [(h0, .inr (14, fs2)), (nb, .inl (g 1, 6144, .inl fb2)), (nz, .inl (g 1, 512, .inl fz2)), (nx, .inl (g 0, 512, .inl fn2)), (nf, .inl (g 0, 4096, .inl fh2)), (kr, .inl (g 1, 16, .inl fk2))] H → va_D A [(h0, .inr (14, fs2)), (nb, .inl (g 1, 6144, .inl fb2)), (nz, .inl (g 1, 512, .inl fz2)), (nx, .inl (g 0, 512, .inl fn2)), (nf, .inl (g 0, 4096, .inl fh2)), (kr, .inl (g 1, 16, .inl fk2))] → va_S A s.heap H locs → ∀ ls, lv_has ls 7 [(0, .ref h0), (1, .ref (sk x)), (2, .int fi), (3, .int (nI (rl (sb x) i))), (4, .int (nI i))] → W p l e rm_Mo_keys s m args below meth c H locs 0 0 Q (F0 m 7 ls []) := by
    intro k_L_1
    induction k_L_1 with
    | zero => intro i fi k2 fs2 fb2 fz2 fn2 fh2 fk2 hk_L_1; exact absurd hk_L_1 (Nat.not_lt_zero _)
    | succ k_L_1 ih_L_1 =>
      intro i fi k2 fs2 fb2 fz2 fn2 fh2 fk2 hk_L_1 hi hfs hk2 hI2 H locs hP hD hS ls hl
      refine lv_iload G.1 G.2.1 d_Mo_keys_7 (lv_at hl 4 rfl) ?_
      refine lv_aload_n G.1 G.2.1 d_Mo_keys_9 rfl (lv_at hl 1 rfl) ?_
      refine kEi (wr := [(h0, .inr (14, fs2)), (nb, .inl (g 1, 6144, .inl fb2)), (nz, .inl (g 1, 512, .inl fz2)), (nx, .inl (g 0, 512, .inl fn2)), (nf, .inl (g 0, 4096, .inl fh2)), (kr, .inl (g 1, 16, .inl fk2))]) G (kVr (As := []) (rest := [.int (nI i)]) G hP hD hS [] rfl rfl (c_Js_length l D g x H.size ) w_Js_length q2581 rfl rfl ⟨Nat.le_of_ble_eq_true rfl, Nat.le_of_ble_eq_true rfl⟩ (fun _ h => h) (S1.recv (G.2.2.2.2.2.2.2.2.2.2.1.2 x List.mem_cons_self) hS) hl.1 rfl (Nat.le_of_ble_eq_true rfl) rfl ⟨Nat.le_of_ble_eq_true rfl, (Nat.le_of_ble_eq_true rfl)⟩ d_Mo_keys_10) hP hD hS [] [0, 1, 2, 3, 4, 5] rfl rfl rfl rfl (fun r_2 u_3 H locs hw hP hD hS hzH => ?_)
      have hw : r_2 = nI (sb x).length := hw
      have hP : va_P D CL [(h0, .inr (14, fs2)), (nb, .inl (g 1, 6144, .inl fb2)), (nz, .inl (g 1, 512, .inl fz2)), (nx, .inl (g 0, 512, .inl fn2)), (nf, .inl (g 0, 4096, .inl fh2)), (kr, .inl (g 1, 16, .inl fk2))] H := hP
      have hD : va_D A [(h0, .inr (14, fs2)), (nb, .inl (g 1, 6144, .inl fb2)), (nz, .inl (g 1, 512, .inl fz2)), (nx, .inl (g 0, 512, .inl fn2)), (nf, .inl (g 0, 4096, .inl fh2)), (kr, .inl (g 1, 16, .inl fk2))] := hD
      subst hw
      refine lv_icmp_ge (tgt := 77) G.1 G.2.1 d_Mo_keys_13 (by decide) (fun c13 => ?_) (fun c13 => ?_)
      · skip
        have c13 : ((sb x).length) ≤ i := (nI_leI (by omega) (by omega)).mp c13
        refine lv_iload_n G.1 G.2.1 d_Mo_keys_77 rfl (lv_at hl 2 rfl) ?_
        have hin : (sb x).length = i := by omega
        rw [← hin] at hk2
        rw [hfs] at hP hD
        refine hret fi (k2, fb2, fz2, fn2, fh2, fk2) _ _ _ _ _ ls (show k2 ≤ k + cbl (sb x) (sb x).length ∧ MI k2 fn2 fh2 from ⟨hk2, hI2⟩) (hP.sub [0, 1, 2, 3, 4, 5] rfl) (hD.sub [0, 1, 2, 3, 4, 5] (by decide) rfl) hS (Nat.le_of_ble_eq_true rfl) (Nat.le_of_ble_eq_true rfl) d_Mo_keys_78
      · skip
        have c13 : ¬ (((sb x).length) ≤ i) := fun h => c13 ((nI_leI (by omega) (by omega)).mpr h)
        refine lv_aload_n G.1 G.2.1 d_Mo_keys_16 rfl (lv_at hl 1 rfl) ?_
        refine lv_iload G.1 G.2.1 d_Mo_keys_17 (lv_at hl 4 rfl) ?_
        refine W.eq (g2 := F0 m 19 ls [.int (nI i), .ref (sk x)]) rfl ?_
        refine kEi (wr := [(h0, .inr (14, fs2)), (nb, .inl (g 1, 6144, .inl fb2)), (nz, .inl (g 1, 512, .inl fz2)), (nx, .inl (g 0, 512, .inl fn2)), (nf, .inl (g 0, 4096, .inl fh2)), (kr, .inl (g 1, 16, .inl fk2))]) G (kVr (As := [.int (nI i)]) (rest := []) G hP hD hS [] rfl rfl (c_Js_charAt l D g x i H.size (by omega) (by omega)) w_Js_charAt q2582 rfl rfl ⟨Nat.le_of_ble_eq_true rfl, Nat.le_of_ble_eq_true rfl⟩ (fun _ h => h) (S1.recv (G.2.2.2.2.2.2.2.2.2.2.1.2 x List.mem_cons_self) hS) hl.1 rfl (Nat.le_of_ble_eq_true rfl) rfl ⟨Nat.le_of_ble_eq_true rfl, (Nat.le_of_ble_eq_true rfl)⟩ d_Mo_keys_19) hP hD hS [] [0, 1, 2, 3, 4, 5] rfl rfl rfl rfl (fun r_4 u_5 H locs hw hP hD hS hzH => ?_)
        have hw : r_4 = (sb x).getD i 0 &&& 255 := hw
        have hP : va_P D CL [(h0, .inr (14, fs2)), (nb, .inl (g 1, 6144, .inl fb2)), (nz, .inl (g 1, 512, .inl fz2)), (nx, .inl (g 0, 512, .inl fn2)), (nf, .inl (g 0, 4096, .inl fh2)), (kr, .inl (g 1, 16, .inl fk2))] H := hP
        have hD : va_D A [(h0, .inr (14, fs2)), (nb, .inl (g 1, 6144, .inl fb2)), (nz, .inl (g 1, 512, .inl fz2)), (nx, .inl (g 0, 512, .inl fn2)), (nf, .inl (g 0, 4096, .inl fh2)), (kr, .inl (g 1, 16, .inl fk2))] := hD
        subst hw
        refine lv_istore (lv' := [(5, .int ((sb x).getD i 0 &&& 255)), (0, .ref h0), (1, .ref (sk x)), (2, .int fi), (3, .int (nI (rl (sb x) i))), (4, .int (nI i))]) G.1 G.2.1 d_Mo_keys_22 hl (by decide) rfl (fun ls hl => ?_)
        refine lv_iload G.1 G.2.1 d_Mo_keys_24 (lv_at hl 0 rfl) ?_
        refine lv_bipush (v := nI 32) G.1 G.2.1 d_Mo_keys_26 (by decide) ?_
        refine lv_icmp_eq (tgt := 46) G.1 G.2.1 d_Mo_keys_28 (by decide) (fun c28 => ?_) (fun c28 => ?_)
        · skip
          have ecb : cbl (sb x) (i + 1) = cbl (sb x) i + 1 := by rw [cbl, if_pos c28]
          have erl : rl (sb x) (i + 1) = 0 := by rw [rl, if_pos c28]
          refine lv_aload_n G.1 G.2.1 d_Mo_keys_46 rfl (lv_at hl 1 rfl) ?_
          refine lv_aload_n G.1 G.2.1 d_Mo_keys_47 rfl (lv_at hl 1 rfl) ?_
          refine kg (ci := 14) (v := .ref kr) G iMo hP 0 rfl rfl 5 (by decide) q3069 rfl (by rw [hfs]; exact lset_ne (by decide) g5) d_Mo_keys_48 ?_
          refine lv_iconst (v := nI 0) G.1 G.2.1 d_Mo_keys_51 (by decide) ?_
          refine lv_iload_n G.1 G.2.1 d_Mo_keys_52 rfl (lv_at hl 4 rfl) ?_
          have hcm : cbl (sb x) (i + 1) ≤ cbl (sb x) (sb x).length := cbl_mono _ (by omega)
          refine kEi (wr := []) G (kV (As := [.ref kr, .int (nI 0), .int (nI (rl (sb x) i))]) (rest := []) G hP hD hS [0, 1, 2, 3, 4, 5] rfl rfl (c_Mo_nameIn l D g h0 kr (rl (sb x) i) fs2 nb nz nx nf k2 kr fb2 fz2 fn2 fh2 fk2 H.size (show fs2.length = 131 by rw [hfs]; exact llen_set glen) (by rw [hfs]; exact lset_ne (by decide) g0) (by rw [hfs]; exact lset_ne (by decide) g1) (by rw [hfs]; exact lset_ne (by decide) g2) (by rw [hfs]; exact lset_ne (by decide) g3) (by rw [hfs]; exact lset_eq (by rw [glen]; decide)) (by rw [hfs]; exact lset_ne (by decide) g5) hI2 (by omega) (hrl i (by omega))) w_Mo_nameIn q2583 rfl rfl ⟨Nat.le_of_ble_eq_true rfl, Nat.le_of_ble_eq_true rfl⟩ (fun _ h => absurd h List.not_mem_nil) 0 (ci := 14) rfl rfl rfl hl.1 rfl (Nat.le_of_ble_eq_true rfl) rfl ⟨Nat.le_of_ble_eq_true rfl, (Nat.le_of_ble_eq_true rfl)⟩ d_Mo_keys_53) hP hD hS [0, 1, 2, 3, 4, 5] [] rfl rfl rfl rfl (fun r_6 u_7 H locs hw hP hD hS hzH => ?_)
          obtain ⟨k3, fb3, fz3, fn3, fh3⟩ := u_7
          have hw : (∃ id : Nat, r_6 = nI id) ∧ k2 ≤ k3 ∧ k3 ≤ k2 + 1 ∧ MI k3 fn3 fh3 := hw
          have hP : va_P D CL [(h0, .inr (14, (fs2.set 4 (.int (nI k3))))), (nb, .inl (g 1, 6144, .inl fb3)), (nz, .inl (g 1, 512, .inl fz3)), (nx, .inl (g 0, 512, .inl fn3)), (nf, .inl (g 0, 4096, .inl fh3)), (kr, .inl (g 1, 16, .inl fk2))] H := hP
          have hD : va_D A [(h0, .inr (14, (fs2.set 4 (.int (nI k3))))), (nb, .inl (g 1, 6144, .inl fb3)), (nz, .inl (g 1, 512, .inl fz3)), (nx, .inl (g 0, 512, .inl fn3)), (nf, .inl (g 0, 4096, .inl fh3)), (kr, .inl (g 1, 16, .inl fk2))] := hD
          obtain ⟨⟨id, hid⟩, hk3, hk4, hI3⟩ := hw
          refine lv_istore (lv' := [(6, .int r_6), (5, .int ((sb x).getD i 0 &&& 255)), (0, .ref h0), (1, .ref (sk x)), (2, .int fi), (3, .int (nI (rl (sb x) i))), (4, .int (nI i))]) G.1 G.2.1 d_Mo_keys_56 hl (by decide) rfl (fun ls hl => ?_)
          have J_8 : ∀ (f9 : Int32), ∀ (H : Heap) (locs : List Loc), va_P D CL [(h0, .inr (14, (fs2.set 4 (.int (nI k3))))), (nb, .inl (g 1, 6144, .inl fb3)), (nz, .inl (g 1, 512, .inl fz3)), (nx, .inl (g 0, 512, .inl fn3)), (nf, .inl (g 0, 4096, .inl fh3)), (kr, .inl (g 1, 16, .inl fk2))] H → va_D A [(h0, .inr (14, (fs2.set 4 (.int (nI k3))))), (nb, .inl (g 1, 6144, .inl fb3)), (nz, .inl (g 1, 512, .inl fz3)), (nx, .inl (g 0, 512, .inl fn3)), (nf, .inl (g 0, 4096, .inl fh3)), (kr, .inl (g 1, 16, .inl fk2))] → va_S A s.heap H locs → ∀ ls, lv_has ls 7 [(6, .int r_6), (5, .int ((sb x).getD i 0 &&& 255)), (0, .ref h0), (1, .ref (sk x)), (2, .int fi), (3, .int (nI (rl (sb x) i))), (4, .int (nI i))] → W p l e rm_Mo_keys s m args below meth c H locs 0 0 Q (F0 m 68 ls [.int f9]) := by
            intro f9  H locs hP hD hS ls hl
            refine lv_istore_n (lv' := [(2, .int f9), (6, .int r_6), (5, .int ((sb x).getD i 0 &&& 255)), (0, .ref h0), (1, .ref (sk x)), (3, .int (nI (rl (sb x) i))), (4, .int (nI i))]) G.1 G.2.1 d_Mo_keys_68 rfl hl (by decide) rfl (fun ls hl => ?_)
            refine lv_iconst (v := nI 0) G.1 G.2.1 d_Mo_keys_69 (by decide) ?_
            refine lv_istore_n (lv' := [(3, .int (nI 0)), (2, .int f9), (6, .int r_6), (5, .int ((sb x).getD i 0 &&& 255)), (0, .ref h0), (1, .ref (sk x)), (4, .int (nI i))]) G.1 G.2.1 d_Mo_keys_70 rfl hl (by decide) rfl (fun ls hl => ?_)
            refine lv_iinc (v := nI (i + 1)) (lv' := [(4, .int (nI (i + 1))), (3, .int (nI 0)), (2, .int f9), (6, .int r_6), (5, .int ((sb x).getD i 0 &&& 255)), (0, .ref h0), (1, .ref (sk x))]) G.1 G.2.1 d_Mo_keys_71 hl (k := 6) rfl (show (nI i) + Int32.ofInt 1 = nI (i + 1) from nI_1 _) (by decide) rfl (fun ls hl => ?_)
            have hl : lv_has ls 7 [(4, .int (nI (i + 1))), (3, .int (nI (rl (sb x) (i + 1)))), (2, .int f9), (6, .int r_6), (5, .int ((sb x).getD i 0 &&& 255)), (0, .ref h0), (1, .ref (sk x))] := by rw [erl]; exact hl
            refine lv_goto (tgt := 7) G.1 G.2.1 d_Mo_keys_74 (by decide) ?_
            exact ih_L_1 (i + 1) f9 k3 (fs2.set 4 (.int (nI k3))) fb3 fz3 fn3 fh3 fk2 (by omega) (by omega) (by rw [hfs]; exact lset_set) (by rw [ecb]; omega) hI3 _ _ (hP.sub [0, 1, 2, 3, 4, 5] rfl) (hD.sub [0, 1, 2, 3, 4, 5] (by decide) rfl) hS ls (lv_sub hl [5, 6, 2, 1, 0] rfl)
          refine W.eq (g2 := F0 m 58 ls []) rfl ?_
          refine lv_iload_n G.1 G.2.1 d_Mo_keys_58 rfl (lv_at hl 4 rfl) ?_
          refine lv_if_ge (tgt := 67) G.1 G.2.1 d_Mo_keys_59 (by decide) (fun c59 => ?_) (fun c59 => ?_)
          · skip
            refine lv_iload_n G.1 G.2.1 d_Mo_keys_67 rfl (lv_at hl 4 rfl) ?_
            exact J_8 fi  _ _ (hP.sub [0, 1, 2, 3, 4, 5] rfl) (hD.sub [0, 1, 2, 3, 4, 5] (by decide) rfl) hS ls (lv_sub hl [0, 1, 2, 3, 4, 5, 6] rfl)
          · skip
            refine lv_iload G.1 G.2.1 d_Mo_keys_62 (lv_at hl 0 rfl) ?_
            refine lv_goto (tgt := 68) G.1 G.2.1 d_Mo_keys_64 (by decide) ?_
            exact J_8 r_6  _ _ (hP.sub [0, 1, 2, 3, 4, 5] rfl) (hD.sub [0, 1, 2, 3, 4, 5] (by decide) rfl) hS ls (lv_sub hl [0, 1, 2, 3, 4, 5, 6] rfl)
        · skip
          have ecb : cbl (sb x) (i + 1) = cbl (sb x) i := by rw [cbl, if_neg c28]; rfl
          have erl : rl (sb x) (i + 1) = rl (sb x) i + 1 := by rw [rl, if_neg c28]
          have hr1 := hrl (i + 1) (by omega)
          have hr0 := hrl i (by omega)
          refine lv_aload_n G.1 G.2.1 d_Mo_keys_31 rfl (lv_at hl 1 rfl) ?_
          refine kg (ci := 14) (v := .ref kr) G iMo hP 0 rfl rfl 5 (by decide) q3069 rfl (by rw [hfs]; exact lset_ne (by decide) g5) d_Mo_keys_32 ?_
          refine lv_iload_n G.1 G.2.1 d_Mo_keys_35 rfl (lv_at hl 4 rfl) ?_
          refine lv_iload G.1 G.2.1 d_Mo_keys_36 (lv_at hl 0 rfl) ?_
          refine lv_i2b G.1 G.2.1 d_Mo_keys_38 rfl ?_
          refine kbast G hP hD hS 5 1 rfl rfl (by omega) (by omega) d_Mo_keys_39 (fun H locs hP hD hS => ?_)
          have hP : va_P D CL [(h0, .inr (14, fs2)), (nb, .inl (g 1, 6144, .inl fb2)), (nz, .inl (g 1, 512, .inl fz2)), (nx, .inl (g 0, 512, .inl fn2)), (nf, .inl (g 0, 4096, .inl fh2)), (kr, .inl (g 1, 16, .inl (upd fk2 (rl (sb x) i) (vp_nar .byte (((sb x).getD i 0 &&& 255).toInt8.toInt32)))))] H := hP
          have hD : va_D A [(h0, .inr (14, fs2)), (nb, .inl (g 1, 6144, .inl fb2)), (nz, .inl (g 1, 512, .inl fz2)), (nx, .inl (g 0, 512, .inl fn2)), (nf, .inl (g 0, 4096, .inl fh2)), (kr, .inl (g 1, 16, .inl (upd fk2 (rl (sb x) i) (vp_nar .byte (((sb x).getD i 0 &&& 255).toInt8.toInt32)))))] := hD
          refine lv_iinc (v := nI (rl (sb x) i + 1)) (lv' := [(3, .int (nI (rl (sb x) i + 1))), (5, .int ((sb x).getD i 0 &&& 255)), (0, .ref h0), (1, .ref (sk x)), (2, .int fi), (4, .int (nI i))]) G.1 G.2.1 d_Mo_keys_40 hl (k := 4) rfl (show (nI (rl (sb x) i)) + Int32.ofInt 1 = nI (rl (sb x) i + 1) from nI_1 _) (by decide) rfl (fun ls hl => ?_)
          refine W.eq (g2 := F0 m 43 ls []) rfl ?_
          refine lv_goto (tgt := 71) G.1 G.2.1 d_Mo_keys_43 (by decide) ?_
          refine lv_iinc (v := nI (i + 1)) (lv' := [(4, .int (nI (i + 1))), (3, .int (nI (rl (sb x) i + 1))), (5, .int ((sb x).getD i 0 &&& 255)), (0, .ref h0), (1, .ref (sk x)), (2, .int fi)]) G.1 G.2.1 d_Mo_keys_71 hl (k := 5) rfl (show (nI i) + Int32.ofInt 1 = nI (i + 1) from nI_1 _) (by decide) rfl (fun ls hl => ?_)
          have hl : lv_has ls 7 [(4, .int (nI (i + 1))), (3, .int (nI (rl (sb x) (i + 1)))), (5, .int ((sb x).getD i 0 &&& 255)), (0, .ref h0), (1, .ref (sk x)), (2, .int fi)] := by rw [erl]; exact hl
          refine lv_goto (tgt := 7) G.1 G.2.1 d_Mo_keys_74 (by decide) ?_
          exact ih_L_1 (i + 1) fi k2 fs2 fb2 fz2 fn2 fh2 (upd fk2 (rl (sb x) i) (vp_nar .byte (((sb x).getD i 0 &&& 255).toInt8.toInt32))) (by omega) (by omega) hfs (by rw [ecb]; exact hk2) hI2 _ _ (hP.sub [0, 1, 2, 3, 4, 5] rfl) (hD.sub [0, 1, 2, 3, 4, 5] (by decide) rfl) hS ls (lv_sub hl [3, 4, 5, 1, 0] rfl)
  exact L_1 (_ + 1) 0 (-1) k fs fb fz fn fh fk (Nat.lt_succ_self _) (Nat.zero_le _) ((lset_same g4).symm) (Nat.le_add_right _ _) hI _ _ (hP.sub [0, 1, 2, 3, 4, 5] rfl) (hD.sub [0, 1, 2, 3, 4, 5] (by decide) rfl) hS ls (lv_sub hl [3, 4, 2, 1, 0] rfl)
def y_Mo_signature : MethodName := ⟨"ClassWorksModel", "signature", "([III)I"⟩
abbrev b_Mo_signature : ByteArray := prog_14_method_7_code
theorem q3098 : Cond.fieldLink "ClassWorksModel" 64 "ClassWorksModel" "sigFirsts" "[I" ∈ lw_ok := lw_okmem (List.mem_of_getElem? (i := 3098) (by decide +kernel)) rfl
theorem q3094 : Cond.fieldLink "ClassWorksModel" 74 "ClassWorksModel" "sigFroms" "[I" ∈ lw_ok := lw_okmem (List.mem_of_getElem? (i := 3094) (by decide +kernel)) rfl
theorem q3100 : Cond.fieldLink "ClassWorksModel" 77 "ClassWorksModel" "sigs" "I" ∈ lw_ok := lw_okmem (List.mem_of_getElem? (i := 3100) (by decide +kernel)) rfl
theorem q3095 : Cond.fieldLink "ClassWorksModel" 80 "ClassWorksModel" "sigCounts" "[I" ∈ lw_ok := lw_okmem (List.mem_of_getElem? (i := 3095) (by decide +kernel)) rfl
theorem q3096 : Cond.fieldLink "ClassWorksModel" 83 "ClassWorksModel" "sigResults" "[I" ∈ lw_ok := lw_okmem (List.mem_of_getElem? (i := 3096) (by decide +kernel)) rfl
theorem q3097 : Cond.fieldLink "ClassWorksModel" 71 "ClassWorksModel" "sigNexts" "[I" ∈ lw_ok := lw_okmem (List.mem_of_getElem? (i := 3097) (by decide +kernel)) rfl
theorem q3099 : Cond.fieldLink "ClassWorksModel" 86 "ClassWorksModel" "sigTypes" "[I" ∈ lw_ok := lw_okmem (List.mem_of_getElem? (i := 3099) (by decide +kernel)) rfl
theorem q3101 : Cond.fieldLink "ClassWorksModel" 89 "ClassWorksModel" "sigSize" "I" ∈ lw_ok := lw_okmem (List.mem_of_getElem? (i := 3101) (by decide +kernel)) rfl
theorem q2595 : Cond.methodLink "ClassWorksModel" 11 arraycopyName ∈ lw_ok := lw_okmem (List.mem_of_getElem? (i := 2595) (by decide +kernel)) rfl
theorem q488 : Cond.native arraycopyName ∈ lw_ok := lw_okmem (List.mem_of_getElem? (i := 488) (by decide +kernel)) rfl
theorem q487 : Cond.static arraycopyName ∈ lw_ok := lw_okmem (List.mem_of_getElem? (i := 487) (by decide +kernel)) rfl
theorem q338 : Cond.initialized "java/lang/System" ∈ lw_ok := lw_okmem (List.mem_of_getElem? (i := 338) (by decide +kernel)) rfl
theorem d_Mo_signature_0 : decode b_Mo_signature 0 = .ok (.bipush 31, 2) := by decide +kernel
theorem d_Mo_signature_2 : decode b_Mo_signature 2 = .ok (.iload_n 2, 1) := by decide +kernel
theorem d_Mo_signature_3 : decode b_Mo_signature 3 = .ok (.imul, 1) := by decide +kernel
theorem d_Mo_signature_4 : decode b_Mo_signature 4 = .ok (.iload_n 3, 1) := by decide +kernel
theorem d_Mo_signature_5 : decode b_Mo_signature 5 = .ok (.iadd, 1) := by decide +kernel
theorem d_Mo_signature_6 : decode b_Mo_signature 6 = .ok (.istore 4, 2) := by decide +kernel
theorem d_Mo_signature_8 : decode b_Mo_signature 8 = .ok (.iconst 0, 1) := by decide +kernel
theorem d_Mo_signature_9 : decode b_Mo_signature 9 = .ok (.istore 5, 2) := by decide +kernel
theorem d_Mo_signature_11 : decode b_Mo_signature 11 = .ok (.iload 5, 2) := by decide +kernel
theorem d_Mo_signature_13 : decode b_Mo_signature 13 = .ok (.iload_n 2, 1) := by decide +kernel
theorem d_Mo_signature_14 : decode b_Mo_signature 14 = .ok (.if_icmp .ge 21, 3) := by decide +kernel
theorem d_Mo_signature_35 : decode b_Mo_signature 35 = .ok (.iload 4, 2) := by decide +kernel
theorem d_Mo_signature_37 : decode b_Mo_signature 37 = .ok (.iload 4, 2) := by decide +kernel
theorem d_Mo_signature_39 : decode b_Mo_signature 39 = .ok (.bipush 11, 2) := by decide +kernel
theorem d_Mo_signature_41 : decode b_Mo_signature 41 = .ok (.iushr, 1) := by decide +kernel
theorem d_Mo_signature_42 : decode b_Mo_signature 42 = .ok (.ixor, 1) := by decide +kernel
theorem d_Mo_signature_43 : decode b_Mo_signature 43 = .ok (.sipush 1023, 3) := by decide +kernel
theorem d_Mo_signature_46 : decode b_Mo_signature 46 = .ok (.iand, 1) := by decide +kernel
theorem d_Mo_signature_47 : decode b_Mo_signature 47 = .ok (.istore 5, 2) := by decide +kernel
theorem d_Mo_signature_49 : decode b_Mo_signature 49 = .ok (.aload_n 0, 1) := by decide +kernel
theorem d_Mo_signature_50 : decode b_Mo_signature 50 = .ok (.getfield 64, 3) := by decide +kernel
theorem d_Mo_signature_53 : decode b_Mo_signature 53 = .ok (.iload 5, 2) := by decide +kernel
theorem d_Mo_signature_55 : decode b_Mo_signature 55 = .ok (.iaload, 1) := by decide +kernel
theorem d_Mo_signature_56 : decode b_Mo_signature 56 = .ok (.istore 6, 2) := by decide +kernel
theorem d_Mo_signature_58 : decode b_Mo_signature 58 = .ok (.iload 6, 2) := by decide +kernel
theorem d_Mo_signature_60 : decode b_Mo_signature 60 = .ok (.ifCond .le 36, 3) := by decide +kernel
theorem d_Mo_signature_96 : decode b_Mo_signature 96 = .ok (.aload_n 0, 1) := by decide +kernel
theorem d_Mo_signature_97 : decode b_Mo_signature 97 = .ok (.aload_n 0, 1) := by decide +kernel
theorem d_Mo_signature_98 : decode b_Mo_signature 98 = .ok (.getfield 74, 3) := by decide +kernel
theorem d_Mo_signature_101 : decode b_Mo_signature 101 = .ok (.aload_n 0, 1) := by decide +kernel
theorem d_Mo_signature_102 : decode b_Mo_signature 102 = .ok (.getfield 77, 3) := by decide +kernel
theorem d_Mo_signature_105 : decode b_Mo_signature 105 = .ok (.iconst 1, 1) := by decide +kernel
theorem d_Mo_signature_106 : decode b_Mo_signature 106 = .ok (.iadd, 1) := by decide +kernel
theorem d_Mo_signature_107 : decode b_Mo_signature 107 = .ok (.invokestatic 43, 3) := by decide +kernel
theorem d_Mo_signature_110 : decode b_Mo_signature 110 = .ok (.putfield 74, 3) := by decide +kernel
theorem d_Mo_signature_113 : decode b_Mo_signature 113 = .ok (.aload_n 0, 1) := by decide +kernel
theorem d_Mo_signature_114 : decode b_Mo_signature 114 = .ok (.aload_n 0, 1) := by decide +kernel
theorem d_Mo_signature_115 : decode b_Mo_signature 115 = .ok (.getfield 80, 3) := by decide +kernel
theorem d_Mo_signature_118 : decode b_Mo_signature 118 = .ok (.aload_n 0, 1) := by decide +kernel
theorem d_Mo_signature_119 : decode b_Mo_signature 119 = .ok (.getfield 77, 3) := by decide +kernel
theorem d_Mo_signature_122 : decode b_Mo_signature 122 = .ok (.iconst 1, 1) := by decide +kernel
theorem d_Mo_signature_123 : decode b_Mo_signature 123 = .ok (.iadd, 1) := by decide +kernel
theorem d_Mo_signature_124 : decode b_Mo_signature 124 = .ok (.invokestatic 43, 3) := by decide +kernel
theorem d_Mo_signature_127 : decode b_Mo_signature 127 = .ok (.putfield 80, 3) := by decide +kernel
theorem d_Mo_signature_130 : decode b_Mo_signature 130 = .ok (.aload_n 0, 1) := by decide +kernel
theorem d_Mo_signature_131 : decode b_Mo_signature 131 = .ok (.aload_n 0, 1) := by decide +kernel
theorem d_Mo_signature_132 : decode b_Mo_signature 132 = .ok (.getfield 83, 3) := by decide +kernel
theorem d_Mo_signature_135 : decode b_Mo_signature 135 = .ok (.aload_n 0, 1) := by decide +kernel
theorem d_Mo_signature_136 : decode b_Mo_signature 136 = .ok (.getfield 77, 3) := by decide +kernel
theorem d_Mo_signature_139 : decode b_Mo_signature 139 = .ok (.iconst 1, 1) := by decide +kernel
theorem d_Mo_signature_140 : decode b_Mo_signature 140 = .ok (.iadd, 1) := by decide +kernel
theorem d_Mo_signature_141 : decode b_Mo_signature 141 = .ok (.invokestatic 43, 3) := by decide +kernel
theorem d_Mo_signature_144 : decode b_Mo_signature 144 = .ok (.putfield 83, 3) := by decide +kernel
theorem d_Mo_signature_147 : decode b_Mo_signature 147 = .ok (.aload_n 0, 1) := by decide +kernel
theorem d_Mo_signature_148 : decode b_Mo_signature 148 = .ok (.aload_n 0, 1) := by decide +kernel
theorem d_Mo_signature_149 : decode b_Mo_signature 149 = .ok (.getfield 71, 3) := by decide +kernel
theorem d_Mo_signature_152 : decode b_Mo_signature 152 = .ok (.aload_n 0, 1) := by decide +kernel
theorem d_Mo_signature_153 : decode b_Mo_signature 153 = .ok (.getfield 77, 3) := by decide +kernel
theorem d_Mo_signature_156 : decode b_Mo_signature 156 = .ok (.iconst 1, 1) := by decide +kernel
theorem d_Mo_signature_157 : decode b_Mo_signature 157 = .ok (.iadd, 1) := by decide +kernel
theorem d_Mo_signature_158 : decode b_Mo_signature 158 = .ok (.invokestatic 43, 3) := by decide +kernel
theorem d_Mo_signature_161 : decode b_Mo_signature 161 = .ok (.putfield 71, 3) := by decide +kernel
theorem d_Mo_signature_164 : decode b_Mo_signature 164 = .ok (.aload_n 0, 1) := by decide +kernel
theorem d_Mo_signature_165 : decode b_Mo_signature 165 = .ok (.aload_n 0, 1) := by decide +kernel
theorem d_Mo_signature_166 : decode b_Mo_signature 166 = .ok (.getfield 86, 3) := by decide +kernel
theorem d_Mo_signature_169 : decode b_Mo_signature 169 = .ok (.aload_n 0, 1) := by decide +kernel
theorem d_Mo_signature_170 : decode b_Mo_signature 170 = .ok (.getfield 89, 3) := by decide +kernel
theorem d_Mo_signature_173 : decode b_Mo_signature 173 = .ok (.iload_n 2, 1) := by decide +kernel
theorem d_Mo_signature_174 : decode b_Mo_signature 174 = .ok (.iadd, 1) := by decide +kernel
theorem d_Mo_signature_175 : decode b_Mo_signature 175 = .ok (.invokestatic 43, 3) := by decide +kernel
theorem d_Mo_signature_178 : decode b_Mo_signature 178 = .ok (.putfield 86, 3) := by decide +kernel
theorem d_Mo_signature_181 : decode b_Mo_signature 181 = .ok (.aload_n 1, 1) := by decide +kernel
theorem d_Mo_signature_182 : decode b_Mo_signature 182 = .ok (.iconst 0, 1) := by decide +kernel
theorem d_Mo_signature_183 : decode b_Mo_signature 183 = .ok (.aload_n 0, 1) := by decide +kernel
theorem d_Mo_signature_184 : decode b_Mo_signature 184 = .ok (.getfield 86, 3) := by decide +kernel
theorem d_Mo_signature_187 : decode b_Mo_signature 187 = .ok (.aload_n 0, 1) := by decide +kernel
theorem d_Mo_signature_188 : decode b_Mo_signature 188 = .ok (.getfield 89, 3) := by decide +kernel
theorem d_Mo_signature_191 : decode b_Mo_signature 191 = .ok (.iload_n 2, 1) := by decide +kernel
theorem d_Mo_signature_192 : decode b_Mo_signature 192 = .ok (.invokestatic 11, 3) := by decide +kernel
theorem d_Mo_signature_195 : decode b_Mo_signature 195 = .ok (.aload_n 0, 1) := by decide +kernel
theorem d_Mo_signature_196 : decode b_Mo_signature 196 = .ok (.getfield 74, 3) := by decide +kernel
theorem d_Mo_signature_199 : decode b_Mo_signature 199 = .ok (.aload_n 0, 1) := by decide +kernel
theorem d_Mo_signature_200 : decode b_Mo_signature 200 = .ok (.getfield 77, 3) := by decide +kernel
theorem d_Mo_signature_203 : decode b_Mo_signature 203 = .ok (.aload_n 0, 1) := by decide +kernel
theorem d_Mo_signature_204 : decode b_Mo_signature 204 = .ok (.getfield 89, 3) := by decide +kernel
theorem d_Mo_signature_207 : decode b_Mo_signature 207 = .ok (.iastore, 1) := by decide +kernel
theorem d_Mo_signature_208 : decode b_Mo_signature 208 = .ok (.aload_n 0, 1) := by decide +kernel
theorem d_Mo_signature_209 : decode b_Mo_signature 209 = .ok (.getfield 80, 3) := by decide +kernel
theorem d_Mo_signature_212 : decode b_Mo_signature 212 = .ok (.aload_n 0, 1) := by decide +kernel
theorem d_Mo_signature_213 : decode b_Mo_signature 213 = .ok (.getfield 77, 3) := by decide +kernel
theorem d_Mo_signature_216 : decode b_Mo_signature 216 = .ok (.iload_n 2, 1) := by decide +kernel
theorem d_Mo_signature_217 : decode b_Mo_signature 217 = .ok (.iastore, 1) := by decide +kernel
theorem d_Mo_signature_218 : decode b_Mo_signature 218 = .ok (.aload_n 0, 1) := by decide +kernel
theorem d_Mo_signature_219 : decode b_Mo_signature 219 = .ok (.getfield 83, 3) := by decide +kernel
theorem d_Mo_signature_222 : decode b_Mo_signature 222 = .ok (.aload_n 0, 1) := by decide +kernel
theorem d_Mo_signature_223 : decode b_Mo_signature 223 = .ok (.getfield 77, 3) := by decide +kernel
theorem d_Mo_signature_226 : decode b_Mo_signature 226 = .ok (.iload_n 3, 1) := by decide +kernel
theorem d_Mo_signature_227 : decode b_Mo_signature 227 = .ok (.iastore, 1) := by decide +kernel
theorem d_Mo_signature_228 : decode b_Mo_signature 228 = .ok (.aload_n 0, 1) := by decide +kernel
theorem d_Mo_signature_229 : decode b_Mo_signature 229 = .ok (.getfield 71, 3) := by decide +kernel
theorem d_Mo_signature_232 : decode b_Mo_signature 232 = .ok (.aload_n 0, 1) := by decide +kernel
theorem d_Mo_signature_233 : decode b_Mo_signature 233 = .ok (.getfield 77, 3) := by decide +kernel
theorem d_Mo_signature_236 : decode b_Mo_signature 236 = .ok (.aload_n 0, 1) := by decide +kernel
theorem d_Mo_signature_237 : decode b_Mo_signature 237 = .ok (.getfield 64, 3) := by decide +kernel
theorem d_Mo_signature_240 : decode b_Mo_signature 240 = .ok (.iload 5, 2) := by decide +kernel
theorem d_Mo_signature_242 : decode b_Mo_signature 242 = .ok (.iaload, 1) := by decide +kernel
theorem d_Mo_signature_243 : decode b_Mo_signature 243 = .ok (.iastore, 1) := by decide +kernel
theorem d_Mo_signature_244 : decode b_Mo_signature 244 = .ok (.aload_n 0, 1) := by decide +kernel
theorem d_Mo_signature_245 : decode b_Mo_signature 245 = .ok (.dup, 1) := by decide +kernel
theorem d_Mo_signature_246 : decode b_Mo_signature 246 = .ok (.getfield 89, 3) := by decide +kernel
theorem d_Mo_signature_249 : decode b_Mo_signature 249 = .ok (.iload_n 2, 1) := by decide +kernel
theorem d_Mo_signature_250 : decode b_Mo_signature 250 = .ok (.iadd, 1) := by decide +kernel
theorem d_Mo_signature_251 : decode b_Mo_signature 251 = .ok (.putfield 89, 3) := by decide +kernel
theorem d_Mo_signature_254 : decode b_Mo_signature 254 = .ok (.aload_n 0, 1) := by decide +kernel
theorem d_Mo_signature_255 : decode b_Mo_signature 255 = .ok (.dup, 1) := by decide +kernel
theorem d_Mo_signature_256 : decode b_Mo_signature 256 = .ok (.getfield 77, 3) := by decide +kernel
theorem d_Mo_signature_259 : decode b_Mo_signature 259 = .ok (.iconst 1, 1) := by decide +kernel
theorem d_Mo_signature_260 : decode b_Mo_signature 260 = .ok (.iadd, 1) := by decide +kernel
theorem d_Mo_signature_261 : decode b_Mo_signature 261 = .ok (.putfield 77, 3) := by decide +kernel
theorem d_Mo_signature_264 : decode b_Mo_signature 264 = .ok (.aload_n 0, 1) := by decide +kernel
theorem d_Mo_signature_265 : decode b_Mo_signature 265 = .ok (.getfield 64, 3) := by decide +kernel
theorem d_Mo_signature_268 : decode b_Mo_signature 268 = .ok (.iload 5, 2) := by decide +kernel
theorem d_Mo_signature_270 : decode b_Mo_signature 270 = .ok (.aload_n 0, 1) := by decide +kernel
theorem d_Mo_signature_271 : decode b_Mo_signature 271 = .ok (.getfield 77, 3) := by decide +kernel
theorem d_Mo_signature_274 : decode b_Mo_signature 274 = .ok (.iastore, 1) := by decide +kernel
theorem d_Mo_signature_275 : decode b_Mo_signature 275 = .ok (.aload_n 0, 1) := by decide +kernel
theorem d_Mo_signature_276 : decode b_Mo_signature 276 = .ok (.getfield 77, 3) := by decide +kernel
theorem d_Mo_signature_279 : decode b_Mo_signature 279 = .ok (.iconst 1, 1) := by decide +kernel
theorem d_Mo_signature_280 : decode b_Mo_signature 280 = .ok (.isub, 1) := by decide +kernel
theorem d_Mo_signature_281 : decode b_Mo_signature 281 = .ok (.ireturn, 1) := by decide +kernel
abbrev rm_Mo_signature : Room := { frames := 1, cells := 0, slots := 0, locals := 120 }
set_option maxHeartbeats 4000000 in
set_option maxRecDepth 100000 in
/-- signature(.., 0, 0): the first -/
theorem c_Mo_signature (l : Launch) (D : va_G) (g : Nat → ClassId) (h0 : Nat) (ty : Nat) (fs : List Value) (s0 : Nat) (s1 : Nat) (s2 : Nat) (s3 : Nat) (s4 : Nat) (s5 : Nat) (ft : Nat → Int32) (sz : Nat) (glen : fs.length = 131) (g0 : fs[30]? = some (.ref s0)) (g1 : fs[31]? = some (.ref s1)) (g2 : fs[32]? = some (.ref s2)) (g3 : fs[33]? = some (.ref s3)) (g4 : fs[34]? = some (.ref s4)) (g5 : fs[35]? = some (.ref s5)) (g6 : fs[36]? = some (.int (nI 0))) (g7 : fs[37]? = some (.int (nI 0)))  : Met l y_Mo_signature (mw y_Mo_signature b_Mo_signature 7 (some .int)) (rm_Mo_signature) (PC g D [] [.ref h0, .ref ty, .int (nI 0), .int (nI 0)] sz [(h0, .inr (14, fs)), (s0, .inl (g 0, 256, .inl (fun _ => nI 0))), (s1, .inl (g 0, 256, .inl (fun _ => nI 0))), (s2, .inl (g 0, 256, .inl (fun _ => nI 0))), (s3, .inl (g 0, 256, .inl (fun _ => nI 0))), (s4, .inl (g 0, 1024, .inl (fun _ => nI 0))), (s5, .inl (g 0, 1024, .inl (fun _ => nI 0))), (ty, .inl (g 0, 1, .inl ft))]) (va_Qi (fun (r : Int32) (u : Unit) => True) (QW D (va_A [(h0, .inr (14, fs)), (s0, .inl (g 0, 256, .inl (fun _ => nI 0))), (s1, .inl (g 0, 256, .inl (fun _ => nI 0))), (s2, .inl (g 0, 256, .inl (fun _ => nI 0))), (s3, .inl (g 0, 256, .inl (fun _ => nI 0))), (s4, .inl (g 0, 1024, .inl (fun _ => nI 0))), (s5, .inl (g 0, 1024, .inl (fun _ => nI 0))), (ty, .inl (g 0, 1, .inl ft))] sz) (fun u : Unit => [(h0, .inr (14, (fs.set 36 (.int (nI 1)))))])) (va_A [(h0, .inr (14, fs)), (s0, .inl (g 0, 256, .inl (fun _ => nI 0))), (s1, .inl (g 0, 256, .inl (fun _ => nI 0))), (s2, .inl (g 0, 256, .inl (fun _ => nI 0))), (s3, .inl (g 0, 256, .inl (fun _ => nI 0))), (s4, .inl (g 0, 1024, .inl (fun _ => nI 0))), (s5, .inl (g 0, 1024, .inl (fun _ => nI 0))), (ty, .inl (g 0, 1, .inl ft))] sz)) 0 0 (va_A [(h0, .inr (14, fs)), (s0, .inl (g 0, 256, .inl (fun _ => nI 0))), (s1, .inl (g 0, 256, .inl (fun _ => nI 0))), (s2, .inl (g 0, 256, .inl (fun _ => nI 0))), (s3, .inl (g 0, 256, .inl (fun _ => nI 0))), (s4, .inl (g 0, 1024, .inl (fun _ => nI 0))), (s5, .inl (g 0, 1024, .inl (fun _ => nI 0))), (ty, .inl (g 0, 1, .inl ft))] sz) := by
  refine ofI (by decide +kernel) (Nat.le_of_ble_eq_true rfl) ?_
  intro p e s m args below meth c A Q ls H locs G hsz hP hD hS hl hret
  subst hsz
  have hl : lv_has ls 7 [(0, .ref h0), (1, .ref ty), (2, .int (nI 0)), (3, .int (nI 0))] := hl
  refine lv_bipush (v := nI 31) G.1 G.2.1 d_Mo_signature_0 (by decide) ?_
  refine lv_iload_n G.1 G.2.1 d_Mo_signature_2 rfl (lv_at hl 2 rfl) ?_
  refine lv_imul G.1 G.2.1 d_Mo_signature_3 ?_
  refine tpi (w := nI 0) (by decide) ?_
  refine lv_iload_n G.1 G.2.1 d_Mo_signature_4 rfl (lv_at hl 3 rfl) ?_
  refine lv_iadd G.1 G.2.1 d_Mo_signature_5 ?_
  refine tpi (w := nI 0) (by decide) ?_
  refine lv_istore (lv' := [(4, .int (nI 0)), (0, .ref h0), (1, .ref ty), (2, .int (nI 0)), (3, .int (nI 0))]) G.1 G.2.1 d_Mo_signature_6 hl (by decide) rfl (fun ls hl => ?_)
  refine lv_iconst (v := nI 0) G.1 G.2.1 d_Mo_signature_8 (by decide) ?_
  refine lv_istore (lv' := [(5, .int (nI 0)), (4, .int (nI 0)), (0, .ref h0), (1, .ref ty), (2, .int (nI 0)), (3, .int (nI 0))]) G.1 G.2.1 d_Mo_signature_9 hl (by decide) rfl (fun ls hl => ?_)
  refine lv_iload G.1 G.2.1 d_Mo_signature_11 (lv_at hl 0 rfl) ?_
  refine lv_iload_n G.1 G.2.1 d_Mo_signature_13 rfl (lv_at hl 4 rfl) ?_
  refine lv_icmp_ge (tgt := 35) G.1 G.2.1 d_Mo_signature_14 (by decide) (fun c14 => ?_) (fun c14 => absurd c14 (by decide))
  refine W.eq (g2 := F0 m 35 ls []) rfl ?_
  refine lv_iload G.1 G.2.1 d_Mo_signature_35 (lv_at hl 1 rfl) ?_
  refine lv_iload G.1 G.2.1 d_Mo_signature_37 (lv_at hl 1 rfl) ?_
  refine lv_bipush (v := nI 11) G.1 G.2.1 d_Mo_signature_39 (by decide) ?_
  refine lv_iushr G.1 G.2.1 d_Mo_signature_41 rfl ?_
  refine lv_ixor G.1 G.2.1 d_Mo_signature_42 ?_
  refine lv_sipush (v := nI 1023) G.1 G.2.1 d_Mo_signature_43 (by decide) ?_
  refine lv_iand G.1 G.2.1 d_Mo_signature_46 ?_
  refine tpi (w := nI 0) (by decide +kernel) ?_
  refine lv_istore (lv' := [(5, .int (nI 0)), (4, .int (nI 0)), (0, .ref h0), (1, .ref ty), (2, .int (nI 0)), (3, .int (nI 0))]) G.1 G.2.1 d_Mo_signature_47 hl (by decide) rfl (fun ls hl => ?_)
  refine lv_aload_n G.1 G.2.1 d_Mo_signature_49 rfl (lv_at hl 2 rfl) ?_
  refine kg (ci := 14) (v := .ref s4) G iMo hP 0 rfl rfl 34 (by decide) q3098 rfl g4 d_Mo_signature_50 ?_
  refine lv_iload G.1 G.2.1 d_Mo_signature_53 (lv_at hl 0 rfl) ?_
  refine kiald G hP 5 0 rfl rfl (by omega) (by omega) d_Mo_signature_55 ?_
  refine tpi (w := nI 0) rfl ?_
  refine W.eq (g2 := F0 m 56 ls [.int (nI 0)]) rfl ?_
  refine lv_istore (lv' := [(6, .int (nI 0)), (5, .int (nI 0)), (4, .int (nI 0)), (0, .ref h0), (1, .ref ty), (2, .int (nI 0)), (3, .int (nI 0))]) G.1 G.2.1 d_Mo_signature_56 hl (by decide) rfl (fun ls hl => ?_)
  refine lv_iload G.1 G.2.1 d_Mo_signature_58 (lv_at hl 0 rfl) ?_
  refine lv_if_le (tgt := 96) G.1 G.2.1 d_Mo_signature_60 (by decide) (fun c60 => ?_) (fun c60 => absurd c60 (by decide))
  refine lv_aload_n G.1 G.2.1 d_Mo_signature_96 rfl (lv_at hl 3 rfl) ?_
  refine lv_aload_n G.1 G.2.1 d_Mo_signature_97 rfl (lv_at hl 3 rfl) ?_
  refine kg (ci := 14) (v := .ref s0) G iMo hP 0 rfl rfl 30 (by decide) q3094 rfl g0 d_Mo_signature_98 ?_
  refine lv_aload_n G.1 G.2.1 d_Mo_signature_101 rfl (lv_at hl 3 rfl) ?_
  refine kg (ci := 14) (v := .int (nI 0)) G iMo hP 0 rfl rfl 36 (by decide) q3100 rfl g6 d_Mo_signature_102 ?_
  refine lv_iconst (v := nI 1) G.1 G.2.1 d_Mo_signature_105 (by decide) ?_
  refine lv_iadd G.1 G.2.1 d_Mo_signature_106 ?_
  refine tpi (w := nI 1) (by decide) ?_
  refine kEq (wr := [(h0, .inr (14, fs)), (s1, .inl (g 0, 256, .inl (fun _ => nI 0))), (s2, .inl (g 0, 256, .inl (fun _ => nI 0))), (s3, .inl (g 0, 256, .inl (fun _ => nI 0))), (s4, .inl (g 0, 1024, .inl (fun _ => nI 0))), (s5, .inl (g 0, 1024, .inl (fun _ => nI 0))), (ty, .inl (g 0, 1, .inl ft))]) G (kS (As := [.ref s0, .int (nI 1)]) (rest := [.ref h0]) G hP hD hS [1] rfl rfl (c_Mo_room l D g s0 1 256 (fun _ => nI 0) H.size (by decide) (by decide)) w_Mo_room q2596 rfl rfl ⟨Nat.le_of_ble_eq_true rfl, Nat.le_of_ble_eq_true rfl⟩ (fun _ h => absurd h List.not_mem_nil) hl.1 rfl (Nat.le_of_ble_eq_true rfl) rfl ⟨Nat.le_of_ble_eq_true rfl, (Nat.le_of_ble_eq_true rfl)⟩ d_Mo_signature_107) hP hD hS [1] [0, 2, 3, 4, 5, 6, 7] rfl rfl rfl rfl (fun r_1 u_2 H locs hw hP hD hS hzH => ?_)
  have hw : r_1 = some s0 := hw
  have hP : va_P D CL [(h0, .inr (14, fs)), (s1, .inl (g 0, 256, .inl (fun _ => nI 0))), (s2, .inl (g 0, 256, .inl (fun _ => nI 0))), (s3, .inl (g 0, 256, .inl (fun _ => nI 0))), (s4, .inl (g 0, 1024, .inl (fun _ => nI 0))), (s5, .inl (g 0, 1024, .inl (fun _ => nI 0))), (ty, .inl (g 0, 1, .inl ft)), (s0, .inl (g 0, 256, .inl ((fun _ => nI 0))))] H := hP
  have hD : va_D A [(h0, .inr (14, fs)), (s1, .inl (g 0, 256, .inl (fun _ => nI 0))), (s2, .inl (g 0, 256, .inl (fun _ => nI 0))), (s3, .inl (g 0, 256, .inl (fun _ => nI 0))), (s4, .inl (g 0, 1024, .inl (fun _ => nI 0))), (s5, .inl (g 0, 1024, .inl (fun _ => nI 0))), (ty, .inl (g 0, 1, .inl ft)), (s0, .inl (g 0, 256, .inl ((fun _ => nI 0))))] := hD
  subst hw
  refine tpst (w := [.ref s0, .ref h0]) rfl ?_
  refine kp (ci := 14) G iMo tMo tMo_ok nMo hP hD hS 0 rfl rfl 30 (by decide) q3094 rfl rfl rfl rfl (by rw [glen]; decide) d_Mo_signature_110 (fun H locs hP hD hS => ?_)
  rw [lset_same g0] at hP hD
  have hP : va_P D CL [(h0, .inr (14, fs)), (s1, .inl (g 0, 256, .inl (fun _ => nI 0))), (s2, .inl (g 0, 256, .inl (fun _ => nI 0))), (s3, .inl (g 0, 256, .inl (fun _ => nI 0))), (s4, .inl (g 0, 1024, .inl (fun _ => nI 0))), (s5, .inl (g 0, 1024, .inl (fun _ => nI 0))), (ty, .inl (g 0, 1, .inl ft)), (s0, .inl (g 0, 256, .inl ((fun _ => nI 0))))] H := hP
  have hD : va_D A [(h0, .inr (14, fs)), (s1, .inl (g 0, 256, .inl (fun _ => nI 0))), (s2, .inl (g 0, 256, .inl (fun _ => nI 0))), (s3, .inl (g 0, 256, .inl (fun _ => nI 0))), (s4, .inl (g 0, 1024, .inl (fun _ => nI 0))), (s5, .inl (g 0, 1024, .inl (fun _ => nI 0))), (ty, .inl (g 0, 1, .inl ft)), (s0, .inl (g 0, 256, .inl ((fun _ => nI 0))))] := hD
  refine W.eq (g2 := F0 m 113 ls []) rfl ?_
  refine lv_aload_n G.1 G.2.1 d_Mo_signature_113 rfl (lv_at hl 3 rfl) ?_
  refine lv_aload_n G.1 G.2.1 d_Mo_signature_114 rfl (lv_at hl 3 rfl) ?_
  refine kg (ci := 14) (v := .ref s1) G iMo hP 0 rfl rfl 31 (by decide) q3095 rfl g1 d_Mo_signature_115 ?_
  refine lv_aload_n G.1 G.2.1 d_Mo_signature_118 rfl (lv_at hl 3 rfl) ?_
  refine kg (ci := 14) (v := .int (nI 0)) G iMo hP 0 rfl rfl 36 (by decide) q3100 rfl g6 d_Mo_signature_119 ?_
  refine lv_iconst (v := nI 1) G.1 G.2.1 d_Mo_signature_122 (by decide) ?_
  refine lv_iadd G.1 G.2.1 d_Mo_signature_123 ?_
  refine tpi (w := nI 1) (by decide) ?_
  refine kEq (wr := [(h0, .inr (14, fs)), (s2, .inl (g 0, 256, .inl (fun _ => nI 0))), (s3, .inl (g 0, 256, .inl (fun _ => nI 0))), (s4, .inl (g 0, 1024, .inl (fun _ => nI 0))), (s5, .inl (g 0, 1024, .inl (fun _ => nI 0))), (ty, .inl (g 0, 1, .inl ft)), (s0, .inl (g 0, 256, .inl ((fun _ => nI 0))))]) G (kS (As := [.ref s1, .int (nI 1)]) (rest := [.ref h0]) G hP hD hS [1] rfl rfl (c_Mo_room l D g s1 1 256 (fun _ => nI 0) H.size (by decide) (by decide)) w_Mo_room q2596 rfl rfl ⟨Nat.le_of_ble_eq_true rfl, Nat.le_of_ble_eq_true rfl⟩ (fun _ h => absurd h List.not_mem_nil) hl.1 rfl (Nat.le_of_ble_eq_true rfl) rfl ⟨Nat.le_of_ble_eq_true rfl, (Nat.le_of_ble_eq_true rfl)⟩ d_Mo_signature_124) hP hD hS [1] [0, 2, 3, 4, 5, 6, 7] rfl rfl rfl rfl (fun r_3 u_4 H locs hw hP hD hS hzH => ?_)
  have hw : r_3 = some s1 := hw
  have hP : va_P D CL [(h0, .inr (14, fs)), (s2, .inl (g 0, 256, .inl (fun _ => nI 0))), (s3, .inl (g 0, 256, .inl (fun _ => nI 0))), (s4, .inl (g 0, 1024, .inl (fun _ => nI 0))), (s5, .inl (g 0, 1024, .inl (fun _ => nI 0))), (ty, .inl (g 0, 1, .inl ft)), (s0, .inl (g 0, 256, .inl ((fun _ => nI 0)))), (s1, .inl (g 0, 256, .inl ((fun _ => nI 0))))] H := hP
  have hD : va_D A [(h0, .inr (14, fs)), (s2, .inl (g 0, 256, .inl (fun _ => nI 0))), (s3, .inl (g 0, 256, .inl (fun _ => nI 0))), (s4, .inl (g 0, 1024, .inl (fun _ => nI 0))), (s5, .inl (g 0, 1024, .inl (fun _ => nI 0))), (ty, .inl (g 0, 1, .inl ft)), (s0, .inl (g 0, 256, .inl ((fun _ => nI 0)))), (s1, .inl (g 0, 256, .inl ((fun _ => nI 0))))] := hD
  subst hw
  refine tpst (w := [.ref s1, .ref h0]) rfl ?_
  refine kp (ci := 14) G iMo tMo tMo_ok nMo hP hD hS 0 rfl rfl 31 (by decide) q3095 rfl rfl rfl rfl (by rw [glen]; decide) d_Mo_signature_127 (fun H locs hP hD hS => ?_)
  rw [lset_same g1] at hP hD
  have hP : va_P D CL [(h0, .inr (14, fs)), (s2, .inl (g 0, 256, .inl (fun _ => nI 0))), (s3, .inl (g 0, 256, .inl (fun _ => nI 0))), (s4, .inl (g 0, 1024, .inl (fun _ => nI 0))), (s5, .inl (g 0, 1024, .inl (fun _ => nI 0))), (ty, .inl (g 0, 1, .inl ft)), (s0, .inl (g 0, 256, .inl ((fun _ => nI 0)))), (s1, .inl (g 0, 256, .inl ((fun _ => nI 0))))] H := hP
  have hD : va_D A [(h0, .inr (14, fs)), (s2, .inl (g 0, 256, .inl (fun _ => nI 0))), (s3, .inl (g 0, 256, .inl (fun _ => nI 0))), (s4, .inl (g 0, 1024, .inl (fun _ => nI 0))), (s5, .inl (g 0, 1024, .inl (fun _ => nI 0))), (ty, .inl (g 0, 1, .inl ft)), (s0, .inl (g 0, 256, .inl ((fun _ => nI 0)))), (s1, .inl (g 0, 256, .inl ((fun _ => nI 0))))] := hD
  refine lv_aload_n G.1 G.2.1 d_Mo_signature_130 rfl (lv_at hl 3 rfl) ?_
  refine lv_aload_n G.1 G.2.1 d_Mo_signature_131 rfl (lv_at hl 3 rfl) ?_
  refine kg (ci := 14) (v := .ref s2) G iMo hP 0 rfl rfl 32 (by decide) q3096 rfl g2 d_Mo_signature_132 ?_
  refine W.eq (g2 := F0 m 135 ls [.ref s2, .ref h0]) rfl ?_
  refine lv_aload_n G.1 G.2.1 d_Mo_signature_135 rfl (lv_at hl 3 rfl) ?_
  refine kg (ci := 14) (v := .int (nI 0)) G iMo hP 0 rfl rfl 36 (by decide) q3100 rfl g6 d_Mo_signature_136 ?_
  refine lv_iconst (v := nI 1) G.1 G.2.1 d_Mo_signature_139 (by decide) ?_
  refine lv_iadd G.1 G.2.1 d_Mo_signature_140 ?_
  refine tpi (w := nI 1) (by decide) ?_
  refine kEq (wr := [(h0, .inr (14, fs)), (s3, .inl (g 0, 256, .inl (fun _ => nI 0))), (s4, .inl (g 0, 1024, .inl (fun _ => nI 0))), (s5, .inl (g 0, 1024, .inl (fun _ => nI 0))), (ty, .inl (g 0, 1, .inl ft)), (s0, .inl (g 0, 256, .inl ((fun _ => nI 0)))), (s1, .inl (g 0, 256, .inl ((fun _ => nI 0))))]) G (kS (As := [.ref s2, .int (nI 1)]) (rest := [.ref h0]) G hP hD hS [1] rfl rfl (c_Mo_room l D g s2 1 256 (fun _ => nI 0) H.size (by decide) (by decide)) w_Mo_room q2596 rfl rfl ⟨Nat.le_of_ble_eq_true rfl, Nat.le_of_ble_eq_true rfl⟩ (fun _ h => absurd h List.not_mem_nil) hl.1 rfl (Nat.le_of_ble_eq_true rfl) rfl ⟨Nat.le_of_ble_eq_true rfl, (Nat.le_of_ble_eq_true rfl)⟩ d_Mo_signature_141) hP hD hS [1] [0, 2, 3, 4, 5, 6, 7] rfl rfl rfl rfl (fun r_5 u_6 H locs hw hP hD hS hzH => ?_)
  have hw : r_5 = some s2 := hw
  have hP : va_P D CL [(h0, .inr (14, fs)), (s3, .inl (g 0, 256, .inl (fun _ => nI 0))), (s4, .inl (g 0, 1024, .inl (fun _ => nI 0))), (s5, .inl (g 0, 1024, .inl (fun _ => nI 0))), (ty, .inl (g 0, 1, .inl ft)), (s0, .inl (g 0, 256, .inl ((fun _ => nI 0)))), (s1, .inl (g 0, 256, .inl ((fun _ => nI 0)))), (s2, .inl (g 0, 256, .inl ((fun _ => nI 0))))] H := hP
  have hD : va_D A [(h0, .inr (14, fs)), (s3, .inl (g 0, 256, .inl (fun _ => nI 0))), (s4, .inl (g 0, 1024, .inl (fun _ => nI 0))), (s5, .inl (g 0, 1024, .inl (fun _ => nI 0))), (ty, .inl (g 0, 1, .inl ft)), (s0, .inl (g 0, 256, .inl ((fun _ => nI 0)))), (s1, .inl (g 0, 256, .inl ((fun _ => nI 0)))), (s2, .inl (g 0, 256, .inl ((fun _ => nI 0))))] := hD
  subst hw
  refine tpst (w := [.ref s2, .ref h0]) rfl ?_
  refine kp (ci := 14) G iMo tMo tMo_ok nMo hP hD hS 0 rfl rfl 32 (by decide) q3096 rfl rfl rfl rfl (by rw [glen]; decide) d_Mo_signature_144 (fun H locs hP hD hS => ?_)
  rw [lset_same g2] at hP hD
  have hP : va_P D CL [(h0, .inr (14, fs)), (s3, .inl (g 0, 256, .inl (fun _ => nI 0))), (s4, .inl (g 0, 1024, .inl (fun _ => nI 0))), (s5, .inl (g 0, 1024, .inl (fun _ => nI 0))), (ty, .inl (g 0, 1, .inl ft)), (s0, .inl (g 0, 256, .inl ((fun _ => nI 0)))), (s1, .inl (g 0, 256, .inl ((fun _ => nI 0)))), (s2, .inl (g 0, 256, .inl ((fun _ => nI 0))))] H := hP
  have hD : va_D A [(h0, .inr (14, fs)), (s3, .inl (g 0, 256, .inl (fun _ => nI 0))), (s4, .inl (g 0, 1024, .inl (fun _ => nI 0))), (s5, .inl (g 0, 1024, .inl (fun _ => nI 0))), (ty, .inl (g 0, 1, .inl ft)), (s0, .inl (g 0, 256, .inl ((fun _ => nI 0)))), (s1, .inl (g 0, 256, .inl ((fun _ => nI 0)))), (s2, .inl (g 0, 256, .inl ((fun _ => nI 0))))] := hD
  refine lv_aload_n G.1 G.2.1 d_Mo_signature_147 rfl (lv_at hl 3 rfl) ?_
  refine lv_aload_n G.1 G.2.1 d_Mo_signature_148 rfl (lv_at hl 3 rfl) ?_
  refine kg (ci := 14) (v := .ref s3) G iMo hP 0 rfl rfl 33 (by decide) q3097 rfl g3 d_Mo_signature_149 ?_
  refine lv_aload_n G.1 G.2.1 d_Mo_signature_152 rfl (lv_at hl 3 rfl) ?_
  refine kg (ci := 14) (v := .int (nI 0)) G iMo hP 0 rfl rfl 36 (by decide) q3100 rfl g6 d_Mo_signature_153 ?_
  refine lv_iconst (v := nI 1) G.1 G.2.1 d_Mo_signature_156 (by decide) ?_
  refine W.eq (g2 := F0 m 157 ls [.int (nI 1), .int (nI 0), .ref s3, .ref h0]) rfl ?_
  refine lv_iadd G.1 G.2.1 d_Mo_signature_157 ?_
  refine tpi (w := nI 1) (by decide) ?_
  refine kEq (wr := [(h0, .inr (14, fs)), (s4, .inl (g 0, 1024, .inl (fun _ => nI 0))), (s5, .inl (g 0, 1024, .inl (fun _ => nI 0))), (ty, .inl (g 0, 1, .inl ft)), (s0, .inl (g 0, 256, .inl ((fun _ => nI 0)))), (s1, .inl (g 0, 256, .inl ((fun _ => nI 0)))), (s2, .inl (g 0, 256, .inl ((fun _ => nI 0))))]) G (kS (As := [.ref s3, .int (nI 1)]) (rest := [.ref h0]) G hP hD hS [1] rfl rfl (c_Mo_room l D g s3 1 256 (fun _ => nI 0) H.size (by decide) (by decide)) w_Mo_room q2596 rfl rfl ⟨Nat.le_of_ble_eq_true rfl, Nat.le_of_ble_eq_true rfl⟩ (fun _ h => absurd h List.not_mem_nil) hl.1 rfl (Nat.le_of_ble_eq_true rfl) rfl ⟨Nat.le_of_ble_eq_true rfl, (Nat.le_of_ble_eq_true rfl)⟩ d_Mo_signature_158) hP hD hS [1] [0, 2, 3, 4, 5, 6, 7] rfl rfl rfl rfl (fun r_7 u_8 H locs hw hP hD hS hzH => ?_)
  have hw : r_7 = some s3 := hw
  have hP : va_P D CL [(h0, .inr (14, fs)), (s4, .inl (g 0, 1024, .inl (fun _ => nI 0))), (s5, .inl (g 0, 1024, .inl (fun _ => nI 0))), (ty, .inl (g 0, 1, .inl ft)), (s0, .inl (g 0, 256, .inl ((fun _ => nI 0)))), (s1, .inl (g 0, 256, .inl ((fun _ => nI 0)))), (s2, .inl (g 0, 256, .inl ((fun _ => nI 0)))), (s3, .inl (g 0, 256, .inl ((fun _ => nI 0))))] H := hP
  have hD : va_D A [(h0, .inr (14, fs)), (s4, .inl (g 0, 1024, .inl (fun _ => nI 0))), (s5, .inl (g 0, 1024, .inl (fun _ => nI 0))), (ty, .inl (g 0, 1, .inl ft)), (s0, .inl (g 0, 256, .inl ((fun _ => nI 0)))), (s1, .inl (g 0, 256, .inl ((fun _ => nI 0)))), (s2, .inl (g 0, 256, .inl ((fun _ => nI 0)))), (s3, .inl (g 0, 256, .inl ((fun _ => nI 0))))] := hD
  subst hw
  refine tpst (w := [.ref s3, .ref h0]) rfl ?_
  refine kp (ci := 14) G iMo tMo tMo_ok nMo hP hD hS 0 rfl rfl 33 (by decide) q3097 rfl rfl rfl rfl (by rw [glen]; decide) d_Mo_signature_161 (fun H locs hP hD hS => ?_)
  rw [lset_same g3] at hP hD
  have hP : va_P D CL [(h0, .inr (14, fs)), (s4, .inl (g 0, 1024, .inl (fun _ => nI 0))), (s5, .inl (g 0, 1024, .inl (fun _ => nI 0))), (ty, .inl (g 0, 1, .inl ft)), (s0, .inl (g 0, 256, .inl ((fun _ => nI 0)))), (s1, .inl (g 0, 256, .inl ((fun _ => nI 0)))), (s2, .inl (g 0, 256, .inl ((fun _ => nI 0)))), (s3, .inl (g 0, 256, .inl ((fun _ => nI 0))))] H := hP
  have hD : va_D A [(h0, .inr (14, fs)), (s4, .inl (g 0, 1024, .inl (fun _ => nI 0))), (s5, .inl (g 0, 1024, .inl (fun _ => nI 0))), (ty, .inl (g 0, 1, .inl ft)), (s0, .inl (g 0, 256, .inl ((fun _ => nI 0)))), (s1, .inl (g 0, 256, .inl ((fun _ => nI 0)))), (s2, .inl (g 0, 256, .inl ((fun _ => nI 0)))), (s3, .inl (g 0, 256, .inl ((fun _ => nI 0))))] := hD
  refine lv_aload_n G.1 G.2.1 d_Mo_signature_164 rfl (lv_at hl 3 rfl) ?_
  refine lv_aload_n G.1 G.2.1 d_Mo_signature_165 rfl (lv_at hl 3 rfl) ?_
  refine kg (ci := 14) (v := .ref s5) G iMo hP 0 rfl rfl 35 (by decide) q3099 rfl g5 d_Mo_signature_166 ?_
  refine lv_aload_n G.1 G.2.1 d_Mo_signature_169 rfl (lv_at hl 3 rfl) ?_
  refine kg (ci := 14) (v := .int (nI 0)) G iMo hP 0 rfl rfl 37 (by decide) q3101 rfl g7 d_Mo_signature_170 ?_
  refine lv_iload_n G.1 G.2.1 d_Mo_signature_173 rfl (lv_at hl 5 rfl) ?_
  refine lv_iadd G.1 G.2.1 d_Mo_signature_174 ?_
  refine tpi (w := nI 0) (by decide) ?_
  refine kEq (wr := [(h0, .inr (14, fs)), (s4, .inl (g 0, 1024, .inl (fun _ => nI 0))), (ty, .inl (g 0, 1, .inl ft)), (s0, .inl (g 0, 256, .inl ((fun _ => nI 0)))), (s1, .inl (g 0, 256, .inl ((fun _ => nI 0)))), (s2, .inl (g 0, 256, .inl ((fun _ => nI 0)))), (s3, .inl (g 0, 256, .inl ((fun _ => nI 0))))]) G (kS (As := [.ref s5, .int (nI 0)]) (rest := [.ref h0]) G hP hD hS [2] rfl rfl (c_Mo_room l D g s5 0 1024 (fun _ => nI 0) H.size (by decide) (by decide)) w_Mo_room q2596 rfl rfl ⟨Nat.le_of_ble_eq_true rfl, Nat.le_of_ble_eq_true rfl⟩ (fun _ h => absurd h List.not_mem_nil) hl.1 rfl (Nat.le_of_ble_eq_true rfl) rfl ⟨Nat.le_of_ble_eq_true rfl, (Nat.le_of_ble_eq_true rfl)⟩ d_Mo_signature_175) hP hD hS [2] [0, 1, 3, 4, 5, 6, 7] rfl rfl rfl rfl (fun r_9 u_10 H locs hw hP hD hS hzH => ?_)
  have hw : r_9 = some s5 := hw
  have hP : va_P D CL [(h0, .inr (14, fs)), (s4, .inl (g 0, 1024, .inl (fun _ => nI 0))), (ty, .inl (g 0, 1, .inl ft)), (s0, .inl (g 0, 256, .inl ((fun _ => nI 0)))), (s1, .inl (g 0, 256, .inl ((fun _ => nI 0)))), (s2, .inl (g 0, 256, .inl ((fun _ => nI 0)))), (s3, .inl (g 0, 256, .inl ((fun _ => nI 0)))), (s5, .inl (g 0, 1024, .inl ((fun _ => nI 0))))] H := hP
  have hD : va_D A [(h0, .inr (14, fs)), (s4, .inl (g 0, 1024, .inl (fun _ => nI 0))), (ty, .inl (g 0, 1, .inl ft)), (s0, .inl (g 0, 256, .inl ((fun _ => nI 0)))), (s1, .inl (g 0, 256, .inl ((fun _ => nI 0)))), (s2, .inl (g 0, 256, .inl ((fun _ => nI 0)))), (s3, .inl (g 0, 256, .inl ((fun _ => nI 0)))), (s5, .inl (g 0, 1024, .inl ((fun _ => nI 0))))] := hD
  subst hw
  refine tpst (w := [.ref s5, .ref h0]) rfl ?_
  refine kp (ci := 14) G iMo tMo tMo_ok nMo hP hD hS 0 rfl rfl 35 (by decide) q3099 rfl rfl rfl rfl (by rw [glen]; decide) d_Mo_signature_178 (fun H locs hP hD hS => ?_)
  rw [lset_same g5] at hP hD
  have hP : va_P D CL [(h0, .inr (14, fs)), (s4, .inl (g 0, 1024, .inl (fun _ => nI 0))), (ty, .inl (g 0, 1, .inl ft)), (s0, .inl (g 0, 256, .inl ((fun _ => nI 0)))), (s1, .inl (g 0, 256, .inl ((fun _ => nI 0)))), (s2, .inl (g 0, 256, .inl ((fun _ => nI 0)))), (s3, .inl (g 0, 256, .inl ((fun _ => nI 0)))), (s5, .inl (g 0, 1024, .inl ((fun _ => nI 0))))] H := hP
  have hD : va_D A [(h0, .inr (14, fs)), (s4, .inl (g 0, 1024, .inl (fun _ => nI 0))), (ty, .inl (g 0, 1, .inl ft)), (s0, .inl (g 0, 256, .inl ((fun _ => nI 0)))), (s1, .inl (g 0, 256, .inl ((fun _ => nI 0)))), (s2, .inl (g 0, 256, .inl ((fun _ => nI 0)))), (s3, .inl (g 0, 256, .inl ((fun _ => nI 0)))), (s5, .inl (g 0, 1024, .inl ((fun _ => nI 0))))] := hD
  refine W.eq (g2 := F0 m 181 ls []) rfl ?_
  refine lv_aload_n G.1 G.2.1 d_Mo_signature_181 rfl (lv_at hl 4 rfl) ?_
  refine lv_iconst (v := nI 0) G.1 G.2.1 d_Mo_signature_182 (by decide) ?_
  refine lv_aload_n G.1 G.2.1 d_Mo_signature_183 rfl (lv_at hl 3 rfl) ?_
  refine kg (ci := 14) (v := .ref s5) G iMo hP 0 rfl rfl 35 (by decide) q3099 rfl g5 d_Mo_signature_184 ?_
  refine lv_aload_n G.1 G.2.1 d_Mo_signature_187 rfl (lv_at hl 3 rfl) ?_
  refine kg (ci := 14) (v := .int (nI 0)) G iMo hP 0 rfl rfl 37 (by decide) q3101 rfl g7 d_Mo_signature_188 ?_
  refine lv_iload_n G.1 G.2.1 d_Mo_signature_191 rfl (lv_at hl 5 rfl) ?_
  refine va_copyi (ty := .int) G.1 G.2.1 (G.2.2.1.trans hl.1.symm) G.2.2.2.2.2.2.1 (G.2.2.2.2.2.1 _ q2595) (G.2.2.2.2.2.1 _ q488) (G.2.2.2.2.2.1 _ q487) (G.2.2.2.2.2.1 _ q338) G.2.2.2.2.2.2.2.2.1 hP hD hS 2 7 0 0 rfl rfl rfl rfl rfl (nI_pos (by omega)) (nI_pos (by omega)) (nI_pos (by omega)) (by first | (rw [nI_clamp (by omega), nI_clamp (by omega)]; omega) | (rw [nI_clamp (by omega)]; omega)) (by first | (rw [nI_clamp (by omega), nI_clamp (by omega)]; omega) | (rw [nI_clamp (by omega)]; omega)) (fun _ _ => rfl) (Nat.le_of_ble_eq_true rfl) (Nat.le_of_ble_eq_true rfl) d_Mo_signature_192 (fun H locs hP hD hS => ?_)
  have hP : va_P D CL [(h0, .inr (14, fs)), (s4, .inl (g 0, 1024, .inl (fun _ => nI 0))), (ty, .inl (g 0, 1, .inl ft)), (s0, .inl (g 0, 256, .inl ((fun _ => nI 0)))), (s1, .inl (g 0, 256, .inl ((fun _ => nI 0)))), (s2, .inl (g 0, 256, .inl ((fun _ => nI 0)))), (s3, .inl (g 0, 256, .inl ((fun _ => nI 0)))), (s5, .inl (g 0, 1024, .inl (va_cpy ft ((fun _ => nI 0)) (nI 0).toNatClampNeg (nI 0).toNatClampNeg (nI 0).toNatClampNeg)))] H := hP
  have hD : va_D A [(h0, .inr (14, fs)), (s4, .inl (g 0, 1024, .inl (fun _ => nI 0))), (ty, .inl (g 0, 1, .inl ft)), (s0, .inl (g 0, 256, .inl ((fun _ => nI 0)))), (s1, .inl (g 0, 256, .inl ((fun _ => nI 0)))), (s2, .inl (g 0, 256, .inl ((fun _ => nI 0)))), (s3, .inl (g 0, 256, .inl ((fun _ => nI 0)))), (s5, .inl (g 0, 1024, .inl (va_cpy ft ((fun _ => nI 0)) (nI 0).toNatClampNeg (nI 0).toNatClampNeg (nI 0).toNatClampNeg)))] := hD
  refine lv_aload_n G.1 G.2.1 d_Mo_signature_195 rfl (lv_at hl 3 rfl) ?_
  refine kg (ci := 14) (v := .ref s0) G iMo hP 0 rfl rfl 30 (by decide) q3094 rfl g0 d_Mo_signature_196 ?_
  refine lv_aload_n G.1 G.2.1 d_Mo_signature_199 rfl (lv_at hl 3 rfl) ?_
  refine kg (ci := 14) (v := .int (nI 0)) G iMo hP 0 rfl rfl 36 (by decide) q3100 rfl g6 d_Mo_signature_200 ?_
  refine W.eq (g2 := F0 m 203 ls [.int (nI 0), .ref s0]) rfl ?_
  refine lv_aload_n G.1 G.2.1 d_Mo_signature_203 rfl (lv_at hl 3 rfl) ?_
  refine kg (ci := 14) (v := .int (nI 0)) G iMo hP 0 rfl rfl 37 (by decide) q3101 rfl g7 d_Mo_signature_204 ?_
  refine kiast G hP hD hS 3 0 rfl rfl (by omega) (by omega) d_Mo_signature_207 (fun H locs hP hD hS => ?_)
  have hP : va_P D CL [(h0, .inr (14, fs)), (s4, .inl (g 0, 1024, .inl (fun _ => nI 0))), (ty, .inl (g 0, 1, .inl ft)), (s0, .inl (g 0, 256, .inl (upd ((fun _ => nI 0)) 0 (nI 0)))), (s1, .inl (g 0, 256, .inl ((fun _ => nI 0)))), (s2, .inl (g 0, 256, .inl ((fun _ => nI 0)))), (s3, .inl (g 0, 256, .inl ((fun _ => nI 0)))), (s5, .inl (g 0, 1024, .inl (va_cpy ft ((fun _ => nI 0)) (nI 0).toNatClampNeg (nI 0).toNatClampNeg (nI 0).toNatClampNeg)))] H := hP
  have hD : va_D A [(h0, .inr (14, fs)), (s4, .inl (g 0, 1024, .inl (fun _ => nI 0))), (ty, .inl (g 0, 1, .inl ft)), (s0, .inl (g 0, 256, .inl (upd ((fun _ => nI 0)) 0 (nI 0)))), (s1, .inl (g 0, 256, .inl ((fun _ => nI 0)))), (s2, .inl (g 0, 256, .inl ((fun _ => nI 0)))), (s3, .inl (g 0, 256, .inl ((fun _ => nI 0)))), (s5, .inl (g 0, 1024, .inl (va_cpy ft ((fun _ => nI 0)) (nI 0).toNatClampNeg (nI 0).toNatClampNeg (nI 0).toNatClampNeg)))] := hD
  refine lv_aload_n G.1 G.2.1 d_Mo_signature_208 rfl (lv_at hl 3 rfl) ?_
  refine kg (ci := 14) (v := .ref s1) G iMo hP 0 rfl rfl 31 (by decide) q3095 rfl g1 d_Mo_signature_209 ?_
  refine lv_aload_n G.1 G.2.1 d_Mo_signature_212 rfl (lv_at hl 3 rfl) ?_
  refine kg (ci := 14) (v := .int (nI 0)) G iMo hP 0 rfl rfl 36 (by decide) q3100 rfl g6 d_Mo_signature_213 ?_
  refine lv_iload_n G.1 G.2.1 d_Mo_signature_216 rfl (lv_at hl 5 rfl) ?_
  refine kiast G hP hD hS 4 0 rfl rfl (by omega) (by omega) d_Mo_signature_217 (fun H locs hP hD hS => ?_)
  have hP : va_P D CL [(h0, .inr (14, fs)), (s4, .inl (g 0, 1024, .inl (fun _ => nI 0))), (ty, .inl (g 0, 1, .inl ft)), (s0, .inl (g 0, 256, .inl (upd ((fun _ => nI 0)) 0 (nI 0)))), (s1, .inl (g 0, 256, .inl (upd ((fun _ => nI 0)) 0 (nI 0)))), (s2, .inl (g 0, 256, .inl ((fun _ => nI 0)))), (s3, .inl (g 0, 256, .inl ((fun _ => nI 0)))), (s5, .inl (g 0, 1024, .inl (va_cpy ft ((fun _ => nI 0)) (nI 0).toNatClampNeg (nI 0).toNatClampNeg (nI 0).toNatClampNeg)))] H := hP
  have hD : va_D A [(h0, .inr (14, fs)), (s4, .inl (g 0, 1024, .inl (fun _ => nI 0))), (ty, .inl (g 0, 1, .inl ft)), (s0, .inl (g 0, 256, .inl (upd ((fun _ => nI 0)) 0 (nI 0)))), (s1, .inl (g 0, 256, .inl (upd ((fun _ => nI 0)) 0 (nI 0)))), (s2, .inl (g 0, 256, .inl ((fun _ => nI 0)))), (s3, .inl (g 0, 256, .inl ((fun _ => nI 0)))), (s5, .inl (g 0, 1024, .inl (va_cpy ft ((fun _ => nI 0)) (nI 0).toNatClampNeg (nI 0).toNatClampNeg (nI 0).toNatClampNeg)))] := hD
  refine lv_aload_n G.1 G.2.1 d_Mo_signature_218 rfl (lv_at hl 3 rfl) ?_
  refine kg (ci := 14) (v := .ref s2) G iMo hP 0 rfl rfl 32 (by decide) q3096 rfl g2 d_Mo_signature_219 ?_
  refine lv_aload_n G.1 G.2.1 d_Mo_signature_222 rfl (lv_at hl 3 rfl) ?_
  refine W.eq (g2 := F0 m 223 ls [.ref h0, .ref s2]) rfl ?_
  refine kg (ci := 14) (v := .int (nI 0)) G iMo hP 0 rfl rfl 36 (by decide) q3100 rfl g6 d_Mo_signature_223 ?_
  refine lv_iload_n G.1 G.2.1 d_Mo_signature_226 rfl (lv_at hl 6 rfl) ?_
  refine kiast G hP hD hS 5 0 rfl rfl (by omega) (by omega) d_Mo_signature_227 (fun H locs hP hD hS => ?_)
  have hP : va_P D CL [(h0, .inr (14, fs)), (s4, .inl (g 0, 1024, .inl (fun _ => nI 0))), (ty, .inl (g 0, 1, .inl ft)), (s0, .inl (g 0, 256, .inl (upd ((fun _ => nI 0)) 0 (nI 0)))), (s1, .inl (g 0, 256, .inl (upd ((fun _ => nI 0)) 0 (nI 0)))), (s2, .inl (g 0, 256, .inl (upd ((fun _ => nI 0)) 0 (nI 0)))), (s3, .inl (g 0, 256, .inl ((fun _ => nI 0)))), (s5, .inl (g 0, 1024, .inl (va_cpy ft ((fun _ => nI 0)) (nI 0).toNatClampNeg (nI 0).toNatClampNeg (nI 0).toNatClampNeg)))] H := hP
  have hD : va_D A [(h0, .inr (14, fs)), (s4, .inl (g 0, 1024, .inl (fun _ => nI 0))), (ty, .inl (g 0, 1, .inl ft)), (s0, .inl (g 0, 256, .inl (upd ((fun _ => nI 0)) 0 (nI 0)))), (s1, .inl (g 0, 256, .inl (upd ((fun _ => nI 0)) 0 (nI 0)))), (s2, .inl (g 0, 256, .inl (upd ((fun _ => nI 0)) 0 (nI 0)))), (s3, .inl (g 0, 256, .inl ((fun _ => nI 0)))), (s5, .inl (g 0, 1024, .inl (va_cpy ft ((fun _ => nI 0)) (nI 0).toNatClampNeg (nI 0).toNatClampNeg (nI 0).toNatClampNeg)))] := hD
  refine lv_aload_n G.1 G.2.1 d_Mo_signature_228 rfl (lv_at hl 3 rfl) ?_
  refine kg (ci := 14) (v := .ref s3) G iMo hP 0 rfl rfl 33 (by decide) q3097 rfl g3 d_Mo_signature_229 ?_
  refine lv_aload_n G.1 G.2.1 d_Mo_signature_232 rfl (lv_at hl 3 rfl) ?_
  refine kg (ci := 14) (v := .int (nI 0)) G iMo hP 0 rfl rfl 36 (by decide) q3100 rfl g6 d_Mo_signature_233 ?_
  refine lv_aload_n G.1 G.2.1 d_Mo_signature_236 rfl (lv_at hl 3 rfl) ?_
  refine kg (ci := 14) (v := .ref s4) G iMo hP 0 rfl rfl 34 (by decide) q3098 rfl g4 d_Mo_signature_237 ?_
  refine lv_iload G.1 G.2.1 d_Mo_signature_240 (lv_at hl 1 rfl) ?_
  refine kiald G hP 1 0 rfl rfl (by omega) (by omega) d_Mo_signature_242 ?_
  refine kiast G hP hD hS 6 0 rfl rfl (by omega) (by omega) d_Mo_signature_243 (fun H locs hP hD hS => ?_)
  have hP : va_P D CL [(h0, .inr (14, fs)), (s4, .inl (g 0, 1024, .inl (fun _ => nI 0))), (ty, .inl (g 0, 1, .inl ft)), (s0, .inl (g 0, 256, .inl (upd ((fun _ => nI 0)) 0 (nI 0)))), (s1, .inl (g 0, 256, .inl (upd ((fun _ => nI 0)) 0 (nI 0)))), (s2, .inl (g 0, 256, .inl (upd ((fun _ => nI 0)) 0 (nI 0)))), (s3, .inl (g 0, 256, .inl (upd ((fun _ => nI 0)) 0 ((fun _ => nI 0) 0)))), (s5, .inl (g 0, 1024, .inl (va_cpy ft ((fun _ => nI 0)) (nI 0).toNatClampNeg (nI 0).toNatClampNeg (nI 0).toNatClampNeg)))] H := hP
  have hD : va_D A [(h0, .inr (14, fs)), (s4, .inl (g 0, 1024, .inl (fun _ => nI 0))), (ty, .inl (g 0, 1, .inl ft)), (s0, .inl (g 0, 256, .inl (upd ((fun _ => nI 0)) 0 (nI 0)))), (s1, .inl (g 0, 256, .inl (upd ((fun _ => nI 0)) 0 (nI 0)))), (s2, .inl (g 0, 256, .inl (upd ((fun _ => nI 0)) 0 (nI 0)))), (s3, .inl (g 0, 256, .inl (upd ((fun _ => nI 0)) 0 ((fun _ => nI 0) 0)))), (s5, .inl (g 0, 1024, .inl (va_cpy ft ((fun _ => nI 0)) (nI 0).toNatClampNeg (nI 0).toNatClampNeg (nI 0).toNatClampNeg)))] := hD
  refine W.eq (g2 := F0 m 244 ls []) rfl ?_
  refine lv_aload_n G.1 G.2.1 d_Mo_signature_244 rfl (lv_at hl 3 rfl) ?_
  refine lv_dup G.1 G.2.1 d_Mo_signature_245 rfl ?_
  refine kg (ci := 14) (v := .int (nI 0)) G iMo hP 0 rfl rfl 37 (by decide) q3101 rfl g7 d_Mo_signature_246 ?_
  refine lv_iload_n G.1 G.2.1 d_Mo_signature_249 rfl (lv_at hl 5 rfl) ?_
  refine lv_iadd G.1 G.2.1 d_Mo_signature_250 ?_
  refine tpi (w := nI 0) (by decide) ?_
  refine kp (ci := 14) G iMo tMo tMo_ok nMo hP hD hS 0 rfl rfl 37 (by decide) q3101 rfl rfl rfl rfl (by rw [glen]; decide) d_Mo_signature_251 (fun H locs hP hD hS => ?_)
  rw [lset_same g7] at hP hD
  have hP : va_P D CL [(h0, .inr (14, fs)), (s4, .inl (g 0, 1024, .inl (fun _ => nI 0))), (ty, .inl (g 0, 1, .inl ft)), (s0, .inl (g 0, 256, .inl (upd ((fun _ => nI 0)) 0 (nI 0)))), (s1, .inl (g 0, 256, .inl (upd ((fun _ => nI 0)) 0 (nI 0)))), (s2, .inl (g 0, 256, .inl (upd ((fun _ => nI 0)) 0 (nI 0)))), (s3, .inl (g 0, 256, .inl (upd ((fun _ => nI 0)) 0 ((fun _ => nI 0) 0)))), (s5, .inl (g 0, 1024, .inl (va_cpy ft ((fun _ => nI 0)) (nI 0).toNatClampNeg (nI 0).toNatClampNeg (nI 0).toNatClampNeg)))] H := hP
  have hD : va_D A [(h0, .inr (14, fs)), (s4, .inl (g 0, 1024, .inl (fun _ => nI 0))), (ty, .inl (g 0, 1, .inl ft)), (s0, .inl (g 0, 256, .inl (upd ((fun _ => nI 0)) 0 (nI 0)))), (s1, .inl (g 0, 256, .inl (upd ((fun _ => nI 0)) 0 (nI 0)))), (s2, .inl (g 0, 256, .inl (upd ((fun _ => nI 0)) 0 (nI 0)))), (s3, .inl (g 0, 256, .inl (upd ((fun _ => nI 0)) 0 ((fun _ => nI 0) 0)))), (s5, .inl (g 0, 1024, .inl (va_cpy ft ((fun _ => nI 0)) (nI 0).toNatClampNeg (nI 0).toNatClampNeg (nI 0).toNatClampNeg)))] := hD
  refine lv_aload_n G.1 G.2.1 d_Mo_signature_254 rfl (lv_at hl 3 rfl) ?_
  refine lv_dup G.1 G.2.1 d_Mo_signature_255 rfl ?_
  refine kg (ci := 14) (v := .int (nI 0)) G iMo hP 0 rfl rfl 36 (by decide) q3100 rfl g6 d_Mo_signature_256 ?_
  refine lv_iconst (v := nI 1) G.1 G.2.1 d_Mo_signature_259 (by decide) ?_
  refine lv_iadd G.1 G.2.1 d_Mo_signature_260 ?_
  refine tpi (w := nI 1) (by decide) ?_
  refine kp (ci := 14) G iMo tMo tMo_ok nMo hP hD hS 0 rfl rfl 36 (by decide) q3100 rfl rfl rfl rfl (by rw [glen]; decide) d_Mo_signature_261 (fun H locs hP hD hS => ?_)
  have hP : va_P D CL [(h0, .inr (14, (fs.set 36 (.int (nI 1))))), (s4, .inl (g 0, 1024, .inl (fun _ => nI 0))), (ty, .inl (g 0, 1, .inl ft)), (s0, .inl (g 0, 256, .inl (upd ((fun _ => nI 0)) 0 (nI 0)))), (s1, .inl (g 0, 256, .inl (upd ((fun _ => nI 0)) 0 (nI 0)))), (s2, .inl (g 0, 256, .inl (upd ((fun _ => nI 0)) 0 (nI 0)))), (s3, .inl (g 0, 256, .inl (upd ((fun _ => nI 0)) 0 ((fun _ => nI 0) 0)))), (s5, .inl (g 0, 1024, .inl (va_cpy ft ((fun _ => nI 0)) (nI 0).toNatClampNeg (nI 0).toNatClampNeg (nI 0).toNatClampNeg)))] H := hP
  have hD : va_D A [(h0, .inr (14, (fs.set 36 (.int (nI 1))))), (s4, .inl (g 0, 1024, .inl (fun _ => nI 0))), (ty, .inl (g 0, 1, .inl ft)), (s0, .inl (g 0, 256, .inl (upd ((fun _ => nI 0)) 0 (nI 0)))), (s1, .inl (g 0, 256, .inl (upd ((fun _ => nI 0)) 0 (nI 0)))), (s2, .inl (g 0, 256, .inl (upd ((fun _ => nI 0)) 0 (nI 0)))), (s3, .inl (g 0, 256, .inl (upd ((fun _ => nI 0)) 0 ((fun _ => nI 0) 0)))), (s5, .inl (g 0, 1024, .inl (va_cpy ft ((fun _ => nI 0)) (nI 0).toNatClampNeg (nI 0).toNatClampNeg (nI 0).toNatClampNeg)))] := hD
  refine W.eq (g2 := F0 m 264 ls []) rfl ?_
  refine lv_aload_n G.1 G.2.1 d_Mo_signature_264 rfl (lv_at hl 3 rfl) ?_
  refine kg (ci := 14) (v := .ref s4) G iMo hP 0 rfl rfl 34 (by decide) q3098 rfl (lset_ne (by decide) g4) d_Mo_signature_265 ?_
  refine lv_iload G.1 G.2.1 d_Mo_signature_268 (lv_at hl 1 rfl) ?_
  refine lv_aload_n G.1 G.2.1 d_Mo_signature_270 rfl (lv_at hl 3 rfl) ?_
  refine kg (ci := 14) (v := .int (nI 1)) G iMo hP 0 rfl rfl 36 (by decide) q3100 rfl (lset_eq (by rw [glen]; decide)) d_Mo_signature_271 ?_
  refine kiast G hP hD hS 1 0 rfl rfl (by omega) (by omega) d_Mo_signature_274 (fun H locs hP hD hS => ?_)
  have hP : va_P D CL [(h0, .inr (14, (fs.set 36 (.int (nI 1))))), (s4, .inl (g 0, 1024, .inl (upd (fun _ => nI 0) 0 (nI 1)))), (ty, .inl (g 0, 1, .inl ft)), (s0, .inl (g 0, 256, .inl (upd ((fun _ => nI 0)) 0 (nI 0)))), (s1, .inl (g 0, 256, .inl (upd ((fun _ => nI 0)) 0 (nI 0)))), (s2, .inl (g 0, 256, .inl (upd ((fun _ => nI 0)) 0 (nI 0)))), (s3, .inl (g 0, 256, .inl (upd ((fun _ => nI 0)) 0 ((fun _ => nI 0) 0)))), (s5, .inl (g 0, 1024, .inl (va_cpy ft ((fun _ => nI 0)) (nI 0).toNatClampNeg (nI 0).toNatClampNeg (nI 0).toNatClampNeg)))] H := hP
  have hD : va_D A [(h0, .inr (14, (fs.set 36 (.int (nI 1))))), (s4, .inl (g 0, 1024, .inl (upd (fun _ => nI 0) 0 (nI 1)))), (ty, .inl (g 0, 1, .inl ft)), (s0, .inl (g 0, 256, .inl (upd ((fun _ => nI 0)) 0 (nI 0)))), (s1, .inl (g 0, 256, .inl (upd ((fun _ => nI 0)) 0 (nI 0)))), (s2, .inl (g 0, 256, .inl (upd ((fun _ => nI 0)) 0 (nI 0)))), (s3, .inl (g 0, 256, .inl (upd ((fun _ => nI 0)) 0 ((fun _ => nI 0) 0)))), (s5, .inl (g 0, 1024, .inl (va_cpy ft ((fun _ => nI 0)) (nI 0).toNatClampNeg (nI 0).toNatClampNeg (nI 0).toNatClampNeg)))] := hD
  refine lv_aload_n G.1 G.2.1 d_Mo_signature_275 rfl (lv_at hl 3 rfl) ?_
  refine kg (ci := 14) (v := .int (nI 1)) G iMo hP 0 rfl rfl 36 (by decide) q3100 rfl (lset_eq (by rw [glen]; decide)) d_Mo_signature_276 ?_
  refine lv_iconst (v := nI 1) G.1 G.2.1 d_Mo_signature_279 (by decide) ?_
  refine lv_isub G.1 G.2.1 d_Mo_signature_280 ?_
  refine tpi (w := nI 0) (by decide) ?_
  refine hret (nI 0) () _ _ _ _ _ ls trivial (hP.sub [0] rfl) (hD.sub [0] (by decide) rfl) hS (Nat.le_of_ble_eq_true rfl) (Nat.le_of_ble_eq_true rfl) d_Mo_signature_281
