theorem q2429 : Cond.methodLink "ClassWorks$Finder" 219 y_Fi_reachBy ∈ lw_ok := lw_okmem (List.mem_of_getElem? (i := 2429) (by decide +kernel)) rfl
theorem q2432 : Cond.code y_Fi_reachBy b_Fi_reachBy 10 (none) ∈ lw_ok := lw_okmem (List.mem_of_getElem? (i := 2432) (by decide +kernel)) rfl
theorem q2431 : Cond.instanceMethod y_Fi_reachBy ∈ lw_ok := lw_okmem (List.mem_of_getElem? (i := 2431) (by decide +kernel)) rfl
theorem q147 : Cond.selects y_Fi_reachBy.cls y_Fi_reachBy y_Fi_reachBy ∈ lw_ok := lw_okmem (List.mem_of_getElem? (i := 147) (by decide +kernel)) rfl
theorem w9_Fi_reachBy : CWv y_Fi_reachBy b_Fi_reachBy 10 (none) 4 ∧ Cond.instanceMethod y_Fi_reachBy ∈ lw_ok ∧ Cond.selects y_Fi_reachBy.cls y_Fi_reachBy y_Fi_reachBy ∈ lw_ok := ⟨⟨q2432, q342, by decide +kernel, by decide +kernel, by decide +kernel⟩, q2431, q147⟩
def y_Fi_reachFrom : MethodName := ⟨"ClassWorks$Finder", "reachFrom", "(LClassWorks$World;II)I"⟩
abbrev b_Fi_reachFrom : ByteArray := prog_3_method_23_code
theorem d_Fi_reachFrom_0 : decode b_Fi_reachFrom 0 = .ok (.aload_n 0, 1) := by decide +kernel
theorem d_Fi_reachFrom_1 : decode b_Fi_reachFrom 1 = .ok (.getfield 26, 3) := by decide +kernel
theorem d_Fi_reachFrom_4 : decode b_Fi_reachFrom 4 = .ok (.iconst 0, 1) := by decide +kernel
theorem d_Fi_reachFrom_5 : decode b_Fi_reachFrom 5 = .ok (.putfield 154, 3) := by decide +kernel
theorem d_Fi_reachFrom_8 : decode b_Fi_reachFrom 8 = .ok (.aload_n 0, 1) := by decide +kernel
theorem d_Fi_reachFrom_9 : decode b_Fi_reachFrom 9 = .ok (.getfield 26, 3) := by decide +kernel
theorem d_Fi_reachFrom_12 : decode b_Fi_reachFrom 12 = .ok (.bipush 100, 2) := by decide +kernel
theorem d_Fi_reachFrom_14 : decode b_Fi_reachFrom 14 = .ok (.iload_n 2, 1) := by decide +kernel
theorem d_Fi_reachFrom_15 : decode b_Fi_reachFrom 15 = .ok (.imul, 1) := by decide +kernel
theorem d_Fi_reachFrom_16 : decode b_Fi_reachFrom 16 = .ok (.iload_n 3, 1) := by decide +kernel
theorem d_Fi_reachFrom_17 : decode b_Fi_reachFrom 17 = .ok (.iadd, 1) := by decide +kernel
theorem d_Fi_reachFrom_18 : decode b_Fi_reachFrom 18 = .ok (.invokevirtual 160, 3) := by decide +kernel
theorem d_Fi_reachFrom_21 : decode b_Fi_reachFrom 21 = .ok (.pop, 1) := by decide +kernel
theorem d_Fi_reachFrom_22 : decode b_Fi_reachFrom 22 = .ok (.iconst 0, 1) := by decide +kernel
theorem d_Fi_reachFrom_23 : decode b_Fi_reachFrom 23 = .ok (.istore 4, 2) := by decide +kernel
theorem d_Fi_reachFrom_25 : decode b_Fi_reachFrom 25 = .ok (.iload 4, 2) := by decide +kernel
theorem d_Fi_reachFrom_27 : decode b_Fi_reachFrom 27 = .ok (.aload_n 0, 1) := by decide +kernel
theorem d_Fi_reachFrom_28 : decode b_Fi_reachFrom 28 = .ok (.getfield 26, 3) := by decide +kernel
theorem d_Fi_reachFrom_31 : decode b_Fi_reachFrom 31 = .ok (.getfield 154, 3) := by decide +kernel
theorem d_Fi_reachFrom_34 : decode b_Fi_reachFrom 34 = .ok (.if_icmp .ge 73, 3) := by decide +kernel
theorem d_Fi_reachFrom_37 : decode b_Fi_reachFrom 37 = .ok (.aload_n 0, 1) := by decide +kernel
theorem d_Fi_reachFrom_38 : decode b_Fi_reachFrom 38 = .ok (.getfield 26, 3) := by decide +kernel
theorem d_Fi_reachFrom_41 : decode b_Fi_reachFrom 41 = .ok (.getfield 163, 3) := by decide +kernel
theorem d_Fi_reachFrom_44 : decode b_Fi_reachFrom 44 = .ok (.iload 4, 2) := by decide +kernel
theorem d_Fi_reachFrom_46 : decode b_Fi_reachFrom 46 = .ok (.iaload, 1) := by decide +kernel
theorem d_Fi_reachFrom_47 : decode b_Fi_reachFrom 47 = .ok (.bipush 100, 2) := by decide +kernel
theorem d_Fi_reachFrom_49 : decode b_Fi_reachFrom 49 = .ok (.idiv, 1) := by decide +kernel
theorem d_Fi_reachFrom_50 : decode b_Fi_reachFrom 50 = .ok (.istore 5, 2) := by decide +kernel
theorem d_Fi_reachFrom_52 : decode b_Fi_reachFrom 52 = .ok (.aload_n 0, 1) := by decide +kernel
theorem d_Fi_reachFrom_53 : decode b_Fi_reachFrom 53 = .ok (.getfield 26, 3) := by decide +kernel
theorem d_Fi_reachFrom_56 : decode b_Fi_reachFrom 56 = .ok (.getfield 163, 3) := by decide +kernel
theorem d_Fi_reachFrom_59 : decode b_Fi_reachFrom 59 = .ok (.iload 4, 2) := by decide +kernel
theorem d_Fi_reachFrom_61 : decode b_Fi_reachFrom 61 = .ok (.iaload, 1) := by decide +kernel
theorem d_Fi_reachFrom_62 : decode b_Fi_reachFrom 62 = .ok (.bipush 100, 2) := by decide +kernel
theorem d_Fi_reachFrom_64 : decode b_Fi_reachFrom 64 = .ok (.irem, 1) := by decide +kernel
theorem d_Fi_reachFrom_65 : decode b_Fi_reachFrom 65 = .ok (.istore 6, 2) := by decide +kernel
theorem d_Fi_reachFrom_67 : decode b_Fi_reachFrom 67 = .ok (.iconst 0, 1) := by decide +kernel
theorem d_Fi_reachFrom_68 : decode b_Fi_reachFrom 68 = .ok (.istore 7, 2) := by decide +kernel
theorem d_Fi_reachFrom_70 : decode b_Fi_reachFrom 70 = .ok (.iload 7, 2) := by decide +kernel
theorem d_Fi_reachFrom_72 : decode b_Fi_reachFrom 72 = .ok (.aload_n 1, 1) := by decide +kernel
theorem d_Fi_reachFrom_73 : decode b_Fi_reachFrom 73 = .ok (.iload 5, 2) := by decide +kernel
theorem d_Fi_reachFrom_75 : decode b_Fi_reachFrom 75 = .ok (.iload 6, 2) := by decide +kernel
theorem d_Fi_reachFrom_77 : decode b_Fi_reachFrom 77 = .ok (.iconst 5, 1) := by decide +kernel
theorem d_Fi_reachFrom_78 : decode b_Fi_reachFrom 78 = .ok (.invokevirtual 100, 3) := by decide +kernel
theorem d_Fi_reachFrom_81 : decode b_Fi_reachFrom 81 = .ok (.if_icmp .ge 20, 3) := by decide +kernel
theorem d_Fi_reachFrom_84 : decode b_Fi_reachFrom 84 = .ok (.aload_n 0, 1) := by decide +kernel
theorem d_Fi_reachFrom_85 : decode b_Fi_reachFrom 85 = .ok (.aload_n 1, 1) := by decide +kernel
theorem d_Fi_reachFrom_86 : decode b_Fi_reachFrom 86 = .ok (.iload 5, 2) := by decide +kernel
theorem d_Fi_reachFrom_88 : decode b_Fi_reachFrom 88 = .ok (.iload 6, 2) := by decide +kernel
theorem d_Fi_reachFrom_90 : decode b_Fi_reachFrom 90 = .ok (.iload 7, 2) := by decide +kernel
theorem d_Fi_reachFrom_92 : decode b_Fi_reachFrom 92 = .ok (.invokevirtual 219, 3) := by decide +kernel
theorem d_Fi_reachFrom_95 : decode b_Fi_reachFrom 95 = .ok (.iinc 7 1, 3) := by decide +kernel
theorem d_Fi_reachFrom_98 : decode b_Fi_reachFrom 98 = .ok (.goto (-28), 3) := by decide +kernel
theorem d_Fi_reachFrom_101 : decode b_Fi_reachFrom 101 = .ok (.iinc 4 1, 3) := by decide +kernel
theorem d_Fi_reachFrom_104 : decode b_Fi_reachFrom 104 = .ok (.goto (-79), 3) := by decide +kernel
theorem d_Fi_reachFrom_107 : decode b_Fi_reachFrom 107 = .ok (.aload_n 0, 1) := by decide +kernel
theorem d_Fi_reachFrom_108 : decode b_Fi_reachFrom 108 = .ok (.getfield 26, 3) := by decide +kernel
theorem d_Fi_reachFrom_111 : decode b_Fi_reachFrom 111 = .ok (.getfield 154, 3) := by decide +kernel
theorem d_Fi_reachFrom_114 : decode b_Fi_reachFrom 114 = .ok (.ireturn, 1) := by decide +kernel
abbrev ra_Fi_reachFrom (mc ms : Nat) : Room := { frames := 10, cells := mc, slots := ms, locals := 555 }
def wba_Fi_reachFrom_70 (mc ms : Nat) (Post : Ly → St → Int32 → Nat → Nat → Prop) (K_25 : Ly → St → Nat → Nat → Int32 → Prop) (K_70 : Ly → St → Nat → Nat → Int32 → Int32 → Int32 → Int32 → Prop) (a0 : Nat) (a1 : Nat) (y_h70 : Ly) (s_h70 : St) (d_h70 e_h70 : Nat) (x4h70 : Int32) (x5h70 : Int32) (x6h70 : Int32) (x7h70 : Int32) : Prop := (d_h70 ≤ mc ∧ e_h70 ≤ ms) ∧ wu_Wd_method y_h70 (fun (s_13 : St) (r_12 : Int32) => ((r_12 ≤ x7h70 → K_25 y_h70 s_13 d_h70 e_h70 (x4h70 + 1)) ∧ (¬ (r_12 ≤ x7h70) → ∃ mc_19 ms_20 : Nat, (d_h70 + mc_19 ≤ mc ∧ e_h70 + ms_20 ≤ ms) ∧ wa_Fi_reachBy mc_19 ms_20 y_h70 (fun (y_16 : Ly) (s_15 : St) (d_17 e_18 : Nat) => (d_h70 + d_17 ≤ mc ∧ e_h70 + e_18 ≤ ms) ∧ K_70 y_16 s_15 (d_h70 + d_17) (e_h70 + e_18) x4h70 x5h70 x6h70 (x7h70 + 1)) s_13 a0 a1 x5h70 x6h70 x7h70))) s_h70 a1 x5h70 x6h70 5
def wla_Fi_reachFrom_70 (mc ms : Nat) (Post : Ly → St → Int32 → Nat → Nat → Prop) (K_25 : Ly → St → Nat → Nat → Int32 → Prop) (a0 : Nat) (a1 : Nat) (y_h70 : Ly) (s_h70 : St) (d_h70 e_h70 : Nat) (x4h70 : Int32) (x5h70 : Int32) (x6h70 : Int32) (x7h70 : Int32) : Prop := ∃ (I : Ly → St → Nat → Nat → Int32 → Int32 → Int32 → Int32 → Prop) (μ : Ly → St → Nat → Nat → Int32 → Int32 → Int32 → Int32 → Nat), I y_h70 s_h70 d_h70 e_h70 x4h70 x5h70 x6h70 x7h70 ∧ ∀ (u1 : Ly) (u2 : St) (u3 u4 : Nat) (t0 : Int32) (t1 : Int32) (t2 : Int32) (t3 : Int32), I u1 u2 u3 u4 t0 t1 t2 t3 → wba_Fi_reachFrom_70 mc ms Post K_25 (fun z1 z2 z3 z4 t0q t1q t2q t3q => I z1 z2 z3 z4 t0q t1q t2q t3q ∧ μ z1 z2 z3 z4 t0q t1q t2q t3q < μ u1 u2 u3 u4 t0 t1 t2 t3) a0 a1 u1 u2 u3 u4 t0 t1 t2 t3
def wba_Fi_reachFrom_25 (mc ms : Nat) (Post : Ly → St → Int32 → Nat → Nat → Prop) (K_25 : Ly → St → Nat → Nat → Int32 → Prop) (a0 : Nat) (a1 : Nat) (y_h25 : Ly) (s_h25 : St) (d_h25 e_h25 : Nat) (x4h25 : Int32) : Prop := (d_h25 ≤ mc ∧ e_h25 ≤ ms) ∧ (((sV s_h25 (lk a0 3) 1) ≤ x4h25 → Post y_h25 s_h25 (sV s_h25 (lk a0 3) 1) d_h25 e_h25) ∧ (¬ ((sV s_h25 (lk a0 3) 1) ≤ x4h25) → xA y_h25 s_h25 (lk a0 3) 0 x4h25 (fun x_10 : Int32 => xA y_h25 s_h25 (lk a0 3) 0 x4h25 (fun x_11 : Int32 => wla_Fi_reachFrom_70 mc ms Post K_25 a0 a1 y_h25 s_h25 d_h25 e_h25 x4h25 (x_10 / 100) (x_11 - x_11 / 100 * 100) 0))))
def wla_Fi_reachFrom_25 (mc ms : Nat) (Post : Ly → St → Int32 → Nat → Nat → Prop) (a0 : Nat) (a1 : Nat) (y_h25 : Ly) (s_h25 : St) (d_h25 e_h25 : Nat) (x4h25 : Int32) : Prop := ∃ (I : Ly → St → Nat → Nat → Int32 → Prop) (μ : Ly → St → Nat → Nat → Int32 → Nat), I y_h25 s_h25 d_h25 e_h25 x4h25 ∧ ∀ (u1 : Ly) (u2 : St) (u3 u4 : Nat) (t0 : Int32), I u1 u2 u3 u4 t0 → wba_Fi_reachFrom_25 mc ms Post (fun z1 z2 z3 z4 t0q => I z1 z2 z3 z4 t0q ∧ μ z1 z2 z3 z4 t0q < μ u1 u2 u3 u4 t0) a0 a1 u1 u2 u3 u4 t0
def wa_Fi_reachFrom (mc ms : Nat) (y : Ly) (Post : Ly → St → Int32 → Nat → Nat → Prop) (σ : St) (a0 : Nat) (a1 : Nat) (v2 : Int32) (v3 : Int32) : Prop := xP (uV σ (lk a0 3) 1 0) (fun s_1 : St => ∃ mc_7 ms_8 : Nat, (0 + mc_7 ≤ mc ∧ 0 + ms_8 ≤ ms) ∧ wa_In_add mc_7 ms_8 y (fun (y_4 : Ly) (s_3 : St) (r_2 : Int32) (d_5 e_6 : Nat) => (0 + d_5 ≤ mc ∧ 0 + e_6 ≤ ms) ∧ wla_Fi_reachFrom_25 mc ms Post a0 a1 y_4 s_3 (0 + d_5) (0 + e_6) 0) s_1 (lk a0 3) ((100 * v2) + v3))
set_option maxHeartbeats 4000000 in
set_option maxRecDepth 100000 in
theorem ca_Fi_reachFrom (l : Launch) (D : va_G) (g : Nat → ClassId) (F : Nat → SL) (sl : List SL) (hF : SOK F sl) (ad : Nat → Nat) (mc ms : Nat) (y : Ly) (Post : Ly → St → Int32 → Nat → Nat → Prop) (σ : St) (a0 : Nat) (a1 : Nat) (v2 : Int32) (v3 : Int32) (sz uz : Nat) (h_a0 : cl a0 = 1) (h_a1 : cl a1 = 9) (h : wa_Fi_reachFrom mc ms y Post σ a0 a1 v2 v3) : Met l y_Fi_reachFrom (mw y_Fi_reachFrom b_Fi_reachFrom 8 (some .int)) (ra_Fi_reachFrom mc ms) (PCu g D sl [.ref (ad a0), .ref (ad a1), .int v2, .int v3] sz uz (ws g ad y σ)) (va_Qi (fun (r : Int32) (u : Ly × St × Nat × Nat) => Post u.1 u.2.1 r u.2.2.1 u.2.2.2) (QU D (va_A (ws g ad y σ) sz) (fun u => ws g ad u.1 u.2.1) sz uz (fun u => u.2.2.1) (fun u => u.2.2.2)) (va_A (ws g ad y σ) sz)) mc ms (va_A (ws g ad y σ) sz) := by
  refine ofIu (by decide +kernel) (Nat.le_of_ble_eq_true rfl) ?_
  intro p e s m args below meth c A Q ls H locs G hsz hP hD hS hl hret
  subst hsz
  have hl : lv_has ls 8 [(0, .ref (ad a0)), (1, .ref (ad a1)), (2, .int v2), (3, .int v3)] := hl
  have hd : 0 ≤ mc ∧ 0 ≤ ms := ⟨Nat.zero_le _, Nat.zero_le _⟩
  unfold wa_Fi_reachFrom at h
  refine lv_aload_n G.1 G.2.1 d_Fi_reachFrom_0 rfl (lv_at hl 0 rfl) ?_
  refine ugf (v := .ref (ad (lk a0 3))) G hP h_a0 iFi rfl 3 (by decide) rfl q734 rfl rfl d_Fi_reachFrom_1 ?_
  refine lv_iconst (v := 0) G.1 G.2.1 d_Fi_reachFrom_4 (by decide) ?_
  refine upf G hP hD hS h 1 putV (lk_1_3 h_a0) iIn tIn tIn_ok nIn rfl (by decide) rfl q394 rfl rfl fV rfl rfl d_Fi_reachFrom_5 (fun s_1 H locs h hP hD hS => ?_)
  refine lv_aload_n G.1 G.2.1 d_Fi_reachFrom_8 rfl (lv_at hl 0 rfl) ?_
  refine ugf (v := .ref (ad (lk a0 3))) G hP h_a0 iFi rfl 3 (by decide) rfl q734 rfl rfl d_Fi_reachFrom_9 ?_
  refine lv_bipush (v := 100) G.1 G.2.1 d_Fi_reachFrom_12 (by decide) ?_
  refine lv_iload_n G.1 G.2.1 d_Fi_reachFrom_14 rfl (lv_at hl 2 rfl) ?_
  refine lv_imul G.1 G.2.1 d_Fi_reachFrom_15 ?_
  refine lv_iload_n G.1 G.2.1 d_Fi_reachFrom_16 rfl (lv_at hl 3 rfl) ?_
  refine lv_iadd G.1 G.2.1 d_Fi_reachFrom_17 ?_
  refine W.eq (g2 := F0 m 18 ls [.int ((100 * v2) + v3), .ref (ad (lk a0 3))]) rfl ?_
  obtain ⟨mc_7, ms_8, hr_9, h⟩ := h
  refine uaVi (As := [.int ((100 * v2) + v3)]) (rest := []) G hP hD hS (ca_In_add l D g [] ad mc_7 ms_8 y _ s_1 (lk a0 3) ((100 * v2) + v3) H.size (us H) (lk_1_3 h_a0) h) w9_In_add q1718 ⟨Nat.le_of_ble_eq_true rfl, Nat.le_of_ble_eq_true rfl⟩ rfl rfl (lk_1_3 h_a0) (q := (RIn, TIn, 2)) rfl rfl hl.1 rfl (Nat.le_of_ble_eq_true rfl) rfl hr_9 d_Fi_reachFrom_18 (fun r_2 y_4 s_3 d_5 e_6 H locs h hP hD hS => ?_)
  have hl := lv_sub (l' := [(0, .ref (ad a0)), (1, .ref (ad a1))]) hl [0, 1] rfl
  obtain ⟨hd, h⟩ := h
  refine lv_pop G.1 G.2.1 d_Fi_reachFrom_21 rfl ?_
  refine lv_iconst (v := 0) G.1 G.2.1 d_Fi_reachFrom_22 (by decide) ?_
  refine lv_istore (lv' := [(4, .int 0), (0, .ref (ad a0)), (1, .ref (ad a1))]) G.1 G.2.1 d_Fi_reachFrom_23 hl (by decide) rfl (fun ls hl => ?_)
  unfold wla_Fi_reachFrom_25 at h
  obtain ⟨I_25, μ_25, hI_25, hB_25⟩ := h
  have L_25 : ∀ (n_25 : Nat) (y_h25 : Ly) (s_h25 : St) (d_h25 e_h25 : Nat) (x4h25 : Int32), μ_25 y_h25 s_h25 d_h25 e_h25 x4h25 < n_25 → I_25 y_h25 s_h25 d_h25 e_h25 x4h25 → ∀ (H : Heap) (locs : List Loc), va_P D CL (ws g ad y_h25 s_h25) H → va_D A (ws g ad y_h25 s_h25) → va_S A s.heap H locs → ∀ ls, lv_has ls 8 [(0, .ref (ad a0)), (1, .ref (ad a1)), (4, .int x4h25)] → W p l e (ra_Fi_reachFrom mc ms) s m args below meth c H locs d_h25 e_h25 Q (F0 m 25 ls []) := by
    intro n_25
    induction n_25 with
    | zero => intro y_h25 s_h25 d_h25 e_h25 x4h25 hμ; exact absurd hμ (Nat.not_lt_zero _)
    | succ n_25 ih_25 =>
      intro y_h25 s_h25 d_h25 e_h25 x4h25 hμ_25 hJ H locs hP hD hS ls hl
      obtain ⟨K_25, hK_25, h⟩ : ∃ K : Ly → St → Nat → Nat → Int32 → Prop, (∀ z1 z2 z3 z4 (t0 : Int32), K z1 z2 z3 z4 t0 → I_25 z1 z2 z3 z4 t0 ∧ μ_25 z1 z2 z3 z4 t0 < μ_25 y_h25 s_h25 d_h25 e_h25 x4h25) ∧ wba_Fi_reachFrom_25 mc ms Post K a0 a1 y_h25 s_h25 d_h25 e_h25 x4h25 := ⟨_, fun _ _ _ _ _ h => h, hB_25 y_h25 s_h25 d_h25 e_h25 x4h25 hJ⟩
      unfold wba_Fi_reachFrom_25 at h
      obtain ⟨hd, h⟩ := h
      refine lv_iload G.1 G.2.1 d_Fi_reachFrom_25 (lv_at hl 2 rfl) ?_
      refine lv_aload_n G.1 G.2.1 d_Fi_reachFrom_27 rfl (lv_at hl 0 rfl) ?_
      refine ugf (v := .ref (ad (lk a0 3))) G hP h_a0 iFi rfl 3 (by decide) rfl q734 rfl rfl d_Fi_reachFrom_28 ?_
      refine ugf (v := .int (sV s_h25 (lk a0 3) 1)) G hP (lk_1_3 h_a0) iIn rfl 1 (by decide) rfl q394 rfl rfl d_Fi_reachFrom_31 ?_
      refine lv_icmp_ge (tgt := 107) G.1 G.2.1 d_Fi_reachFrom_34 (by decide) (fun c34 => ?_) (fun c34 => ?_)
      · skip
        have h := h.1 c34
        refine lv_aload_n G.1 G.2.1 d_Fi_reachFrom_107 rfl (lv_at hl 0 rfl) ?_
        refine ugf (v := .ref (ad (lk a0 3))) G hP h_a0 iFi rfl 3 (by decide) rfl q734 rfl rfl d_Fi_reachFrom_108 ?_
        refine ugf (v := .int (sV s_h25 (lk a0 3) 1)) G hP (lk_1_3 h_a0) iIn rfl 1 (by decide) rfl q394 rfl rfl d_Fi_reachFrom_111 ?_
        exact hret _ (y_h25, s_h25, d_h25, e_h25) _ _ _ _ _ ls h hP hD hS (Nat.le_refl _) (Nat.le_refl _) hd.1 hd.2 d_Fi_reachFrom_114
      · skip
        have h := h.2 c34
        refine lv_aload_n G.1 G.2.1 d_Fi_reachFrom_37 rfl (lv_at hl 0 rfl) ?_
        refine ugf (v := .ref (ad (lk a0 3))) G hP h_a0 iFi rfl 3 (by decide) rfl q734 rfl rfl d_Fi_reachFrom_38 ?_
        refine ugf (v := .ref (yP y_h25 (lk a0 3) 0)) G hP (lk_1_3 h_a0) iIn rfl 0 (by decide) rfl q383 rfl rfl d_Fi_reachFrom_41 ?_
        refine lv_iload G.1 G.2.1 d_Fi_reachFrom_44 (lv_at hl 2 rfl) ?_
        refine uiald G hP (kdp (lk_1_3 h_a0) rfl) (typ (lk_1_3 h_a0) rfl) h d_Fi_reachFrom_46 (fun x_10 h => ?_)
        refine lv_bipush (v := 100) G.1 G.2.1 d_Fi_reachFrom_47 (by decide) ?_
        refine W.eq (g2 := F0 m 49 ls [.int 100, .int x_10]) rfl ?_
        refine lv_idiv G.1 G.2.1 d_Fi_reachFrom_49 (by decide) ?_
        refine lv_istore (lv' := [(5, .int (x_10 / 100)), (0, .ref (ad a0)), (1, .ref (ad a1)), (4, .int x4h25)]) G.1 G.2.1 d_Fi_reachFrom_50 hl (by decide) rfl (fun ls hl => ?_)
        refine lv_aload_n G.1 G.2.1 d_Fi_reachFrom_52 rfl (lv_at hl 1 rfl) ?_
        refine ugf (v := .ref (ad (lk a0 3))) G hP h_a0 iFi rfl 3 (by decide) rfl q734 rfl rfl d_Fi_reachFrom_53 ?_
        refine ugf (v := .ref (yP y_h25 (lk a0 3) 0)) G hP (lk_1_3 h_a0) iIn rfl 0 (by decide) rfl q383 rfl rfl d_Fi_reachFrom_56 ?_
        refine lv_iload G.1 G.2.1 d_Fi_reachFrom_59 (lv_at hl 3 rfl) ?_
        refine uiald G hP (kdp (lk_1_3 h_a0) rfl) (typ (lk_1_3 h_a0) rfl) h d_Fi_reachFrom_61 (fun x_11 h => ?_)
        refine lv_bipush (v := 100) G.1 G.2.1 d_Fi_reachFrom_62 (by decide) ?_
        refine lv_irem G.1 G.2.1 d_Fi_reachFrom_64 (by decide) ?_
        refine lv_istore (lv' := [(6, .int (x_11 - x_11 / 100 * 100)), (5, .int (x_10 / 100)), (0, .ref (ad a0)), (1, .ref (ad a1)), (4, .int x4h25)]) G.1 G.2.1 d_Fi_reachFrom_65 hl (by decide) rfl (fun ls hl => ?_)
        refine lv_iconst (v := 0) G.1 G.2.1 d_Fi_reachFrom_67 (by decide) ?_
        refine lv_istore (lv' := [(7, .int 0), (6, .int (x_11 - x_11 / 100 * 100)), (5, .int (x_10 / 100)), (0, .ref (ad a0)), (1, .ref (ad a1)), (4, .int x4h25)]) G.1 G.2.1 d_Fi_reachFrom_68 hl (by decide) rfl (fun ls hl => ?_)
        unfold wla_Fi_reachFrom_70 at h
        obtain ⟨I_70, μ_70, hI_70, hB_70⟩ := h
        have L_70 : ∀ (n_70 : Nat) (y_h70 : Ly) (s_h70 : St) (d_h70 e_h70 : Nat) (x4h70 : Int32) (x5h70 : Int32) (x6h70 : Int32) (x7h70 : Int32), μ_70 y_h70 s_h70 d_h70 e_h70 x4h70 x5h70 x6h70 x7h70 < n_70 → I_70 y_h70 s_h70 d_h70 e_h70 x4h70 x5h70 x6h70 x7h70 → ∀ (H : Heap) (locs : List Loc), va_P D CL (ws g ad y_h70 s_h70) H → va_D A (ws g ad y_h70 s_h70) → va_S A s.heap H locs → ∀ ls, lv_has ls 8 [(0, .ref (ad a0)), (1, .ref (ad a1)), (4, .int x4h70), (5, .int x5h70), (6, .int x6h70), (7, .int x7h70)] → W p l e (ra_Fi_reachFrom mc ms) s m args below meth c H locs d_h70 e_h70 Q (F0 m 70 ls []) := by
          intro n_70
          induction n_70 with
          | zero => intro y_h70 s_h70 d_h70 e_h70 x4h70 x5h70 x6h70 x7h70 hμ; exact absurd hμ (Nat.not_lt_zero _)
          | succ n_70 ih_70 =>
            intro y_h70 s_h70 d_h70 e_h70 x4h70 x5h70 x6h70 x7h70 hμ_70 hJ H locs hP hD hS ls hl
            obtain ⟨K_70, hK_70, h⟩ : ∃ K : Ly → St → Nat → Nat → Int32 → Int32 → Int32 → Int32 → Prop, (∀ z1 z2 z3 z4 (t0 : Int32) (t1 : Int32) (t2 : Int32) (t3 : Int32), K z1 z2 z3 z4 t0 t1 t2 t3 → I_70 z1 z2 z3 z4 t0 t1 t2 t3 ∧ μ_70 z1 z2 z3 z4 t0 t1 t2 t3 < μ_70 y_h70 s_h70 d_h70 e_h70 x4h70 x5h70 x6h70 x7h70) ∧ wba_Fi_reachFrom_70 mc ms Post K_25 K a0 a1 y_h70 s_h70 d_h70 e_h70 x4h70 x5h70 x6h70 x7h70 := ⟨_, fun _ _ _ _ _ _ _ _ h => h, hB_70 y_h70 s_h70 d_h70 e_h70 x4h70 x5h70 x6h70 x7h70 hJ⟩
            unfold wba_Fi_reachFrom_70 at h
            obtain ⟨hd, h⟩ := h
            refine lv_iload G.1 G.2.1 d_Fi_reachFrom_70 (lv_at hl 5 rfl) ?_
            refine lv_aload_n G.1 G.2.1 d_Fi_reachFrom_72 rfl (lv_at hl 1 rfl) ?_
            refine lv_iload G.1 G.2.1 d_Fi_reachFrom_73 (lv_at hl 3 rfl) ?_
            refine lv_iload G.1 G.2.1 d_Fi_reachFrom_75 (lv_at hl 4 rfl) ?_
            refine lv_iconst (v := 5) G.1 G.2.1 d_Fi_reachFrom_77 (by decide) ?_
            refine ucVi (As := [.int x5h70, .int x6h70, .int 5]) (rest := [.int x7h70]) G hP hD hS (cu_Wd_method l D g ad y_h70 _ s_h70 a1 x5h70 x6h70 5 H.size h_a1 h) w9_Wd_method q1568 ⟨Nat.le_of_ble_eq_true rfl, Nat.le_of_ble_eq_true rfl⟩ rfl rfl h_a1 (q := (RWd, TWd, 17)) rfl rfl hl.1 rfl (Nat.le_of_ble_eq_true rfl) rfl hd d_Fi_reachFrom_78 (fun r_12 s_13 H locs h hP hD hS => ?_)
            refine lv_icmp_ge (tgt := 101) G.1 G.2.1 d_Fi_reachFrom_81 (by decide) (fun c81 => ?_) (fun c81 => ?_)
            · skip
              have h := h.1 c81
              refine lv_iinc (v := x4h70 + 1) (lv' := [(4, .int (x4h70 + 1)), (0, .ref (ad a0)), (1, .ref (ad a1)), (5, .int x5h70), (6, .int x6h70), (7, .int x7h70)]) G.1 G.2.1 d_Fi_reachFrom_101 hl (k := 2) rfl rfl (by decide) rfl (fun ls hl => ?_)
              refine lv_goto (tgt := 25) G.1 G.2.1 d_Fi_reachFrom_104 (by decide) ?_
              have h := hK_25 y_h70 s_13 d_h70 e_h70 (x4h70 + 1) h
              exact ih_25 y_h70 s_13 d_h70 e_h70 (x4h70 + 1) (Nat.lt_of_lt_of_le h.2 (Nat.le_of_lt_succ hμ_25)) h.1 H locs hP hD hS ls (lv_sub hl [1, 2, 0] rfl)
            · skip
              have h := h.2 c81
              refine lv_aload_n G.1 G.2.1 d_Fi_reachFrom_84 rfl (lv_at hl 0 rfl) ?_
              refine lv_aload_n G.1 G.2.1 d_Fi_reachFrom_85 rfl (lv_at hl 1 rfl) ?_
              refine lv_iload G.1 G.2.1 d_Fi_reachFrom_86 (lv_at hl 3 rfl) ?_
              refine lv_iload G.1 G.2.1 d_Fi_reachFrom_88 (lv_at hl 4 rfl) ?_
              refine W.eq (g2 := F0 m 90 ls [.int x6h70, .int x5h70, .ref (ad a1), .ref (ad a0)]) rfl ?_
              refine lv_iload G.1 G.2.1 d_Fi_reachFrom_90 (lv_at hl 5 rfl) ?_
              obtain ⟨mc_19, ms_20, hr_21, h⟩ := h
              refine utVv (As := [.ref (ad a1), .int x5h70, .int x6h70, .int x7h70]) (rest := []) G hP hD hS (ca_Fi_reachBy l D g F sl hF ad mc_19 ms_20 y_h70 _ s_13 a0 a1 x5h70 x6h70 x7h70 H.size (us H) h_a0 h_a1 h) w9_Fi_reachBy q2429 ⟨Nat.le_of_ble_eq_true rfl, Nat.le_of_ble_eq_true rfl⟩ rfl rfl h_a0 (q := (RFi, TFi, 10)) rfl rfl hl.1 rfl (Nat.le_of_ble_eq_true rfl) rfl hr_21 d_Fi_reachFrom_92 (fun y_16 s_15 d_17 e_18 H locs h hP hD hS => ?_)
              obtain ⟨hd, h⟩ := h
              refine lv_iinc (v := x7h70 + 1) (lv' := [(7, .int (x7h70 + 1)), (0, .ref (ad a0)), (1, .ref (ad a1)), (4, .int x4h70), (5, .int x5h70), (6, .int x6h70)]) G.1 G.2.1 d_Fi_reachFrom_95 hl (k := 5) rfl rfl (by decide) rfl (fun ls hl => ?_)
              refine lv_goto (tgt := 70) G.1 G.2.1 d_Fi_reachFrom_98 (by decide) ?_
              have h := hK_70 y_16 s_15 (d_h70 + d_17) (e_h70 + e_18) x4h70 x5h70 x6h70 (x7h70 + 1) h
              exact ih_70 y_16 s_15 (d_h70 + d_17) (e_h70 + e_18) x4h70 x5h70 x6h70 (x7h70 + 1) (Nat.lt_of_lt_of_le h.2 (Nat.le_of_lt_succ hμ_70)) h.1 H locs hP hD hS ls (lv_sub hl [1, 2, 3, 4, 5, 0] rfl)
        exact L_70 _ y_h25 s_h25 d_h25 e_h25 x4h25 (x_10 / 100) (x_11 - x_11 / 100 * 100) 0 (Nat.lt_succ_self _) hI_70 H locs hP hD hS ls (lv_sub hl [3, 4, 5, 2, 1, 0] rfl)
  exact L_25 _ y_4 s_3 (0 + d_5) (0 + e_6) 0 (Nat.lt_succ_self _) hI_25 H locs hP hD hS ls (lv_sub hl [1, 2, 0] rfl)
theorem q2425 : Cond.methodLink "ClassWorks" 424 y_Fi_reachFrom ∈ lw_ok := lw_okmem (List.mem_of_getElem? (i := 2425) (by decide +kernel)) rfl
theorem q2428 : Cond.code y_Fi_reachFrom b_Fi_reachFrom 8 (some .int) ∈ lw_ok := lw_okmem (List.mem_of_getElem? (i := 2428) (by decide +kernel)) rfl
theorem q2426 : Cond.instanceMethod y_Fi_reachFrom ∈ lw_ok := lw_okmem (List.mem_of_getElem? (i := 2426) (by decide +kernel)) rfl
theorem q2427 : Cond.selects y_Fi_reachFrom.cls y_Fi_reachFrom y_Fi_reachFrom ∈ lw_ok := lw_okmem (List.mem_of_getElem? (i := 2427) (by decide +kernel)) rfl
theorem w9_Fi_reachFrom : CWv y_Fi_reachFrom b_Fi_reachFrom 8 (some .int) 3 ∧ Cond.instanceMethod y_Fi_reachFrom ∈ lw_ok ∧ Cond.selects y_Fi_reachFrom.cls y_Fi_reachFrom y_Fi_reachFrom ∈ lw_ok := ⟨⟨q2428, q342, by decide +kernel, by decide +kernel, by decide +kernel⟩, q2426, q2427⟩
def y_Cw_reach : MethodName := ⟨"ClassWorks", "reach", "(III)I"⟩
abbrev b_Cw_reach : ByteArray := prog_1_method_43_code
theorem d_Cw_reach_0 : decode b_Cw_reach 0 = .ok (.aload_n 0, 1) := by decide +kernel
theorem d_Cw_reach_1 : decode b_Cw_reach 1 = .ok (.iload_n 1, 1) := by decide +kernel
theorem d_Cw_reach_2 : decode b_Cw_reach 2 = .ok (.iload_n 2, 1) := by decide +kernel
theorem d_Cw_reach_3 : decode b_Cw_reach 3 = .ok (.invokevirtual 150, 3) := by decide +kernel
theorem d_Cw_reach_6 : decode b_Cw_reach 6 = .ok (.astore 4, 2) := by decide +kernel
theorem d_Cw_reach_8 : decode b_Cw_reach 8 = .ok (.aload 4, 2) := by decide +kernel
theorem d_Cw_reach_10 : decode b_Cw_reach 10 = .ok (.ifnull 19, 3) := by decide +kernel
theorem d_Cw_reach_13 : decode b_Cw_reach 13 = .ok (.iload_n 3, 1) := by decide +kernel
theorem d_Cw_reach_14 : decode b_Cw_reach 14 = .ok (.ifCond .lt 15, 3) := by decide +kernel
theorem d_Cw_reach_17 : decode b_Cw_reach 17 = .ok (.iload_n 3, 1) := by decide +kernel
theorem d_Cw_reach_18 : decode b_Cw_reach 18 = .ok (.aload 4, 2) := by decide +kernel
theorem d_Cw_reach_20 : decode b_Cw_reach 20 = .ok (.iload_n 2, 1) := by decide +kernel
theorem d_Cw_reach_21 : decode b_Cw_reach 21 = .ok (.bipush 11, 2) := by decide +kernel
theorem d_Cw_reach_23 : decode b_Cw_reach 23 = .ok (.invokevirtual 158, 3) := by decide +kernel
theorem d_Cw_reach_26 : decode b_Cw_reach 26 = .ok (.if_icmp .lt 5, 3) := by decide +kernel
theorem d_Cw_reach_29 : decode b_Cw_reach 29 = .ok (.iconst (-1), 1) := by decide +kernel
theorem d_Cw_reach_30 : decode b_Cw_reach 30 = .ok (.ireturn, 1) := by decide +kernel
theorem d_Cw_reach_31 : decode b_Cw_reach 31 = .ok (.aload_n 0, 1) := by decide +kernel
theorem d_Cw_reach_32 : decode b_Cw_reach 32 = .ok (.getfield 97, 3) := by decide +kernel
theorem d_Cw_reach_35 : decode b_Cw_reach 35 = .ok (.aload 4, 2) := by decide +kernel
theorem d_Cw_reach_37 : decode b_Cw_reach 37 = .ok (.iload_n 2, 1) := by decide +kernel
theorem d_Cw_reach_38 : decode b_Cw_reach 38 = .ok (.iload_n 3, 1) := by decide +kernel
theorem d_Cw_reach_39 : decode b_Cw_reach 39 = .ok (.invokevirtual 424, 3) := by decide +kernel
theorem d_Cw_reach_42 : decode b_Cw_reach 42 = .ok (.ireturn, 1) := by decide +kernel
abbrev ra_Cw_reach (mc ms : Nat) : Room := { frames := 11, cells := mc, slots := ms, locals := 582 }
def wja_Cw_reach_29 (mc ms : Nat) (Post : Ly → St → Int32 → Nat → Nat → Prop) (a0 : Nat) (y_j29 : Ly) (s_j29 : St) (d_j29 e_j29 : Nat) : Prop := (d_j29 ≤ mc ∧ e_j29 ≤ ms) ∧ Post y_j29 s_j29 (-1) d_j29 e_j29
def wa_Cw_reach (mc ms : Nat) (y : Ly) (Post : Ly → St → Int32 → Nat → Nat → Prop) (σ : St) (a0 : Nat) (v1 : Int32) (v2 : Int32) (v3 : Int32) : Prop := wu_Cw_worldWith y (fun (s_2 : St) (r_1 : Option Nat) => ((r_1 = none → wja_Cw_reach_29 mc ms Post a0 y s_2 0 0) ∧ (∀ r_1b : Nat, r_1 = some r_1b → (cl r_1b = 9 ∧ ((v3 < 0 → wja_Cw_reach_29 mc ms Post a0 y s_2 0 0) ∧ (¬ (v3 < 0) → wu_Wd_of y (fun (s_4 : St) (r_3 : Int32) => ((v3 < r_3 → ∃ mc_10 ms_11 : Nat, (0 + mc_10 ≤ mc ∧ 0 + ms_11 ≤ ms) ∧ wa_Fi_reachFrom mc_10 ms_11 y (fun (y_7 : Ly) (s_6 : St) (r_5 : Int32) (d_8 e_9 : Nat) => (0 + d_8 ≤ mc ∧ 0 + e_9 ≤ ms) ∧ Post y_7 s_6 r_5 (0 + d_8) (0 + e_9)) s_4 (lk a0 3) r_1b v2 v3) ∧ (¬ (v3 < r_3) → wja_Cw_reach_29 mc ms Post a0 y s_4 0 0))) s_2 r_1b v2 11)))))) σ a0 v1 v2
set_option maxHeartbeats 4000000 in
set_option maxRecDepth 100000 in
theorem ca_Cw_reach (l : Launch) (D : va_G) (g : Nat → ClassId) (F : Nat → SL) (sl : List SL) (hF : SOK F sl) (ad : Nat → Nat) (mc ms : Nat) (y : Ly) (Post : Ly → St → Int32 → Nat → Nat → Prop) (σ : St) (a0 : Nat) (v1 : Int32) (v2 : Int32) (v3 : Int32) (sz uz : Nat) (h_a0 : cl a0 = 11) (h : wa_Cw_reach mc ms y Post σ a0 v1 v2 v3) : Met l y_Cw_reach (mw y_Cw_reach b_Cw_reach 5 (some .int)) (ra_Cw_reach mc ms) (PCu g D sl [.ref (ad a0), .int v1, .int v2, .int v3] sz uz (ws g ad y σ)) (va_Qi (fun (r : Int32) (u : Ly × St × Nat × Nat) => Post u.1 u.2.1 r u.2.2.1 u.2.2.2) (QU D (va_A (ws g ad y σ) sz) (fun u => ws g ad u.1 u.2.1) sz uz (fun u => u.2.2.1) (fun u => u.2.2.2)) (va_A (ws g ad y σ) sz)) mc ms (va_A (ws g ad y σ) sz) := by
  refine ofIu (by decide +kernel) (Nat.le_of_ble_eq_true rfl) ?_
  intro p e s m args below meth c A Q ls H locs G hsz hP hD hS hl hret
  subst hsz
  have hl : lv_has ls 5 [(0, .ref (ad a0)), (1, .int v1), (2, .int v2), (3, .int v3)] := hl
  have hd : 0 ≤ mc ∧ 0 ≤ ms := ⟨Nat.zero_le _, Nat.zero_le _⟩
  unfold wa_Cw_reach at h
  refine lv_aload_n G.1 G.2.1 d_Cw_reach_0 rfl (lv_at hl 0 rfl) ?_
  refine lv_iload_n G.1 G.2.1 d_Cw_reach_1 rfl (lv_at hl 1 rfl) ?_
  refine lv_iload_n G.1 G.2.1 d_Cw_reach_2 rfl (lv_at hl 2 rfl) ?_
  refine ucVq (As := [.int v1, .int v2]) (rest := []) G hP hD hS (cu_Cw_worldWith l D g ad y _ σ a0 v1 v2 H.size h_a0 h) w9_Cw_worldWith q1481 ⟨Nat.le_of_ble_eq_true rfl, Nat.le_of_ble_eq_true rfl⟩ rfl rfl h_a0 (q := (RCw, TCw, 20)) rfl rfl hl.1 rfl (Nat.le_of_ble_eq_true rfl) rfl hd d_Cw_reach_3 (fun r_1 s_2 H locs h hP hD hS => ?_)
  rcases r_1 with _ | r_1b
  · skip
    have h := h.1 rfl
    show W p l e (ra_Cw_reach mc ms) s m args below meth c H locs 0 0 Q (F0 m 6 ls [.null])
    refine lv_astoreN (lv' := [(4, .null), (0, .ref (ad a0)), (1, .int v1), (2, .int v2), (3, .int v3)]) G.1 G.2.1 d_Cw_reach_6 hl (by decide) rfl (fun ls hl => ?_)
    refine lv_aloadN G.1 G.2.1 d_Cw_reach_8 (lv_at hl 0 rfl) ?_
    have J_29 : ∀ (y_j29 : Ly) (s_j29 : St) (d_j29 e_j29 : Nat) (H : Heap) (locs : List Loc), wja_Cw_reach_29 mc ms Post a0 y_j29 s_j29 d_j29 e_j29 → va_P D CL (ws g ad y_j29 s_j29) H → va_D A (ws g ad y_j29 s_j29) → va_S A s.heap H locs → ∀ ls, lv_has ls 5 [] → W p l e (ra_Cw_reach mc ms) s m args below meth c H locs d_j29 e_j29 Q (F0 m 29 ls []) := by
      intro y_j29 s_j29 d_j29 e_j29 H locs h hP hD hS ls hl
      unfold wja_Cw_reach_29 at h
      obtain ⟨hd, h⟩ := h
      refine lv_iconst (v := (-1)) G.1 G.2.1 d_Cw_reach_29 (by decide) ?_
      exact hret _ (y_j29, s_j29, d_j29, e_j29) _ _ _ _ _ ls h hP hD hS (Nat.le_refl _) (Nat.le_refl _) hd.1 hd.2 d_Cw_reach_30
    refine lv_ifnullN (tgt := 29) G.1 G.2.1 d_Cw_reach_10 (by decide) ?_
    exact J_29 y s_2 0 0 H locs h hP hD hS ls (lv_sub hl [] rfl)
  · skip
    obtain ⟨c_r_1b, h⟩ := h.2 _ rfl
    show W p l e (ra_Cw_reach mc ms) s m args below meth c H locs 0 0 Q (F0 m 6 ls [.ref (ad r_1b)])
    refine lv_astore (lv' := [(4, .ref (ad r_1b)), (0, .ref (ad a0)), (1, .int v1), (2, .int v2), (3, .int v3)]) G.1 G.2.1 d_Cw_reach_6 hl (by decide) rfl (fun ls hl => ?_)
    refine lv_aload G.1 G.2.1 d_Cw_reach_8 (lv_at hl 0 rfl) ?_
    have J_29 : ∀ (y_j29 : Ly) (s_j29 : St) (d_j29 e_j29 : Nat) (H : Heap) (locs : List Loc), wja_Cw_reach_29 mc ms Post a0 y_j29 s_j29 d_j29 e_j29 → va_P D CL (ws g ad y_j29 s_j29) H → va_D A (ws g ad y_j29 s_j29) → va_S A s.heap H locs → ∀ ls, lv_has ls 5 [] → W p l e (ra_Cw_reach mc ms) s m args below meth c H locs d_j29 e_j29 Q (F0 m 29 ls []) := by
      intro y_j29 s_j29 d_j29 e_j29 H locs h hP hD hS ls hl
      unfold wja_Cw_reach_29 at h
      obtain ⟨hd, h⟩ := h
      refine lv_iconst (v := (-1)) G.1 G.2.1 d_Cw_reach_29 (by decide) ?_
      exact hret _ (y_j29, s_j29, d_j29, e_j29) _ _ _ _ _ ls h hP hD hS (Nat.le_refl _) (Nat.le_refl _) hd.1 hd.2 d_Cw_reach_30
    refine lv_ifnull G.1 G.2.1 d_Cw_reach_10 ?_
    refine lv_iload_n G.1 G.2.1 d_Cw_reach_13 rfl (lv_at hl 4 rfl) ?_
    refine lv_if_lt (tgt := 29) G.1 G.2.1 d_Cw_reach_14 (by decide) (fun c14 => ?_) (fun c14 => ?_)
    · skip
      have h := h.1 c14
      exact J_29 y s_2 0 0 H locs h hP hD hS ls (lv_sub hl [] rfl)
    · skip
      have h := h.2 c14
      refine lv_iload_n G.1 G.2.1 d_Cw_reach_17 rfl (lv_at hl 4 rfl) ?_
      refine lv_aload G.1 G.2.1 d_Cw_reach_18 (lv_at hl 0 rfl) ?_
      refine W.eq (g2 := F0 m 20 ls [.ref (ad r_1b), .int v3]) rfl ?_
      refine lv_iload_n G.1 G.2.1 d_Cw_reach_20 rfl (lv_at hl 3 rfl) ?_
      refine lv_bipush (v := 11) G.1 G.2.1 d_Cw_reach_21 (by decide) ?_
      refine ucVi (As := [.int v2, .int 11]) (rest := [.int v3]) G hP hD hS (cu_Wd_of l D g ad y _ s_2 r_1b v2 11 H.size c_r_1b h) w9_Wd_of q1493 ⟨Nat.le_of_ble_eq_true rfl, Nat.le_of_ble_eq_true rfl⟩ rfl rfl c_r_1b (q := (RWd, TWd, 17)) rfl rfl hl.1 rfl (Nat.le_of_ble_eq_true rfl) rfl hd d_Cw_reach_23 (fun r_3 s_4 H locs h hP hD hS => ?_)
      refine lv_icmp_lt (tgt := 31) G.1 G.2.1 d_Cw_reach_26 (by decide) (fun c26 => ?_) (fun c26 => ?_)
      · skip
        have h := h.1 c26
        refine lv_aload_n G.1 G.2.1 d_Cw_reach_31 rfl (lv_at hl 1 rfl) ?_
        refine ugf (v := .ref (ad (lk a0 3))) G hP h_a0 iCw rfl 3 (by decide) rfl q1137 rfl rfl d_Cw_reach_32 ?_
        refine lv_aload G.1 G.2.1 d_Cw_reach_35 (lv_at hl 0 rfl) ?_
        refine lv_iload_n G.1 G.2.1 d_Cw_reach_37 rfl (lv_at hl 3 rfl) ?_
        refine lv_iload_n G.1 G.2.1 d_Cw_reach_38 rfl (lv_at hl 4 rfl) ?_
        obtain ⟨mc_10, ms_11, hr_12, h⟩ := h
        refine utVi (As := [.ref (ad r_1b), .int v2, .int v3]) (rest := []) G hP hD hS (ca_Fi_reachFrom l D g F sl hF ad mc_10 ms_11 y _ s_4 (lk a0 3) r_1b v2 v3 H.size (us H) (lk_11_3 h_a0) c_r_1b h) w9_Fi_reachFrom q2425 ⟨Nat.le_of_ble_eq_true rfl, Nat.le_of_ble_eq_true rfl⟩ rfl rfl (lk_11_3 h_a0) (q := (RFi, TFi, 10)) rfl rfl hl.1 rfl (Nat.le_of_ble_eq_true rfl) rfl hr_12 d_Cw_reach_39 (fun r_5 y_7 s_6 d_8 e_9 H locs h hP hD hS => ?_)
        have hl := lv_sub (l' := []) hl [] rfl
        obtain ⟨hd, h⟩ := h
        exact hret _ (y_7, s_6, 0 + d_8, 0 + e_9) _ _ _ _ _ ls h hP hD hS (Nat.le_refl _) (Nat.le_refl _) hd.1 hd.2 d_Cw_reach_42
      · skip
        have h := h.2 c26
        exact J_29 y s_4 0 0 H locs h hP hD hS ls (lv_sub hl [] rfl)
def y_Cw_keepTape : MethodName := ⟨"ClassWorks", "keepTape", "(I)I"⟩
abbrev b_Cw_keepTape : ByteArray := prog_1_method_46_code
theorem q1134 : Cond.fieldLink "ClassWorks" 72 "ClassWorks" "words" "LClassWorks$Words;" ∈ lw_ok := lw_okmem (List.mem_of_getElem? (i := 1134) (by decide +kernel)) rfl
theorem q2454 : Cond.methodLink "ClassWorks" 430 y_Wo_load ∈ lw_ok := lw_okmem (List.mem_of_getElem? (i := 2454) (by decide +kernel)) rfl
theorem q555 : Cond.fieldLink "ClassWorks" 434 "ClassWorks$Words" "after" "I" ∈ lw_ok := lw_okmem (List.mem_of_getElem? (i := 555) (by decide +kernel)) rfl
theorem d_Cw_keepTape_0 : decode b_Cw_keepTape 0 = .ok (.iconst 0, 1) := by decide +kernel
theorem d_Cw_keepTape_1 : decode b_Cw_keepTape 1 = .ok (.istore_n 2, 1) := by decide +kernel
theorem d_Cw_keepTape_2 : decode b_Cw_keepTape 2 = .ok (.iconst 0, 1) := by decide +kernel
theorem d_Cw_keepTape_3 : decode b_Cw_keepTape 3 = .ok (.istore_n 3, 1) := by decide +kernel
theorem d_Cw_keepTape_4 : decode b_Cw_keepTape 4 = .ok (.iload_n 3, 1) := by decide +kernel
theorem d_Cw_keepTape_5 : decode b_Cw_keepTape 5 = .ok (.iload_n 1, 1) := by decide +kernel
theorem d_Cw_keepTape_6 : decode b_Cw_keepTape 6 = .ok (.if_icmp .ge 42, 3) := by decide +kernel
theorem d_Cw_keepTape_9 : decode b_Cw_keepTape 9 = .ok (.aload_n 0, 1) := by decide +kernel
theorem d_Cw_keepTape_10 : decode b_Cw_keepTape 10 = .ok (.getfield 72, 3) := by decide +kernel
theorem d_Cw_keepTape_13 : decode b_Cw_keepTape 13 = .ok (.aload_n 0, 1) := by decide +kernel
theorem d_Cw_keepTape_14 : decode b_Cw_keepTape 14 = .ok (.getfield 17, 3) := by decide +kernel
theorem d_Cw_keepTape_17 : decode b_Cw_keepTape 17 = .ok (.iload_n 3, 1) := by decide +kernel
theorem d_Cw_keepTape_18 : decode b_Cw_keepTape 18 = .ok (.iload_n 1, 1) := by decide +kernel
theorem d_Cw_keepTape_19 : decode b_Cw_keepTape 19 = .ok (.invokevirtual 430, 3) := by decide +kernel
theorem d_Cw_keepTape_22 : decode b_Cw_keepTape 22 = .ok (.ifCond .eq 15, 3) := by decide +kernel
theorem d_Cw_keepTape_25 : decode b_Cw_keepTape 25 = .ok (.aload_n 0, 1) := by decide +kernel
theorem d_Cw_keepTape_26 : decode b_Cw_keepTape 26 = .ok (.aload_n 0, 1) := by decide +kernel
theorem d_Cw_keepTape_27 : decode b_Cw_keepTape 27 = .ok (.getfield 17, 3) := by decide +kernel
theorem d_Cw_keepTape_30 : decode b_Cw_keepTape 30 = .ok (.iload_n 3, 1) := by decide +kernel
theorem d_Cw_keepTape_31 : decode b_Cw_keepTape 31 = .ok (.iload_n 1, 1) := by decide +kernel
theorem d_Cw_keepTape_32 : decode b_Cw_keepTape 32 = .ok (.iload_n 2, 1) := by decide +kernel
theorem d_Cw_keepTape_33 : decode b_Cw_keepTape 33 = .ok (.invokevirtual 443, 3) := by decide +kernel
theorem d_Cw_keepTape_36 : decode b_Cw_keepTape 36 = .ok (.istore_n 2, 1) := by decide +kernel
theorem d_Cw_keepTape_37 : decode b_Cw_keepTape 37 = .ok (.aload_n 0, 1) := by decide +kernel
theorem d_Cw_keepTape_38 : decode b_Cw_keepTape 38 = .ok (.getfield 72, 3) := by decide +kernel
theorem d_Cw_keepTape_41 : decode b_Cw_keepTape 41 = .ok (.getfield 434, 3) := by decide +kernel
theorem d_Cw_keepTape_44 : decode b_Cw_keepTape 44 = .ok (.istore_n 3, 1) := by decide +kernel
theorem d_Cw_keepTape_45 : decode b_Cw_keepTape 45 = .ok (.goto (-41), 3) := by decide +kernel
theorem d_Cw_keepTape_48 : decode b_Cw_keepTape 48 = .ok (.aload_n 0, 1) := by decide +kernel
theorem d_Cw_keepTape_49 : decode b_Cw_keepTape 49 = .ok (.iload_n 2, 1) := by decide +kernel
theorem d_Cw_keepTape_50 : decode b_Cw_keepTape 50 = .ok (.invokevirtual 447, 3) := by decide +kernel
theorem d_Cw_keepTape_53 : decode b_Cw_keepTape 53 = .ok (.ireturn, 1) := by decide +kernel
abbrev ra_Cw_keepTape (mc ms : Nat) : Room := { frames := 9, cells := mc, slots := ms, locals := 516 }
def wja_Cw_keepTape_37 (mc ms : Nat) (Post : Ly → St → Int32 → Nat → Nat → Prop) (K_4 : Ly → St → Nat → Nat → Int32 → Int32 → Int32 → Prop) (a0 : Nat) (y_j37 : Ly) (s_j37 : St) (d_j37 e_j37 : Nat) (x1j37 : Int32) (x2j37 : Int32) : Prop := (d_j37 ≤ mc ∧ e_j37 ≤ ms) ∧ K_4 y_j37 s_j37 d_j37 e_j37 x1j37 x2j37 (sV s_j37 (lk a0 0) 3)
def wba_Cw_keepTape_4 (mc ms : Nat) (Post : Ly → St → Int32 → Nat → Nat → Prop) (K_4 : Ly → St → Nat → Nat → Int32 → Int32 → Int32 → Prop) (a0 : Nat) (y_h4 : Ly) (s_h4 : St) (d_h4 e_h4 : Nat) (x1h4 : Int32) (x2h4 : Int32) (x3h4 : Int32) : Prop := (d_h4 ≤ mc ∧ e_h4 ≤ ms) ∧ ((x1h4 ≤ x3h4 → wu_Cw_keepDraft y_h4 (fun (s_2 : St) (r_1 : Int32) => Post y_h4 s_2 r_1 d_h4 e_h4) s_h4 a0 x2h4) ∧ (¬ (x1h4 ≤ x3h4) → ∃ mc_8 ms_9 : Nat, (d_h4 + mc_8 ≤ mc ∧ e_h4 + ms_9 ≤ ms) ∧ wa_Wo_load mc_8 ms_9 y_h4 (fun (y_5 : Ly) (s_4 : St) (r_3 : Int32) (d_6 e_7 : Nat) => (d_h4 + d_6 ≤ mc ∧ e_h4 + e_7 ≤ ms) ∧ ((r_3 = 0 → wja_Cw_keepTape_37 mc ms Post K_4 a0 y_5 s_4 (d_h4 + d_6) (e_h4 + e_7) x1h4 x2h4) ∧ (¬ (r_3 = 0) → wu_Cw_keepLine y_5 (fun (s_12 : St) (r_11 : Int32) => wja_Cw_keepTape_37 mc ms Post K_4 a0 y_5 s_12 (d_h4 + d_6) (e_h4 + e_7) x1h4 r_11) s_4 a0 a0 6 x3h4 x1h4 x2h4))) s_h4 (lk a0 0) a0 6 x3h4 x1h4))
def wla_Cw_keepTape_4 (mc ms : Nat) (Post : Ly → St → Int32 → Nat → Nat → Prop) (a0 : Nat) (y_h4 : Ly) (s_h4 : St) (d_h4 e_h4 : Nat) (x1h4 : Int32) (x2h4 : Int32) (x3h4 : Int32) : Prop := ∃ (I : Ly → St → Nat → Nat → Int32 → Int32 → Int32 → Prop) (μ : Ly → St → Nat → Nat → Int32 → Int32 → Int32 → Nat), I y_h4 s_h4 d_h4 e_h4 x1h4 x2h4 x3h4 ∧ ∀ (u1 : Ly) (u2 : St) (u3 u4 : Nat) (t0 : Int32) (t1 : Int32) (t2 : Int32), I u1 u2 u3 u4 t0 t1 t2 → wba_Cw_keepTape_4 mc ms Post (fun z1 z2 z3 z4 t0q t1q t2q => I z1 z2 z3 z4 t0q t1q t2q ∧ μ z1 z2 z3 z4 t0q t1q t2q < μ u1 u2 u3 u4 t0 t1 t2) a0 u1 u2 u3 u4 t0 t1 t2
def wa_Cw_keepTape (mc ms : Nat) (y : Ly) (Post : Ly → St → Int32 → Nat → Nat → Prop) (σ : St) (a0 : Nat) (v1 : Int32) : Prop := wla_Cw_keepTape_4 mc ms Post a0 y σ 0 0 v1 0 0
set_option maxHeartbeats 4000000 in
set_option maxRecDepth 100000 in
theorem ca_Cw_keepTape (l : Launch) (D : va_G) (g : Nat → ClassId) (ad : Nat → Nat) (mc ms : Nat) (y : Ly) (Post : Ly → St → Int32 → Nat → Nat → Prop) (σ : St) (a0 : Nat) (v1 : Int32) (sz uz : Nat) (h_a0 : cl a0 = 11) (h : wa_Cw_keepTape mc ms y Post σ a0 v1) : Met l y_Cw_keepTape (mw y_Cw_keepTape b_Cw_keepTape 4 (some .int)) (ra_Cw_keepTape mc ms) (PCu g D [] [.ref (ad a0), .int v1] sz uz (ws g ad y σ)) (va_Qi (fun (r : Int32) (u : Ly × St × Nat × Nat) => Post u.1 u.2.1 r u.2.2.1 u.2.2.2) (QU D (va_A (ws g ad y σ) sz) (fun u => ws g ad u.1 u.2.1) sz uz (fun u => u.2.2.1) (fun u => u.2.2.2)) (va_A (ws g ad y σ) sz)) mc ms (va_A (ws g ad y σ) sz) := by
  refine ofIu (by decide +kernel) (Nat.le_of_ble_eq_true rfl) ?_
  intro p e s m args below meth c A Q ls H locs G hsz hP hD hS hl hret
  subst hsz
  have hl : lv_has ls 4 [(0, .ref (ad a0)), (1, .int v1)] := hl
  have hd : 0 ≤ mc ∧ 0 ≤ ms := ⟨Nat.zero_le _, Nat.zero_le _⟩
  unfold wa_Cw_keepTape at h
  refine lv_iconst (v := 0) G.1 G.2.1 d_Cw_keepTape_0 (by decide) ?_
  refine lv_istore_n (lv' := [(2, .int 0), (0, .ref (ad a0)), (1, .int v1)]) G.1 G.2.1 d_Cw_keepTape_1 rfl hl (by decide) rfl (fun ls hl => ?_)
  refine lv_iconst (v := 0) G.1 G.2.1 d_Cw_keepTape_2 (by decide) ?_
  refine lv_istore_n (lv' := [(3, .int 0), (2, .int 0), (0, .ref (ad a0)), (1, .int v1)]) G.1 G.2.1 d_Cw_keepTape_3 rfl hl (by decide) rfl (fun ls hl => ?_)
  unfold wla_Cw_keepTape_4 at h
  obtain ⟨I_4, μ_4, hI_4, hB_4⟩ := h
  have L_4 : ∀ (n_4 : Nat) (y_h4 : Ly) (s_h4 : St) (d_h4 e_h4 : Nat) (x1h4 : Int32) (x2h4 : Int32) (x3h4 : Int32), μ_4 y_h4 s_h4 d_h4 e_h4 x1h4 x2h4 x3h4 < n_4 → I_4 y_h4 s_h4 d_h4 e_h4 x1h4 x2h4 x3h4 → ∀ (H : Heap) (locs : List Loc), va_P D CL (ws g ad y_h4 s_h4) H → va_D A (ws g ad y_h4 s_h4) → va_S A s.heap H locs → ∀ ls, lv_has ls 4 [(0, .ref (ad a0)), (1, .int x1h4), (2, .int x2h4), (3, .int x3h4)] → W p l e (ra_Cw_keepTape mc ms) s m args below meth c H locs d_h4 e_h4 Q (F0 m 4 ls []) := by
    intro n_4
    induction n_4 with
    | zero => intro y_h4 s_h4 d_h4 e_h4 x1h4 x2h4 x3h4 hμ; exact absurd hμ (Nat.not_lt_zero _)
    | succ n_4 ih_4 =>
      intro y_h4 s_h4 d_h4 e_h4 x1h4 x2h4 x3h4 hμ_4 hJ H locs hP hD hS ls hl
      obtain ⟨K_4, hK_4, h⟩ : ∃ K : Ly → St → Nat → Nat → Int32 → Int32 → Int32 → Prop, (∀ z1 z2 z3 z4 (t0 : Int32) (t1 : Int32) (t2 : Int32), K z1 z2 z3 z4 t0 t1 t2 → I_4 z1 z2 z3 z4 t0 t1 t2 ∧ μ_4 z1 z2 z3 z4 t0 t1 t2 < μ_4 y_h4 s_h4 d_h4 e_h4 x1h4 x2h4 x3h4) ∧ wba_Cw_keepTape_4 mc ms Post K a0 y_h4 s_h4 d_h4 e_h4 x1h4 x2h4 x3h4 := ⟨_, fun _ _ _ _ _ _ _ h => h, hB_4 y_h4 s_h4 d_h4 e_h4 x1h4 x2h4 x3h4 hJ⟩
      unfold wba_Cw_keepTape_4 at h
      obtain ⟨hd, h⟩ := h
      refine lv_iload_n G.1 G.2.1 d_Cw_keepTape_4 rfl (lv_at hl 3 rfl) ?_
      refine lv_iload_n G.1 G.2.1 d_Cw_keepTape_5 rfl (lv_at hl 1 rfl) ?_
      refine lv_icmp_ge (tgt := 48) G.1 G.2.1 d_Cw_keepTape_6 (by decide) (fun c6 => ?_) (fun c6 => ?_)
      · skip
        have h := h.1 c6
        refine lv_aload_n G.1 G.2.1 d_Cw_keepTape_48 rfl (lv_at hl 0 rfl) ?_
        refine lv_iload_n G.1 G.2.1 d_Cw_keepTape_49 rfl (lv_at hl 2 rfl) ?_
        refine ucVi (As := [.int x2h4]) (rest := []) G hP hD hS (cu_Cw_keepDraft l D g ad y_h4 _ s_h4 a0 x2h4 H.size h_a0 h) w9_Cw_keepDraft q2464 ⟨Nat.le_of_ble_eq_true rfl, Nat.le_of_ble_eq_true rfl⟩ rfl rfl h_a0 (q := (RCw, TCw, 20)) rfl rfl hl.1 rfl (Nat.le_of_ble_eq_true rfl) rfl hd d_Cw_keepTape_50 (fun r_1 s_2 H locs h hP hD hS => ?_)
        exact hret _ (y_h4, s_2, d_h4, e_h4) _ _ _ _ _ ls h hP hD hS (Nat.le_refl _) (Nat.le_refl _) hd.1 hd.2 d_Cw_keepTape_53
      · skip
        have h := h.2 c6
        refine lv_aload_n G.1 G.2.1 d_Cw_keepTape_9 rfl (lv_at hl 0 rfl) ?_
        refine ugf (v := .ref (ad (lk a0 0))) G hP h_a0 iCw rfl 0 (by decide) rfl q1134 rfl rfl d_Cw_keepTape_10 ?_
        refine lv_aload_n G.1 G.2.1 d_Cw_keepTape_13 rfl (lv_at hl 0 rfl) ?_
        refine ugf (v := .ref (yP y_h4 a0 6)) G hP h_a0 iCw rfl 6 (by decide) rfl q1140 rfl rfl d_Cw_keepTape_14 ?_
        refine lv_iload_n G.1 G.2.1 d_Cw_keepTape_17 rfl (lv_at hl 3 rfl) ?_
        refine lv_iload_n G.1 G.2.1 d_Cw_keepTape_18 rfl (lv_at hl 1 rfl) ?_
        obtain ⟨mc_8, ms_9, hr_10, h⟩ := h
        refine uaVi (As := [.ref (yP y_h4 a0 6), .int x3h4, .int x1h4]) (rest := []) G hP hD hS (ca_Wo_load l D g ad mc_8 ms_9 y_h4 _ s_h4 (lk a0 0) a0 6 x3h4 x1h4 H.size (us H) (lk_11_0 h_a0) ⟨(kdp h_a0 rfl), (typ h_a0 rfl)⟩ h) w9_Wo_load q2454 ⟨Nat.le_of_ble_eq_true rfl, Nat.le_of_ble_eq_true rfl⟩ rfl rfl (lk_11_0 h_a0) (q := (RWo, TWo, 8)) rfl rfl hl.1 rfl (Nat.le_of_ble_eq_true rfl) rfl hr_10 d_Cw_keepTape_19 (fun r_3 y_5 s_4 d_6 e_7 H locs h hP hD hS => ?_)
        obtain ⟨hd, h⟩ := h
        have J_37 : ∀ (y_j37 : Ly) (s_j37 : St) (d_j37 e_j37 : Nat) (x1j37 : Int32) (x2j37 : Int32) (H : Heap) (locs : List Loc), wja_Cw_keepTape_37 mc ms Post K_4 a0 y_j37 s_j37 d_j37 e_j37 x1j37 x2j37 → va_P D CL (ws g ad y_j37 s_j37) H → va_D A (ws g ad y_j37 s_j37) → va_S A s.heap H locs → ∀ ls, lv_has ls 4 [(0, .ref (ad a0)), (1, .int x1j37), (2, .int x2j37)] → W p l e (ra_Cw_keepTape mc ms) s m args below meth c H locs d_j37 e_j37 Q (F0 m 37 ls []) := by
          intro y_j37 s_j37 d_j37 e_j37 x1j37 x2j37 H locs h hP hD hS ls hl
          unfold wja_Cw_keepTape_37 at h
          obtain ⟨hd, h⟩ := h
          refine lv_aload_n G.1 G.2.1 d_Cw_keepTape_37 rfl (lv_at hl 0 rfl) ?_
          refine ugf (v := .ref (ad (lk a0 0))) G hP h_a0 iCw rfl 0 (by decide) rfl q1134 rfl rfl d_Cw_keepTape_38 ?_
          refine ugf (v := .int (sV s_j37 (lk a0 0) 3)) G hP (lk_11_0 h_a0) iWo rfl 3 (by decide) rfl q555 rfl rfl d_Cw_keepTape_41 ?_
          refine lv_istore_n (lv' := [(3, .int (sV s_j37 (lk a0 0) 3)), (0, .ref (ad a0)), (1, .int x1j37), (2, .int x2j37)]) G.1 G.2.1 d_Cw_keepTape_44 rfl hl (by decide) rfl (fun ls hl => ?_)
          refine lv_goto (tgt := 4) G.1 G.2.1 d_Cw_keepTape_45 (by decide) ?_
          have h := hK_4 y_j37 s_j37 d_j37 e_j37 x1j37 x2j37 (sV s_j37 (lk a0 0) 3) h
          exact ih_4 y_j37 s_j37 d_j37 e_j37 x1j37 x2j37 (sV s_j37 (lk a0 0) 3) (Nat.lt_of_lt_of_le h.2 (Nat.le_of_lt_succ hμ_4)) h.1 H locs hP hD hS ls (lv_sub hl [1, 2, 3, 0] rfl)
        refine lv_if_eq (tgt := 37) G.1 G.2.1 d_Cw_keepTape_22 (by decide) (fun c22 => ?_) (fun c22 => ?_)
        · skip
          have h := h.1 c22
          exact J_37 y_5 s_4 (d_h4 + d_6) (e_h4 + e_7) x1h4 x2h4 H locs h hP hD hS ls (lv_sub hl [0, 1, 2] rfl)
        · skip
          have h := h.2 c22
          refine W.eq (g2 := F0 m 25 ls []) rfl ?_
          refine lv_aload_n G.1 G.2.1 d_Cw_keepTape_25 rfl (lv_at hl 0 rfl) ?_
          refine lv_aload_n G.1 G.2.1 d_Cw_keepTape_26 rfl (lv_at hl 0 rfl) ?_
          refine ugf (v := .ref (yP y_5 a0 6)) G hP h_a0 iCw rfl 6 (by decide) rfl q1140 rfl rfl d_Cw_keepTape_27 ?_
          refine lv_iload_n G.1 G.2.1 d_Cw_keepTape_30 rfl (lv_at hl 3 rfl) ?_
          refine lv_iload_n G.1 G.2.1 d_Cw_keepTape_31 rfl (lv_at hl 1 rfl) ?_
          refine lv_iload_n G.1 G.2.1 d_Cw_keepTape_32 rfl (lv_at hl 2 rfl) ?_
          refine ucVi (As := [.ref (yP y_5 a0 6), .int x3h4, .int x1h4, .int x2h4]) (rest := []) G hP hD hS (cu_Cw_keepLine l D g ad y_5 _ s_4 a0 a0 6 x3h4 x1h4 x2h4 H.size h_a0 ⟨(kdp h_a0 rfl), (typ h_a0 rfl)⟩ h) w9_Cw_keepLine q2460 ⟨Nat.le_of_ble_eq_true rfl, Nat.le_of_ble_eq_true rfl⟩ rfl rfl h_a0 (q := (RCw, TCw, 20)) rfl rfl hl.1 rfl (Nat.le_of_ble_eq_true rfl) rfl hd d_Cw_keepTape_33 (fun r_11 s_12 H locs h hP hD hS => ?_)
          refine lv_istore_n (lv' := [(2, .int r_11), (0, .ref (ad a0)), (1, .int x1h4), (3, .int x3h4)]) G.1 G.2.1 d_Cw_keepTape_36 rfl hl (by decide) rfl (fun ls hl => ?_)
          exact J_37 y_5 s_12 (d_h4 + d_6) (e_h4 + e_7) x1h4 r_11 H locs h hP hD hS ls (lv_sub hl [1, 2, 0] rfl)
  exact L_4 _ y σ 0 0 v1 0 0 (Nat.lt_succ_self _) hI_4 H locs hP hD hS ls (lv_sub hl [2, 3, 1, 0] rfl)
theorem q2455 : Cond.methodLink "ClassWorks" 437 y_Re_callLine ∈ lw_ok := lw_okmem (List.mem_of_getElem? (i := 2455) (by decide +kernel)) rfl
theorem q2456 : Cond.methodLink "ClassWorks" 440 y_Cw_keepTape ∈ lw_ok := lw_okmem (List.mem_of_getElem? (i := 2456) (by decide +kernel)) rfl
theorem q2459 : Cond.code y_Cw_keepTape b_Cw_keepTape 4 (some .int) ∈ lw_ok := lw_okmem (List.mem_of_getElem? (i := 2459) (by decide +kernel)) rfl
theorem q2458 : Cond.instanceMethod y_Cw_keepTape ∈ lw_ok := lw_okmem (List.mem_of_getElem? (i := 2458) (by decide +kernel)) rfl
theorem q151 : Cond.selects y_Cw_keepTape.cls y_Cw_keepTape y_Cw_keepTape ∈ lw_ok := lw_okmem (List.mem_of_getElem? (i := 151) (by decide +kernel)) rfl
theorem w9_Cw_keepTape : CWv y_Cw_keepTape b_Cw_keepTape 4 (some .int) 1 ∧ Cond.instanceMethod y_Cw_keepTape ∈ lw_ok ∧ Cond.selects y_Cw_keepTape.cls y_Cw_keepTape y_Cw_keepTape ∈ lw_ok := ⟨⟨q2459, q329, by decide +kernel, by decide +kernel, by decide +kernel⟩, q2458, q151⟩
def y_Cw_trial : MethodName := ⟨"ClassWorks", "trial", "()I"⟩
abbrev b_Cw_trial : ByteArray := prog_1_method_45_code
theorem d_Cw_trial_0 : decode b_Cw_trial 0 = .ok (.iconst 0, 1) := by decide +kernel
theorem d_Cw_trial_1 : decode b_Cw_trial 1 = .ok (.istore_n 1, 1) := by decide +kernel
theorem d_Cw_trial_2 : decode b_Cw_trial 2 = .ok (.iconst 0, 1) := by decide +kernel
theorem d_Cw_trial_3 : decode b_Cw_trial 3 = .ok (.istore_n 2, 1) := by decide +kernel
theorem d_Cw_trial_4 : decode b_Cw_trial 4 = .ok (.iconst 0, 1) := by decide +kernel
theorem d_Cw_trial_5 : decode b_Cw_trial 5 = .ok (.istore_n 3, 1) := by decide +kernel
theorem d_Cw_trial_6 : decode b_Cw_trial 6 = .ok (.iload_n 3, 1) := by decide +kernel
theorem d_Cw_trial_7 : decode b_Cw_trial 7 = .ok (.aload_n 0, 1) := by decide +kernel
theorem d_Cw_trial_8 : decode b_Cw_trial 8 = .ok (.getfield 21, 3) := by decide +kernel
theorem d_Cw_trial_11 : decode b_Cw_trial 11 = .ok (.if_icmp .ge 38, 3) := by decide +kernel
theorem d_Cw_trial_14 : decode b_Cw_trial 14 = .ok (.aload_n 0, 1) := by decide +kernel
theorem d_Cw_trial_15 : decode b_Cw_trial 15 = .ok (.getfield 72, 3) := by decide +kernel
theorem d_Cw_trial_18 : decode b_Cw_trial 18 = .ok (.aload_n 0, 1) := by decide +kernel
theorem d_Cw_trial_19 : decode b_Cw_trial 19 = .ok (.getfield 17, 3) := by decide +kernel
theorem d_Cw_trial_22 : decode b_Cw_trial 22 = .ok (.iload_n 3, 1) := by decide +kernel
theorem d_Cw_trial_23 : decode b_Cw_trial 23 = .ok (.aload_n 0, 1) := by decide +kernel
theorem d_Cw_trial_24 : decode b_Cw_trial 24 = .ok (.getfield 21, 3) := by decide +kernel
theorem d_Cw_trial_27 : decode b_Cw_trial 27 = .ok (.invokevirtual 430, 3) := by decide +kernel
theorem d_Cw_trial_30 : decode b_Cw_trial 30 = .ok (.ifCond .eq 8, 3) := by decide +kernel
theorem d_Cw_trial_33 : decode b_Cw_trial 33 = .ok (.iinc 1 1, 3) := by decide +kernel
theorem d_Cw_trial_36 : decode b_Cw_trial 36 = .ok (.iload_n 3, 1) := by decide +kernel
theorem d_Cw_trial_37 : decode b_Cw_trial 37 = .ok (.istore_n 2, 1) := by decide +kernel
theorem d_Cw_trial_38 : decode b_Cw_trial 38 = .ok (.aload_n 0, 1) := by decide +kernel
theorem d_Cw_trial_39 : decode b_Cw_trial 39 = .ok (.getfield 72, 3) := by decide +kernel
theorem d_Cw_trial_42 : decode b_Cw_trial 42 = .ok (.getfield 434, 3) := by decide +kernel
theorem d_Cw_trial_45 : decode b_Cw_trial 45 = .ok (.istore_n 3, 1) := by decide +kernel
theorem d_Cw_trial_46 : decode b_Cw_trial 46 = .ok (.goto (-40), 3) := by decide +kernel
theorem d_Cw_trial_49 : decode b_Cw_trial 49 = .ok (.aload_n 0, 1) := by decide +kernel
theorem d_Cw_trial_50 : decode b_Cw_trial 50 = .ok (.getfield 46, 3) := by decide +kernel
theorem d_Cw_trial_53 : decode b_Cw_trial 53 = .ok (.bipush 40, 2) := by decide +kernel
theorem d_Cw_trial_55 : decode b_Cw_trial 55 = .ok (.if_icmp .eq 19, 3) := by decide +kernel
theorem d_Cw_trial_58 : decode b_Cw_trial 58 = .ok (.aload_n 0, 1) := by decide +kernel
theorem d_Cw_trial_59 : decode b_Cw_trial 59 = .ok (.getfield 21, 3) := by decide +kernel
theorem d_Cw_trial_62 : decode b_Cw_trial 62 = .ok (.sipush 1200, 3) := by decide +kernel
theorem d_Cw_trial_65 : decode b_Cw_trial 65 = .ok (.if_icmp .gt 9, 3) := by decide +kernel
theorem d_Cw_trial_68 : decode b_Cw_trial 68 = .ok (.iload_n 1, 1) := by decide +kernel
theorem d_Cw_trial_69 : decode b_Cw_trial 69 = .ok (.bipush 60, 2) := by decide +kernel
theorem d_Cw_trial_71 : decode b_Cw_trial 71 = .ok (.if_icmp .le 6, 3) := by decide +kernel
theorem d_Cw_trial_74 : decode b_Cw_trial 74 = .ok (.bipush (-3), 2) := by decide +kernel
theorem d_Cw_trial_76 : decode b_Cw_trial 76 = .ok (.ireturn, 1) := by decide +kernel
theorem d_Cw_trial_77 : decode b_Cw_trial 77 = .ok (.aload_n 0, 1) := by decide +kernel
theorem d_Cw_trial_78 : decode b_Cw_trial 78 = .ok (.getfield 21, 3) := by decide +kernel
theorem d_Cw_trial_81 : decode b_Cw_trial 81 = .ok (.istore_n 3, 1) := by decide +kernel
theorem d_Cw_trial_82 : decode b_Cw_trial 82 = .ok (.aload_n 0, 1) := by decide +kernel
theorem d_Cw_trial_83 : decode b_Cw_trial 83 = .ok (.iconst 0, 1) := by decide +kernel
theorem d_Cw_trial_84 : decode b_Cw_trial 84 = .ok (.putfield 21, 3) := by decide +kernel
theorem d_Cw_trial_87 : decode b_Cw_trial 87 = .ok (.iload_n 1, 1) := by decide +kernel
theorem d_Cw_trial_88 : decode b_Cw_trial 88 = .ok (.ifCond .ne 11, 3) := by decide +kernel
theorem d_Cw_trial_91 : decode b_Cw_trial 91 = .ok (.aload_n 0, 1) := by decide +kernel
theorem d_Cw_trial_92 : decode b_Cw_trial 92 = .ok (.iload_n 3, 1) := by decide +kernel
theorem d_Cw_trial_93 : decode b_Cw_trial 93 = .ok (.putfield 25, 3) := by decide +kernel
theorem d_Cw_trial_96 : decode b_Cw_trial 96 = .ok (.bipush (-11), 2) := by decide +kernel
theorem d_Cw_trial_98 : decode b_Cw_trial 98 = .ok (.ireturn, 1) := by decide +kernel
theorem d_Cw_trial_99 : decode b_Cw_trial 99 = .ok (.aload_n 0, 1) := by decide +kernel
theorem d_Cw_trial_100 : decode b_Cw_trial 100 = .ok (.getfield 72, 3) := by decide +kernel
theorem d_Cw_trial_103 : decode b_Cw_trial 103 = .ok (.aload_n 0, 1) := by decide +kernel
theorem d_Cw_trial_104 : decode b_Cw_trial 104 = .ok (.getfield 17, 3) := by decide +kernel
theorem d_Cw_trial_107 : decode b_Cw_trial 107 = .ok (.iload_n 2, 1) := by decide +kernel
theorem d_Cw_trial_108 : decode b_Cw_trial 108 = .ok (.iload_n 3, 1) := by decide +kernel
theorem d_Cw_trial_109 : decode b_Cw_trial 109 = .ok (.invokevirtual 430, 3) := by decide +kernel
theorem d_Cw_trial_112 : decode b_Cw_trial 112 = .ok (.pop, 1) := by decide +kernel
theorem d_Cw_trial_113 : decode b_Cw_trial 113 = .ok (.aload_n 0, 1) := by decide +kernel
theorem d_Cw_trial_114 : decode b_Cw_trial 114 = .ok (.getfield 81, 3) := by decide +kernel
theorem d_Cw_trial_117 : decode b_Cw_trial 117 = .ok (.aload_n 0, 1) := by decide +kernel
theorem d_Cw_trial_118 : decode b_Cw_trial 118 = .ok (.getfield 13, 3) := by decide +kernel
theorem d_Cw_trial_121 : decode b_Cw_trial 121 = .ok (.iconst 3, 1) := by decide +kernel
theorem d_Cw_trial_122 : decode b_Cw_trial 122 = .ok (.aaload, 1) := by decide +kernel
theorem d_Cw_trial_123 : decode b_Cw_trial 123 = .ok (.getfield 202, 3) := by decide +kernel
theorem d_Cw_trial_126 : decode b_Cw_trial 126 = .ok (.iconst 0, 1) := by decide +kernel
theorem d_Cw_trial_127 : decode b_Cw_trial 127 = .ok (.aaload, 1) := by decide +kernel
theorem d_Cw_trial_128 : decode b_Cw_trial 128 = .ok (.iconst 1, 1) := by decide +kernel
theorem d_Cw_trial_129 : decode b_Cw_trial 129 = .ok (.invokevirtual 437, 3) := by decide +kernel
theorem d_Cw_trial_132 : decode b_Cw_trial 132 = .ok (.istore 4, 2) := by decide +kernel
theorem d_Cw_trial_134 : decode b_Cw_trial 134 = .ok (.aload_n 0, 1) := by decide +kernel
theorem d_Cw_trial_135 : decode b_Cw_trial 135 = .ok (.iload 4, 2) := by decide +kernel
theorem d_Cw_trial_137 : decode b_Cw_trial 137 = .ok (.ifCond .eq 8, 3) := by decide +kernel
theorem d_Cw_trial_140 : decode b_Cw_trial 140 = .ok (.bipush (-2), 2) := by decide +kernel
theorem d_Cw_trial_142 : decode b_Cw_trial 142 = .ok (.goto 10, 3) := by decide +kernel
theorem d_Cw_trial_145 : decode b_Cw_trial 145 = .ok (.aload_n 0, 1) := by decide +kernel
theorem d_Cw_trial_146 : decode b_Cw_trial 146 = .ok (.getfield 81, 3) := by decide +kernel
theorem d_Cw_trial_149 : decode b_Cw_trial 149 = .ok (.getfield 144, 3) := by decide +kernel
theorem d_Cw_trial_152 : decode b_Cw_trial 152 = .ok (.putfield 25, 3) := by decide +kernel
theorem d_Cw_trial_155 : decode b_Cw_trial 155 = .ok (.iload 4, 2) := by decide +kernel
theorem d_Cw_trial_157 : decode b_Cw_trial 157 = .ok (.ifCond .eq 11, 3) := by decide +kernel
theorem d_Cw_trial_160 : decode b_Cw_trial 160 = .ok (.aload_n 0, 1) := by decide +kernel
theorem d_Cw_trial_161 : decode b_Cw_trial 161 = .ok (.iload_n 3, 1) := by decide +kernel
theorem d_Cw_trial_162 : decode b_Cw_trial 162 = .ok (.invokevirtual 440, 3) := by decide +kernel
theorem d_Cw_trial_165 : decode b_Cw_trial 165 = .ok (.goto 5, 3) := by decide +kernel
theorem d_Cw_trial_168 : decode b_Cw_trial 168 = .ok (.bipush (-11), 2) := by decide +kernel
theorem d_Cw_trial_170 : decode b_Cw_trial 170 = .ok (.ireturn, 1) := by decide +kernel
abbrev ra_Cw_trial (mc ms : Nat) : Room := { frames := 10, cells := mc, slots := ms, locals := 539 }
def wja_Cw_trial_74 (mc ms : Nat) (Post : Ly → St → Int32 → Nat → Nat → Prop) (a0 : Nat) (y_j74 : Ly) (s_j74 : St) (d_j74 e_j74 : Nat) : Prop := (d_j74 ≤ mc ∧ e_j74 ≤ ms) ∧ Post y_j74 s_j74 (-3) d_j74 e_j74
def wja_Cw_trial_170 (mc ms : Nat) (Post : Ly → St → Int32 → Nat → Nat → Prop) (a0 : Nat) (y_j170 : Ly) (s_j170 : St) (d_j170 e_j170 : Nat) (z0j170 : Int32) : Prop := (d_j170 ≤ mc ∧ e_j170 ≤ ms) ∧ Post y_j170 s_j170 z0j170 d_j170 e_j170
def wja_Cw_trial_152 (mc ms : Nat) (Post : Ly → St → Int32 → Nat → Nat → Prop) (a0 : Nat) (y_j152 : Ly) (s_j152 : St) (d_j152 e_j152 : Nat) (x3j152 : Int32) (x4j152 : Int32) (z1j152 : Int32) : Prop := (d_j152 ≤ mc ∧ e_j152 ≤ ms) ∧ xP (uV s_j152 a0 8 z1j152) (fun s_22 : St => ((x4j152 = 0 → wja_Cw_trial_170 mc ms Post a0 y_j152 s_22 d_j152 e_j152 (-11)) ∧ (¬ (x4j152 = 0) → ∃ mc_28 ms_29 : Nat, (d_j152 + mc_28 ≤ mc ∧ e_j152 + ms_29 ≤ ms) ∧ wa_Cw_keepTape mc_28 ms_29 y_j152 (fun (y_25 : Ly) (s_24 : St) (r_23 : Int32) (d_26 e_27 : Nat) => (d_j152 + d_26 ≤ mc ∧ e_j152 + e_27 ≤ ms) ∧ wja_Cw_trial_170 mc ms Post a0 y_25 s_24 (d_j152 + d_26) (e_j152 + e_27) r_23) s_22 a0 x3j152)))
def wja_Cw_trial_38 (mc ms : Nat) (Post : Ly → St → Int32 → Nat → Nat → Prop) (K_6 : Ly → St → Nat → Nat → Int32 → Int32 → Int32 → Prop) (a0 : Nat) (y_j38 : Ly) (s_j38 : St) (d_j38 e_j38 : Nat) (x1j38 : Int32) (x2j38 : Int32) : Prop := (d_j38 ≤ mc ∧ e_j38 ≤ ms) ∧ K_6 y_j38 s_j38 d_j38 e_j38 x1j38 x2j38 (sV s_j38 (lk a0 0) 3)
def wba_Cw_trial_6 (mc ms : Nat) (Post : Ly → St → Int32 → Nat → Nat → Prop) (K_6 : Ly → St → Nat → Nat → Int32 → Int32 → Int32 → Prop) (a0 : Nat) (y_h6 : Ly) (s_h6 : St) (d_h6 e_h6 : Nat) (x1h6 : Int32) (x2h6 : Int32) (x3h6 : Int32) : Prop := (d_h6 ≤ mc ∧ e_h6 ≤ ms) ∧ (((sV s_h6 a0 7) ≤ x3h6 → (((sV s_h6 a0 14) = 40 → wja_Cw_trial_74 mc ms Post a0 y_h6 s_h6 d_h6 e_h6) ∧ (¬ ((sV s_h6 a0 14) = 40) → ((1200 < (sV s_h6 a0 7) → wja_Cw_trial_74 mc ms Post a0 y_h6 s_h6 d_h6 e_h6) ∧ (¬ (1200 < (sV s_h6 a0 7)) → ((x1h6 ≤ 60 → xP (uV s_h6 a0 7 0) (fun s_1 : St => ((¬ x1h6 = 0 → ∃ mc_7 ms_8 : Nat, (d_h6 + mc_7 ≤ mc ∧ e_h6 + ms_8 ≤ ms) ∧ wa_Wo_load mc_7 ms_8 y_h6 (fun (y_4 : Ly) (s_3 : St) (r_2 : Int32) (d_5 e_6 : Nat) => (d_h6 + d_5 ≤ mc ∧ e_h6 + e_6 ≤ ms) ∧ xQ y_4 a0 5 3 (fun b_10 : Nat => xQ y_4 b_10 2 0 (fun b_12 : Nat => ∃ mc_19 ms_20 : Nat, (d_h6 + d_5 + mc_19 ≤ mc ∧ e_h6 + e_6 + ms_20 ≤ ms) ∧ wa_Re_callLine mc_19 ms_20 y_4 (fun (y_16 : Ly) (s_15 : St) (r_14 : Int32) (d_17 e_18 : Nat) => (d_h6 + d_5 + d_17 ≤ mc ∧ e_h6 + e_6 + e_18 ≤ ms) ∧ ((r_14 = 0 → wja_Cw_trial_152 mc ms Post a0 y_16 s_15 (d_h6 + d_5 + d_17) (e_h6 + e_6 + e_18) (sV s_h6 a0 7) r_14 (sV s_15 (lk a0 1) 0)) ∧ (¬ (r_14 = 0) → wja_Cw_trial_152 mc ms Post a0 y_16 s_15 (d_h6 + d_5 + d_17) (e_h6 + e_6 + e_18) (sV s_h6 a0 7) r_14 (-2)))) s_3 (lk a0 1) b_12 1))) s_1 (lk a0 0) a0 6 x2h6 (sV s_h6 a0 7)) ∧ (x1h6 = 0 → xP (uV s_1 a0 8 (sV s_h6 a0 7)) (fun s_31 : St => Post y_h6 s_31 (-11) d_h6 e_h6))))) ∧ (¬ (x1h6 ≤ 60) → wja_Cw_trial_74 mc ms Post a0 y_h6 s_h6 d_h6 e_h6))))))) ∧ (¬ ((sV s_h6 a0 7) ≤ x3h6) → ∃ mc_37 ms_38 : Nat, (d_h6 + mc_37 ≤ mc ∧ e_h6 + ms_38 ≤ ms) ∧ wa_Wo_load mc_37 ms_38 y_h6 (fun (y_34 : Ly) (s_33 : St) (r_32 : Int32) (d_35 e_36 : Nat) => (d_h6 + d_35 ≤ mc ∧ e_h6 + e_36 ≤ ms) ∧ ((r_32 = 0 → wja_Cw_trial_38 mc ms Post K_6 a0 y_34 s_33 (d_h6 + d_35) (e_h6 + e_36) x1h6 x2h6) ∧ (¬ (r_32 = 0) → wja_Cw_trial_38 mc ms Post K_6 a0 y_34 s_33 (d_h6 + d_35) (e_h6 + e_36) (x1h6 + 1) x3h6))) s_h6 (lk a0 0) a0 6 x3h6 (sV s_h6 a0 7)))
def wla_Cw_trial_6 (mc ms : Nat) (Post : Ly → St → Int32 → Nat → Nat → Prop) (a0 : Nat) (y_h6 : Ly) (s_h6 : St) (d_h6 e_h6 : Nat) (x1h6 : Int32) (x2h6 : Int32) (x3h6 : Int32) : Prop := ∃ (I : Ly → St → Nat → Nat → Int32 → Int32 → Int32 → Prop) (μ : Ly → St → Nat → Nat → Int32 → Int32 → Int32 → Nat), I y_h6 s_h6 d_h6 e_h6 x1h6 x2h6 x3h6 ∧ ∀ (u1 : Ly) (u2 : St) (u3 u4 : Nat) (t0 : Int32) (t1 : Int32) (t2 : Int32), I u1 u2 u3 u4 t0 t1 t2 → wba_Cw_trial_6 mc ms Post (fun z1 z2 z3 z4 t0q t1q t2q => I z1 z2 z3 z4 t0q t1q t2q ∧ μ z1 z2 z3 z4 t0q t1q t2q < μ u1 u2 u3 u4 t0 t1 t2) a0 u1 u2 u3 u4 t0 t1 t2
def wa_Cw_trial (mc ms : Nat) (y : Ly) (Post : Ly → St → Int32 → Nat → Nat → Prop) (σ : St) (a0 : Nat) : Prop := wla_Cw_trial_6 mc ms Post a0 y σ 0 0 0 0 0
set_option maxHeartbeats 4000000 in
set_option maxRecDepth 100000 in
theorem ca_Cw_trial (l : Launch) (D : va_G) (g : Nat → ClassId) (ad : Nat → Nat) (mc ms : Nat) (y : Ly) (Post : Ly → St → Int32 → Nat → Nat → Prop) (σ : St) (a0 : Nat) (sz uz : Nat) (h_a0 : cl a0 = 11) (h : wa_Cw_trial mc ms y Post σ a0) : Met l y_Cw_trial (mw y_Cw_trial b_Cw_trial 5 (some .int)) (ra_Cw_trial mc ms) (PCu g D [] [.ref (ad a0)] sz uz (ws g ad y σ)) (va_Qi (fun (r : Int32) (u : Ly × St × Nat × Nat) => Post u.1 u.2.1 r u.2.2.1 u.2.2.2) (QU D (va_A (ws g ad y σ) sz) (fun u => ws g ad u.1 u.2.1) sz uz (fun u => u.2.2.1) (fun u => u.2.2.2)) (va_A (ws g ad y σ) sz)) mc ms (va_A (ws g ad y σ) sz) := by
  refine ofIu (by decide +kernel) (Nat.le_of_ble_eq_true rfl) ?_
  intro p e s m args below meth c A Q ls H locs G hsz hP hD hS hl hret
  subst hsz
  have hl : lv_has ls 5 [(0, .ref (ad a0))] := hl
  have hd : 0 ≤ mc ∧ 0 ≤ ms := ⟨Nat.zero_le _, Nat.zero_le _⟩
  unfold wa_Cw_trial at h
  refine lv_iconst (v := 0) G.1 G.2.1 d_Cw_trial_0 (by decide) ?_
  refine lv_istore_n (lv' := [(1, .int 0), (0, .ref (ad a0))]) G.1 G.2.1 d_Cw_trial_1 rfl hl (by decide) rfl (fun ls hl => ?_)
  refine lv_iconst (v := 0) G.1 G.2.1 d_Cw_trial_2 (by decide) ?_
  refine lv_istore_n (lv' := [(2, .int 0), (1, .int 0), (0, .ref (ad a0))]) G.1 G.2.1 d_Cw_trial_3 rfl hl (by decide) rfl (fun ls hl => ?_)
  refine lv_iconst (v := 0) G.1 G.2.1 d_Cw_trial_4 (by decide) ?_
  refine lv_istore_n (lv' := [(3, .int 0), (2, .int 0), (1, .int 0), (0, .ref (ad a0))]) G.1 G.2.1 d_Cw_trial_5 rfl hl (by decide) rfl (fun ls hl => ?_)
  unfold wla_Cw_trial_6 at h
  obtain ⟨I_6, μ_6, hI_6, hB_6⟩ := h
  have L_6 : ∀ (n_6 : Nat) (y_h6 : Ly) (s_h6 : St) (d_h6 e_h6 : Nat) (x1h6 : Int32) (x2h6 : Int32) (x3h6 : Int32), μ_6 y_h6 s_h6 d_h6 e_h6 x1h6 x2h6 x3h6 < n_6 → I_6 y_h6 s_h6 d_h6 e_h6 x1h6 x2h6 x3h6 → ∀ (H : Heap) (locs : List Loc), va_P D CL (ws g ad y_h6 s_h6) H → va_D A (ws g ad y_h6 s_h6) → va_S A s.heap H locs → ∀ ls, lv_has ls 5 [(0, .ref (ad a0)), (1, .int x1h6), (2, .int x2h6), (3, .int x3h6)] → W p l e (ra_Cw_trial mc ms) s m args below meth c H locs d_h6 e_h6 Q (F0 m 6 ls []) := by
    intro n_6
    induction n_6 with
    | zero => intro y_h6 s_h6 d_h6 e_h6 x1h6 x2h6 x3h6 hμ; exact absurd hμ (Nat.not_lt_zero _)
    | succ n_6 ih_6 =>
      intro y_h6 s_h6 d_h6 e_h6 x1h6 x2h6 x3h6 hμ_6 hJ H locs hP hD hS ls hl
      obtain ⟨K_6, hK_6, h⟩ : ∃ K : Ly → St → Nat → Nat → Int32 → Int32 → Int32 → Prop, (∀ z1 z2 z3 z4 (t0 : Int32) (t1 : Int32) (t2 : Int32), K z1 z2 z3 z4 t0 t1 t2 → I_6 z1 z2 z3 z4 t0 t1 t2 ∧ μ_6 z1 z2 z3 z4 t0 t1 t2 < μ_6 y_h6 s_h6 d_h6 e_h6 x1h6 x2h6 x3h6) ∧ wba_Cw_trial_6 mc ms Post K a0 y_h6 s_h6 d_h6 e_h6 x1h6 x2h6 x3h6 := ⟨_, fun _ _ _ _ _ _ _ h => h, hB_6 y_h6 s_h6 d_h6 e_h6 x1h6 x2h6 x3h6 hJ⟩
      unfold wba_Cw_trial_6 at h
      obtain ⟨hd, h⟩ := h
      refine lv_iload_n G.1 G.2.1 d_Cw_trial_6 rfl (lv_at hl 3 rfl) ?_
      refine lv_aload_n G.1 G.2.1 d_Cw_trial_7 rfl (lv_at hl 0 rfl) ?_
      refine ugf (v := .int (sV s_h6 a0 7)) G hP h_a0 iCw rfl 7 (by decide) rfl q1141 rfl rfl d_Cw_trial_8 ?_
      refine lv_icmp_ge (tgt := 49) G.1 G.2.1 d_Cw_trial_11 (by decide) (fun c11 => ?_) (fun c11 => ?_)
      · skip
        have h := h.1 c11
        refine lv_aload_n G.1 G.2.1 d_Cw_trial_49 rfl (lv_at hl 0 rfl) ?_
        refine ugf (v := .int (sV s_h6 a0 14)) G hP h_a0 iCw rfl 14 (by decide) rfl q1148 rfl rfl d_Cw_trial_50 ?_
        refine lv_bipush (v := 40) G.1 G.2.1 d_Cw_trial_53 (by decide) ?_
        have J_74 : ∀ (y_j74 : Ly) (s_j74 : St) (d_j74 e_j74 : Nat) (H : Heap) (locs : List Loc), wja_Cw_trial_74 mc ms Post a0 y_j74 s_j74 d_j74 e_j74 → va_P D CL (ws g ad y_j74 s_j74) H → va_D A (ws g ad y_j74 s_j74) → va_S A s.heap H locs → ∀ ls, lv_has ls 5 [] → W p l e (ra_Cw_trial mc ms) s m args below meth c H locs d_j74 e_j74 Q (F0 m 74 ls []) := by
          intro y_j74 s_j74 d_j74 e_j74 H locs h hP hD hS ls hl
          unfold wja_Cw_trial_74 at h
          obtain ⟨hd, h⟩ := h
          refine lv_bipush (v := (-3)) G.1 G.2.1 d_Cw_trial_74 (by decide) ?_
          exact hret _ (y_j74, s_j74, d_j74, e_j74) _ _ _ _ _ ls h hP hD hS (Nat.le_refl _) (Nat.le_refl _) hd.1 hd.2 d_Cw_trial_76
        refine lv_icmp_eq (tgt := 74) G.1 G.2.1 d_Cw_trial_55 (by decide) (fun c55 => ?_) (fun c55 => ?_)
        · skip
          have h := h.1 c55
          exact J_74 y_h6 s_h6 d_h6 e_h6 H locs h hP hD hS ls (lv_sub hl [] rfl)
        · skip
          have h := h.2 c55
          refine lv_aload_n G.1 G.2.1 d_Cw_trial_58 rfl (lv_at hl 0 rfl) ?_
          refine ugf (v := .int (sV s_h6 a0 7)) G hP h_a0 iCw rfl 7 (by decide) rfl q1141 rfl rfl d_Cw_trial_59 ?_
          refine lv_sipush (v := 1200) G.1 G.2.1 d_Cw_trial_62 (by decide) ?_
          refine W.eq (g2 := F0 m 65 ls [.int 1200, .int (sV s_h6 a0 7)]) rfl ?_
          refine lv_icmp_gt (tgt := 74) G.1 G.2.1 d_Cw_trial_65 (by decide) (fun c65 => ?_) (fun c65 => ?_)
          · skip
            have h := h.1 c65
            exact J_74 y_h6 s_h6 d_h6 e_h6 H locs h hP hD hS ls (lv_sub hl [] rfl)
          · skip
            have h := h.2 c65
            refine lv_iload_n G.1 G.2.1 d_Cw_trial_68 rfl (lv_at hl 1 rfl) ?_
            refine lv_bipush (v := 60) G.1 G.2.1 d_Cw_trial_69 (by decide) ?_
            refine lv_icmp_le (tgt := 77) G.1 G.2.1 d_Cw_trial_71 (by decide) (fun c71 => ?_) (fun c71 => ?_)
            · skip
              have h := h.1 c71
              refine lv_aload_n G.1 G.2.1 d_Cw_trial_77 rfl (lv_at hl 0 rfl) ?_
              refine ugf (v := .int (sV s_h6 a0 7)) G hP h_a0 iCw rfl 7 (by decide) rfl q1141 rfl rfl d_Cw_trial_78 ?_
              refine lv_istore_n (lv' := [(3, .int (sV s_h6 a0 7)), (0, .ref (ad a0)), (1, .int x1h6), (2, .int x2h6)]) G.1 G.2.1 d_Cw_trial_81 rfl hl (by decide) rfl (fun ls hl => ?_)
              refine lv_aload_n G.1 G.2.1 d_Cw_trial_82 rfl (lv_at hl 1 rfl) ?_
              refine lv_iconst (v := 0) G.1 G.2.1 d_Cw_trial_83 (by decide) ?_
              refine upf G hP hD hS h 7 putV h_a0 iCw tCw tCw_ok nCw rfl (by decide) rfl q1141 rfl rfl fV rfl rfl d_Cw_trial_84 (fun s_1 H locs h hP hD hS => ?_)
              refine lv_iload_n G.1 G.2.1 d_Cw_trial_87 rfl (lv_at hl 2 rfl) ?_
              refine lv_if_ne (tgt := 99) G.1 G.2.1 d_Cw_trial_88 (by decide) (fun c88 => ?_) (fun c88 => ?_)
              · skip
                have h := h.1 c88
                refine W.eq (g2 := F0 m 99 ls []) rfl ?_
                refine lv_aload_n G.1 G.2.1 d_Cw_trial_99 rfl (lv_at hl 1 rfl) ?_
                refine ugf (v := .ref (ad (lk a0 0))) G hP h_a0 iCw rfl 0 (by decide) rfl q1134 rfl rfl d_Cw_trial_100 ?_
                refine lv_aload_n G.1 G.2.1 d_Cw_trial_103 rfl (lv_at hl 1 rfl) ?_
                refine ugf (v := .ref (yP y_h6 a0 6)) G hP h_a0 iCw rfl 6 (by decide) rfl q1140 rfl rfl d_Cw_trial_104 ?_
                refine lv_iload_n G.1 G.2.1 d_Cw_trial_107 rfl (lv_at hl 3 rfl) ?_
                refine lv_iload_n G.1 G.2.1 d_Cw_trial_108 rfl (lv_at hl 0 rfl) ?_
                obtain ⟨mc_7, ms_8, hr_9, h⟩ := h
                refine uaVi (As := [.ref (yP y_h6 a0 6), .int x2h6, .int (sV s_h6 a0 7)]) (rest := []) G hP hD hS (ca_Wo_load l D g ad mc_7 ms_8 y_h6 _ s_1 (lk a0 0) a0 6 x2h6 (sV s_h6 a0 7) H.size (us H) (lk_11_0 h_a0) ⟨(kdp h_a0 rfl), (typ h_a0 rfl)⟩ h) w9_Wo_load q2454 ⟨Nat.le_of_ble_eq_true rfl, Nat.le_of_ble_eq_true rfl⟩ rfl rfl (lk_11_0 h_a0) (q := (RWo, TWo, 8)) rfl rfl hl.1 rfl (Nat.le_of_ble_eq_true rfl) rfl hr_9 d_Cw_trial_109 (fun r_2 y_4 s_3 d_5 e_6 H locs h hP hD hS => ?_)
                have hl := lv_sub (l' := [(3, .int (sV s_h6 a0 7)), (0, .ref (ad a0))]) hl [0, 1] rfl
                obtain ⟨hd, h⟩ := h
                refine lv_pop G.1 G.2.1 d_Cw_trial_112 rfl ?_
                refine lv_aload_n G.1 G.2.1 d_Cw_trial_113 rfl (lv_at hl 1 rfl) ?_
                refine ugf (v := .ref (ad (lk a0 1))) G hP h_a0 iCw rfl 1 (by decide) rfl q1135 rfl rfl d_Cw_trial_114 ?_
                refine lv_aload_n G.1 G.2.1 d_Cw_trial_117 rfl (lv_at hl 1 rfl) ?_
                refine ugf (v := .ref (yP y_4 a0 5)) G hP h_a0 iCw rfl 5 (by decide) rfl q1139 rfl rfl d_Cw_trial_118 ?_
                refine W.eq (g2 := F0 m 121 ls [.ref (yP y_4 a0 5), .ref (ad (lk a0 1))]) rfl ?_
                refine lv_iconst (v := 3) G.1 G.2.1 d_Cw_trial_121 (by decide) ?_
                refine uqald G hP (kdp h_a0 rfl) (typ h_a0 rfl) rfl h d_Cw_trial_122 (fun b_10 n_11 h => ?_)
                refine ugf (v := .ref (yP y_4 b_10 2)) G hP (oa_11 h_a0 n_11) iMa rfl 2 (by decide) rfl q1070 rfl rfl d_Cw_trial_123 ?_
                refine lv_iconst (v := 0) G.1 G.2.1 d_Cw_trial_126 (by decide) ?_
                refine uqald G hP (kdp (oa_11 h_a0 n_11) rfl) (typ (oa_11 h_a0 n_11) rfl) rfl h d_Cw_trial_127 (fun b_12 n_13 h => ?_)
                refine lv_iconst (v := 1) G.1 G.2.1 d_Cw_trial_128 (by decide) ?_
                obtain ⟨mc_19, ms_20, hr_21, h⟩ := h
                refine uaVi (As := [.ref (ad b_12), .int 1]) (rest := []) G hP hD hS (ca_Re_callLine l D g ad mc_19 ms_20 y_4 _ s_3 (lk a0 1) b_12 1 H.size (us H) (lk_11_1 h_a0) (oa_4 (oa_11 h_a0 n_11) n_13) h) w9_Re_callLine q2455 ⟨Nat.le_of_ble_eq_true rfl, Nat.le_of_ble_eq_true rfl⟩ rfl rfl (lk_11_1 h_a0) (q := (RRe, TRe, 18)) rfl rfl hl.1 rfl (Nat.le_of_ble_eq_true rfl) rfl hr_21 d_Cw_trial_129 (fun r_14 y_16 s_15 d_17 e_18 H locs h hP hD hS => ?_)
                obtain ⟨hd, h⟩ := h
                refine lv_istore (lv' := [(4, .int r_14), (3, .int (sV s_h6 a0 7)), (0, .ref (ad a0))]) G.1 G.2.1 d_Cw_trial_132 hl (by decide) rfl (fun ls hl => ?_)
                refine lv_aload_n G.1 G.2.1 d_Cw_trial_134 rfl (lv_at hl 2 rfl) ?_
                refine lv_iload G.1 G.2.1 d_Cw_trial_135 (lv_at hl 0 rfl) ?_
                have J_152 : ∀ (y_j152 : Ly) (s_j152 : St) (d_j152 e_j152 : Nat) (x3j152 : Int32) (x4j152 : Int32) (z1j152 : Int32) (H : Heap) (locs : List Loc), wja_Cw_trial_152 mc ms Post a0 y_j152 s_j152 d_j152 e_j152 x3j152 x4j152 z1j152 → va_P D CL (ws g ad y_j152 s_j152) H → va_D A (ws g ad y_j152 s_j152) → va_S A s.heap H locs → ∀ ls, lv_has ls 5 [(0, .ref (ad a0)), (3, .int x3j152), (4, .int x4j152)] → W p l e (ra_Cw_trial mc ms) s m args below meth c H locs d_j152 e_j152 Q (F0 m 152 ls [.int z1j152, .ref (ad a0)]) := by
                  intro y_j152 s_j152 d_j152 e_j152 x3j152 x4j152 z1j152 H locs h hP hD hS ls hl
                  unfold wja_Cw_trial_152 at h
                  obtain ⟨hd, h⟩ := h
                  refine upf G hP hD hS h 8 putV h_a0 iCw tCw tCw_ok nCw rfl (by decide) rfl q1142 rfl rfl fV rfl rfl d_Cw_trial_152 (fun s_22 H locs h hP hD hS => ?_)
                  refine lv_iload G.1 G.2.1 d_Cw_trial_155 (lv_at hl 2 rfl) ?_
                  have J_170 : ∀ (y_j170 : Ly) (s_j170 : St) (d_j170 e_j170 : Nat) (z0j170 : Int32) (H : Heap) (locs : List Loc), wja_Cw_trial_170 mc ms Post a0 y_j170 s_j170 d_j170 e_j170 z0j170 → va_P D CL (ws g ad y_j170 s_j170) H → va_D A (ws g ad y_j170 s_j170) → va_S A s.heap H locs → ∀ ls, lv_has ls 5 [] → W p l e (ra_Cw_trial mc ms) s m args below meth c H locs d_j170 e_j170 Q (F0 m 170 ls [.int z0j170]) := by
                    intro y_j170 s_j170 d_j170 e_j170 z0j170 H locs h hP hD hS ls hl
                    unfold wja_Cw_trial_170 at h
                    obtain ⟨hd, h⟩ := h
                    exact hret _ (y_j170, s_j170, d_j170, e_j170) _ _ _ _ _ ls h hP hD hS (Nat.le_refl _) (Nat.le_refl _) hd.1 hd.2 d_Cw_trial_170
                  refine lv_if_eq (tgt := 168) G.1 G.2.1 d_Cw_trial_157 (by decide) (fun c157 => ?_) (fun c157 => ?_)
                  · skip
                    have h := h.1 c157
                    refine lv_bipush (v := (-11)) G.1 G.2.1 d_Cw_trial_168 (by decide) ?_
                    exact J_170 y_j152 s_22 d_j152 e_j152 (-11) H locs h hP hD hS ls (lv_sub hl [] rfl)
                  · skip
                    have h := h.2 c157
                    refine lv_aload_n G.1 G.2.1 d_Cw_trial_160 rfl (lv_at hl 0 rfl) ?_
                    refine lv_iload_n G.1 G.2.1 d_Cw_trial_161 rfl (lv_at hl 1 rfl) ?_
                    obtain ⟨mc_28, ms_29, hr_30, h⟩ := h
                    refine uaVi (As := [.int x3j152]) (rest := []) G hP hD hS (ca_Cw_keepTape l D g ad mc_28 ms_29 y_j152 _ s_22 a0 x3j152 H.size (us H) h_a0 h) w9_Cw_keepTape q2456 ⟨Nat.le_of_ble_eq_true rfl, Nat.le_of_ble_eq_true rfl⟩ rfl rfl h_a0 (q := (RCw, TCw, 20)) rfl rfl hl.1 rfl (Nat.le_of_ble_eq_true rfl) rfl hr_30 d_Cw_trial_162 (fun r_23 y_25 s_24 d_26 e_27 H locs h hP hD hS => ?_)
                    have hl := lv_sub (l' := []) hl [] rfl
                    obtain ⟨hd, h⟩ := h
                    refine lv_goto (tgt := 170) G.1 G.2.1 d_Cw_trial_165 (by decide) ?_
                    exact J_170 y_25 s_24 (d_j152 + d_26) (e_j152 + e_27) r_23 H locs h hP hD hS ls (lv_sub hl [] rfl)
                refine lv_if_eq (tgt := 145) G.1 G.2.1 d_Cw_trial_137 (by decide) (fun c137 => ?_) (fun c137 => ?_)
                · skip
                  have h := h.1 c137
                  refine lv_aload_n G.1 G.2.1 d_Cw_trial_145 rfl (lv_at hl 2 rfl) ?_
                  refine W.eq (g2 := F0 m 146 ls [.ref (ad a0), .ref (ad a0)]) rfl ?_
                  refine ugf (v := .ref (ad (lk a0 1))) G hP h_a0 iCw rfl 1 (by decide) rfl q1135 rfl rfl d_Cw_trial_146 ?_
                  refine ugf (v := .int (sV s_15 (lk a0 1) 0)) G hP (lk_11_1 h_a0) iRe rfl 0 (by decide) rfl q586 rfl rfl d_Cw_trial_149 ?_
                  exact J_152 y_16 s_15 (d_h6 + d_5 + d_17) (e_h6 + e_6 + e_18) (sV s_h6 a0 7) r_14 (sV s_15 (lk a0 1) 0) H locs h hP hD hS ls (lv_sub hl [2, 1, 0] rfl)
                · skip
                  have h := h.2 c137
                  refine lv_bipush (v := (-2)) G.1 G.2.1 d_Cw_trial_140 (by decide) ?_
                  refine W.eq (g2 := F0 m 142 ls [.int (-2), .ref (ad a0)]) rfl ?_
                  refine lv_goto (tgt := 152) G.1 G.2.1 d_Cw_trial_142 (by decide) ?_
                  exact J_152 y_16 s_15 (d_h6 + d_5 + d_17) (e_h6 + e_6 + e_18) (sV s_h6 a0 7) r_14 (-2) H locs h hP hD hS ls (lv_sub hl [2, 1, 0] rfl)
              · skip
                have h := h.2 c88
                refine W.eq (g2 := F0 m 91 ls []) rfl ?_
                refine lv_aload_n G.1 G.2.1 d_Cw_trial_91 rfl (lv_at hl 1 rfl) ?_
                refine lv_iload_n G.1 G.2.1 d_Cw_trial_92 rfl (lv_at hl 0 rfl) ?_
                refine upf G hP hD hS h 8 putV h_a0 iCw tCw tCw_ok nCw rfl (by decide) rfl q1142 rfl rfl fV rfl rfl d_Cw_trial_93 (fun s_31 H locs h hP hD hS => ?_)
                refine lv_bipush (v := (-11)) G.1 G.2.1 d_Cw_trial_96 (by decide) ?_
                exact hret _ (y_h6, s_31, d_h6, e_h6) _ _ _ _ _ ls h hP hD hS (Nat.le_refl _) (Nat.le_refl _) hd.1 hd.2 d_Cw_trial_98
            · skip
              have h := h.2 c71
              exact J_74 y_h6 s_h6 d_h6 e_h6 H locs h hP hD hS ls (lv_sub hl [] rfl)
      · skip
        have h := h.2 c11
        refine lv_aload_n G.1 G.2.1 d_Cw_trial_14 rfl (lv_at hl 0 rfl) ?_
        refine ugf (v := .ref (ad (lk a0 0))) G hP h_a0 iCw rfl 0 (by decide) rfl q1134 rfl rfl d_Cw_trial_15 ?_
        refine lv_aload_n G.1 G.2.1 d_Cw_trial_18 rfl (lv_at hl 0 rfl) ?_
        refine ugf (v := .ref (yP y_h6 a0 6)) G hP h_a0 iCw rfl 6 (by decide) rfl q1140 rfl rfl d_Cw_trial_19 ?_
        refine lv_iload_n G.1 G.2.1 d_Cw_trial_22 rfl (lv_at hl 3 rfl) ?_
        refine lv_aload_n G.1 G.2.1 d_Cw_trial_23 rfl (lv_at hl 0 rfl) ?_
        refine ugf (v := .int (sV s_h6 a0 7)) G hP h_a0 iCw rfl 7 (by decide) rfl q1141 rfl rfl d_Cw_trial_24 ?_
        refine W.eq (g2 := F0 m 27 ls [.int (sV s_h6 a0 7), .int x3h6, .ref (yP y_h6 a0 6), .ref (ad (lk a0 0))]) rfl ?_
        obtain ⟨mc_37, ms_38, hr_39, h⟩ := h
        refine uaVi (As := [.ref (yP y_h6 a0 6), .int x3h6, .int (sV s_h6 a0 7)]) (rest := []) G hP hD hS (ca_Wo_load l D g ad mc_37 ms_38 y_h6 _ s_h6 (lk a0 0) a0 6 x3h6 (sV s_h6 a0 7) H.size (us H) (lk_11_0 h_a0) ⟨(kdp h_a0 rfl), (typ h_a0 rfl)⟩ h) w9_Wo_load q2454 ⟨Nat.le_of_ble_eq_true rfl, Nat.le_of_ble_eq_true rfl⟩ rfl rfl (lk_11_0 h_a0) (q := (RWo, TWo, 8)) rfl rfl hl.1 rfl (Nat.le_of_ble_eq_true rfl) rfl hr_39 d_Cw_trial_27 (fun r_32 y_34 s_33 d_35 e_36 H locs h hP hD hS => ?_)
        obtain ⟨hd, h⟩ := h
        have J_38 : ∀ (y_j38 : Ly) (s_j38 : St) (d_j38 e_j38 : Nat) (x1j38 : Int32) (x2j38 : Int32) (H : Heap) (locs : List Loc), wja_Cw_trial_38 mc ms Post K_6 a0 y_j38 s_j38 d_j38 e_j38 x1j38 x2j38 → va_P D CL (ws g ad y_j38 s_j38) H → va_D A (ws g ad y_j38 s_j38) → va_S A s.heap H locs → ∀ ls, lv_has ls 5 [(0, .ref (ad a0)), (1, .int x1j38), (2, .int x2j38)] → W p l e (ra_Cw_trial mc ms) s m args below meth c H locs d_j38 e_j38 Q (F0 m 38 ls []) := by
          intro y_j38 s_j38 d_j38 e_j38 x1j38 x2j38 H locs h hP hD hS ls hl
          unfold wja_Cw_trial_38 at h
          obtain ⟨hd, h⟩ := h
          refine lv_aload_n G.1 G.2.1 d_Cw_trial_38 rfl (lv_at hl 0 rfl) ?_
          refine ugf (v := .ref (ad (lk a0 0))) G hP h_a0 iCw rfl 0 (by decide) rfl q1134 rfl rfl d_Cw_trial_39 ?_
          refine ugf (v := .int (sV s_j38 (lk a0 0) 3)) G hP (lk_11_0 h_a0) iWo rfl 3 (by decide) rfl q555 rfl rfl d_Cw_trial_42 ?_
          refine lv_istore_n (lv' := [(3, .int (sV s_j38 (lk a0 0) 3)), (0, .ref (ad a0)), (1, .int x1j38), (2, .int x2j38)]) G.1 G.2.1 d_Cw_trial_45 rfl hl (by decide) rfl (fun ls hl => ?_)
          refine lv_goto (tgt := 6) G.1 G.2.1 d_Cw_trial_46 (by decide) ?_
          have h := hK_6 y_j38 s_j38 d_j38 e_j38 x1j38 x2j38 (sV s_j38 (lk a0 0) 3) h
          exact ih_6 y_j38 s_j38 d_j38 e_j38 x1j38 x2j38 (sV s_j38 (lk a0 0) 3) (Nat.lt_of_lt_of_le h.2 (Nat.le_of_lt_succ hμ_6)) h.1 H locs hP hD hS ls (lv_sub hl [1, 2, 3, 0] rfl)
        refine lv_if_eq (tgt := 38) G.1 G.2.1 d_Cw_trial_30 (by decide) (fun c30 => ?_) (fun c30 => ?_)
        · skip
          have h := h.1 c30
          exact J_38 y_34 s_33 (d_h6 + d_35) (e_h6 + e_36) x1h6 x2h6 H locs h hP hD hS ls (lv_sub hl [0, 1, 2] rfl)
        · skip
          have h := h.2 c30
          refine lv_iinc (v := x1h6 + 1) (lv' := [(1, .int (x1h6 + 1)), (0, .ref (ad a0)), (2, .int x2h6), (3, .int x3h6)]) G.1 G.2.1 d_Cw_trial_33 hl (k := 1) rfl rfl (by decide) rfl (fun ls hl => ?_)
          refine lv_iload_n G.1 G.2.1 d_Cw_trial_36 rfl (lv_at hl 3 rfl) ?_
          refine lv_istore_n (lv' := [(2, .int x3h6), (1, .int (x1h6 + 1)), (0, .ref (ad a0)), (3, .int x3h6)]) G.1 G.2.1 d_Cw_trial_37 rfl hl (by decide) rfl (fun ls hl => ?_)
          exact J_38 y_34 s_33 (d_h6 + d_35) (e_h6 + e_36) (x1h6 + 1) x3h6 H locs h hP hD hS ls (lv_sub hl [2, 1, 0] rfl)
  exact L_6 _ y σ 0 0 0 0 0 (Nat.lt_succ_self _) hI_6 H locs hP hD hS ls (lv_sub hl [3, 2, 1, 0] rfl)
theorem q2485 : Cond.methodLink "ClassWorks" 456 y_Cw_tellOutcome ∈ lw_ok := lw_okmem (List.mem_of_getElem? (i := 2485) (by decide +kernel)) rfl
theorem q2488 : Cond.code y_Cw_tellOutcome b_Cw_tellOutcome 2 (none) ∈ lw_ok := lw_okmem (List.mem_of_getElem? (i := 2488) (by decide +kernel)) rfl
theorem q2487 : Cond.instanceMethod y_Cw_tellOutcome ∈ lw_ok := lw_okmem (List.mem_of_getElem? (i := 2487) (by decide +kernel)) rfl
theorem q157 : Cond.selects y_Cw_tellOutcome.cls y_Cw_tellOutcome y_Cw_tellOutcome ∈ lw_ok := lw_okmem (List.mem_of_getElem? (i := 157) (by decide +kernel)) rfl
theorem w9_Cw_tellOutcome : CWv y_Cw_tellOutcome b_Cw_tellOutcome 2 (none) 1 ∧ Cond.instanceMethod y_Cw_tellOutcome ∈ lw_ok ∧ Cond.selects y_Cw_tellOutcome.cls y_Cw_tellOutcome y_Cw_tellOutcome ∈ lw_ok := ⟨⟨q2488, q329, by decide +kernel, by decide +kernel, by decide +kernel⟩, q2487, q157⟩
def y_Cw_judge : MethodName := ⟨"ClassWorks", "judge", "([BIII)V"⟩
abbrev b_Cw_judge : ByteArray := prog_1_method_52_code
theorem d_Cw_judge_0 : decode b_Cw_judge 0 = .ok (.aload_n 0, 1) := by decide +kernel
theorem d_Cw_judge_1 : decode b_Cw_judge 1 = .ok (.getfield 13, 3) := by decide +kernel
theorem d_Cw_judge_4 : decode b_Cw_judge 4 = .ok (.iconst 3, 1) := by decide +kernel
theorem d_Cw_judge_5 : decode b_Cw_judge 5 = .ok (.aaload, 1) := by decide +kernel
theorem d_Cw_judge_6 : decode b_Cw_judge 6 = .ok (.astore 5, 2) := by decide +kernel
theorem d_Cw_judge_8 : decode b_Cw_judge 8 = .ok (.aload 5, 2) := by decide +kernel
theorem d_Cw_judge_10 : decode b_Cw_judge 10 = .ok (.iload 4, 2) := by decide +kernel
theorem d_Cw_judge_12 : decode b_Cw_judge 12 = .ok (.invokevirtual 126, 3) := by decide +kernel
theorem d_Cw_judge_15 : decode b_Cw_judge 15 = .ok (.iload_n 3, 1) := by decide +kernel
theorem d_Cw_judge_16 : decode b_Cw_judge 16 = .ok (.iconst 1, 1) := by decide +kernel
theorem d_Cw_judge_17 : decode b_Cw_judge 17 = .ok (.isub, 1) := by decide +kernel
theorem d_Cw_judge_18 : decode b_Cw_judge 18 = .ok (.istore 6, 2) := by decide +kernel
theorem d_Cw_judge_20 : decode b_Cw_judge 20 = .ok (.iload 6, 2) := by decide +kernel
theorem d_Cw_judge_22 : decode b_Cw_judge 22 = .ok (.iload_n 2, 1) := by decide +kernel
theorem d_Cw_judge_23 : decode b_Cw_judge 23 = .ok (.if_icmp .le 20, 3) := by decide +kernel
theorem d_Cw_judge_26 : decode b_Cw_judge 26 = .ok (.aload_n 1, 1) := by decide +kernel
theorem d_Cw_judge_27 : decode b_Cw_judge 27 = .ok (.iload 6, 2) := by decide +kernel
theorem d_Cw_judge_29 : decode b_Cw_judge 29 = .ok (.iconst 1, 1) := by decide +kernel
theorem d_Cw_judge_30 : decode b_Cw_judge 30 = .ok (.isub, 1) := by decide +kernel
theorem d_Cw_judge_31 : decode b_Cw_judge 31 = .ok (.baload, 1) := by decide +kernel
theorem d_Cw_judge_32 : decode b_Cw_judge 32 = .ok (.bipush 10, 2) := by decide +kernel
theorem d_Cw_judge_34 : decode b_Cw_judge 34 = .ok (.if_icmp .eq 9, 3) := by decide +kernel
theorem d_Cw_judge_37 : decode b_Cw_judge 37 = .ok (.iinc 6 (-1), 3) := by decide +kernel
theorem d_Cw_judge_40 : decode b_Cw_judge 40 = .ok (.goto (-20), 3) := by decide +kernel
theorem d_Cw_judge_43 : decode b_Cw_judge 43 = .ok (.aload_n 0, 1) := by decide +kernel
theorem d_Cw_judge_44 : decode b_Cw_judge 44 = .ok (.getfield 81, 3) := by decide +kernel
theorem d_Cw_judge_47 : decode b_Cw_judge 47 = .ok (.aload 5, 2) := by decide +kernel
theorem d_Cw_judge_49 : decode b_Cw_judge 49 = .ok (.getfield 118, 3) := by decide +kernel
theorem d_Cw_judge_52 : decode b_Cw_judge 52 = .ok (.aload_n 1, 1) := by decide +kernel
theorem d_Cw_judge_53 : decode b_Cw_judge 53 = .ok (.iload_n 2, 1) := by decide +kernel
theorem d_Cw_judge_54 : decode b_Cw_judge 54 = .ok (.iload 6, 2) := by decide +kernel
theorem d_Cw_judge_56 : decode b_Cw_judge 56 = .ok (.invokevirtual 140, 3) := by decide +kernel
theorem d_Cw_judge_59 : decode b_Cw_judge 59 = .ok (.istore 7, 2) := by decide +kernel
theorem d_Cw_judge_61 : decode b_Cw_judge 61 = .ok (.aload_n 0, 1) := by decide +kernel
theorem d_Cw_judge_62 : decode b_Cw_judge 62 = .ok (.iconst 1, 1) := by decide +kernel
theorem d_Cw_judge_63 : decode b_Cw_judge 63 = .ok (.putfield 52, 3) := by decide +kernel
theorem d_Cw_judge_66 : decode b_Cw_judge 66 = .ok (.aload_n 0, 1) := by decide +kernel
theorem d_Cw_judge_67 : decode b_Cw_judge 67 = .ok (.iload 7, 2) := by decide +kernel
theorem d_Cw_judge_69 : decode b_Cw_judge 69 = .ok (.putfield 55, 3) := by decide +kernel
theorem d_Cw_judge_72 : decode b_Cw_judge 72 = .ok (.iload 7, 2) := by decide +kernel
theorem d_Cw_judge_74 : decode b_Cw_judge 74 = .ok (.ifCond .eq 4, 3) := by decide +kernel
theorem d_Cw_judge_77 : decode b_Cw_judge 77 = .ok (.return_, 1) := by decide +kernel
theorem d_Cw_judge_78 : decode b_Cw_judge 78 = .ok (.aload 5, 2) := by decide +kernel
theorem d_Cw_judge_80 : decode b_Cw_judge 80 = .ok (.getfield 202, 3) := by decide +kernel
theorem d_Cw_judge_83 : decode b_Cw_judge 83 = .ok (.iconst 0, 1) := by decide +kernel
theorem d_Cw_judge_84 : decode b_Cw_judge 84 = .ok (.aaload, 1) := by decide +kernel
theorem d_Cw_judge_85 : decode b_Cw_judge 85 = .ok (.astore 8, 2) := by decide +kernel
theorem d_Cw_judge_87 : decode b_Cw_judge 87 = .ok (.aload_n 0, 1) := by decide +kernel
theorem d_Cw_judge_88 : decode b_Cw_judge 88 = .ok (.getfield 72, 3) := by decide +kernel
theorem d_Cw_judge_91 : decode b_Cw_judge 91 = .ok (.aload_n 1, 1) := by decide +kernel
theorem d_Cw_judge_92 : decode b_Cw_judge 92 = .ok (.iload 6, 2) := by decide +kernel
theorem d_Cw_judge_94 : decode b_Cw_judge 94 = .ok (.iload_n 3, 1) := by decide +kernel
theorem d_Cw_judge_95 : decode b_Cw_judge 95 = .ok (.invokevirtual 430, 3) := by decide +kernel
theorem d_Cw_judge_98 : decode b_Cw_judge 98 = .ok (.pop, 1) := by decide +kernel
theorem d_Cw_judge_99 : decode b_Cw_judge 99 = .ok (.aload_n 0, 1) := by decide +kernel
theorem d_Cw_judge_100 : decode b_Cw_judge 100 = .ok (.getfield 81, 3) := by decide +kernel
theorem d_Cw_judge_103 : decode b_Cw_judge 103 = .ok (.aload 8, 2) := by decide +kernel
theorem d_Cw_judge_105 : decode b_Cw_judge 105 = .ok (.iconst 1, 1) := by decide +kernel
theorem d_Cw_judge_106 : decode b_Cw_judge 106 = .ok (.invokevirtual 437, 3) := by decide +kernel
theorem d_Cw_judge_109 : decode b_Cw_judge 109 = .ok (.pop, 1) := by decide +kernel
theorem d_Cw_judge_110 : decode b_Cw_judge 110 = .ok (.aload 8, 2) := by decide +kernel
theorem d_Cw_judge_112 : decode b_Cw_judge 112 = .ok (.invokevirtual 219, 3) := by decide +kernel
theorem d_Cw_judge_115 : decode b_Cw_judge 115 = .ok (.aload 5, 2) := by decide +kernel
theorem d_Cw_judge_117 : decode b_Cw_judge 117 = .ok (.sipush 300, 3) := by decide +kernel
theorem d_Cw_judge_120 : decode b_Cw_judge 120 = .ok (.invokevirtual 239, 3) := by decide +kernel
theorem d_Cw_judge_123 : decode b_Cw_judge 123 = .ok (.pop, 1) := by decide +kernel
theorem d_Cw_judge_124 : decode b_Cw_judge 124 = .ok (.aload_n 0, 1) := by decide +kernel
theorem d_Cw_judge_125 : decode b_Cw_judge 125 = .ok (.aload 8, 2) := by decide +kernel
theorem d_Cw_judge_127 : decode b_Cw_judge 127 = .ok (.invokevirtual 456, 3) := by decide +kernel
theorem d_Cw_judge_130 : decode b_Cw_judge 130 = .ok (.return_, 1) := by decide +kernel
abbrev ra_Cw_judge (mc ms : Nat) : Room := { frames := 10, cells := mc, slots := ms, locals := 542 }
def wja_Cw_judge_43 (mc ms : Nat) (Post : Ly → St → Nat → Nat → Prop) (a0 : Nat) (a1 : Nat) (k1 : Nat) (y_j43 : Ly) (s_j43 : St) (d_j43 e_j43 : Nat) (x2j43 : Int32) (x3j43 : Int32) (x5j43 : Nat) (x6j43 : Int32) : Prop := (d_j43 ≤ mc ∧ e_j43 ≤ ms) ∧ cl x5j43 = 4 ∧ ∃ mc_10 ms_11 : Nat, (d_j43 + mc_10 ≤ mc ∧ e_j43 + ms_11 ≤ ms) ∧ wa_Re_read mc_10 ms_11 y_j43 (fun (y_7 : Ly) (s_6 : St) (r_5 : Int32) (d_8 e_9 : Nat) => (d_j43 + d_8 ≤ mc ∧ e_j43 + e_9 ≤ ms) ∧ yP y_j43 a1 k1 = yP y_7 a1 k1 ∧ xP (uV s_6 a0 16 1) (fun s_14 : St => xP (uV s_14 a0 17 r_5) (fun s_15 : St => ((r_5 = 0 → xQ y_7 x5j43 2 0 (fun b_16 : Nat => ∃ mc_23 ms_24 : Nat, (d_j43 + d_8 + mc_23 ≤ mc ∧ e_j43 + e_9 + ms_24 ≤ ms) ∧ wa_Wo_load mc_23 ms_24 y_7 (fun (y_20 : Ly) (s_19 : St) (r_18 : Int32) (d_21 e_22 : Nat) => (d_j43 + d_8 + d_21 ≤ mc ∧ e_j43 + e_9 + e_22 ≤ ms) ∧ ∃ mc_31 ms_32 : Nat, (d_j43 + d_8 + d_21 + mc_31 ≤ mc ∧ e_j43 + e_9 + e_22 + ms_32 ≤ ms) ∧ wa_Re_callLine mc_31 ms_32 y_20 (fun (y_28 : Ly) (s_27 : St) (r_26 : Int32) (d_29 e_30 : Nat) => (d_j43 + d_8 + d_21 + d_29 ≤ mc ∧ e_j43 + e_9 + e_22 + e_30 ≤ ms) ∧ wu_Ru_begin y_28 (fun (s_35 : St) => ∃ mc_41 ms_42 : Nat, (d_j43 + d_8 + d_21 + d_29 + mc_41 ≤ mc ∧ e_j43 + e_9 + e_22 + e_30 + ms_42 ≤ ms) ∧ wa_Ma_go mc_41 ms_42 y_28 (fun (y_38 : Ly) (s_37 : St) (r_36 : Int32) (d_39 e_40 : Nat) => (d_j43 + d_8 + d_21 + d_29 + d_39 ≤ mc ∧ e_j43 + e_9 + e_22 + e_30 + e_40 ≤ ms) ∧ wu_Cw_tellOutcome y_38 (fun (s_45 : St) => Post y_38 s_45 (d_j43 + d_8 + d_21 + d_29 + d_39) (e_j43 + e_9 + e_22 + e_30 + e_40)) s_37 a0 b_16) s_35 x5j43 300) s_27 b_16) s_19 (lk a0 1) b_16 1) s_15 (lk a0 0) a1 k1 x6j43 x3j43)) ∧ (¬ (r_5 = 0) → Post y_7 s_15 (d_j43 + d_8) (e_j43 + e_9)))))) s_j43 (lk a0 1) (lk x5j43 0) a1 k1 x2j43 x6j43
def wba_Cw_judge_20 (mc ms : Nat) (Post : Ly → St → Nat → Nat → Prop) (K_20 : Ly → St → Nat → Nat → Int32 → Int32 → Nat → Int32 → Prop) (a0 : Nat) (a1 : Nat) (k1 : Nat) (y_h20 : Ly) (s_h20 : St) (d_h20 e_h20 : Nat) (x2h20 : Int32) (x3h20 : Int32) (x5h20 : Nat) (x6h20 : Int32) : Prop := (d_h20 ≤ mc ∧ e_h20 ≤ ms) ∧ cl x5h20 = 4 ∧ ((x6h20 ≤ x2h20 → wja_Cw_judge_43 mc ms Post a0 a1 k1 y_h20 s_h20 d_h20 e_h20 x2h20 x3h20 x5h20 x6h20) ∧ (¬ (x6h20 ≤ x2h20) → xA y_h20 s_h20 a1 k1 (x6h20 - 1) (fun x_46 : Int32 => ((x_46 = 10 → wja_Cw_judge_43 mc ms Post a0 a1 k1 y_h20 s_h20 d_h20 e_h20 x2h20 x3h20 x5h20 x6h20) ∧ (¬ (x_46 = 10) → K_20 y_h20 s_h20 d_h20 e_h20 x2h20 x3h20 x5h20 (x6h20 + (-1)))))))
def wla_Cw_judge_20 (mc ms : Nat) (Post : Ly → St → Nat → Nat → Prop) (a0 : Nat) (a1 : Nat) (k1 : Nat) (y_h20 : Ly) (s_h20 : St) (d_h20 e_h20 : Nat) (x2h20 : Int32) (x3h20 : Int32) (x5h20 : Nat) (x6h20 : Int32) : Prop := ∃ (I : Ly → St → Nat → Nat → Int32 → Int32 → Nat → Int32 → Prop) (μ : Ly → St → Nat → Nat → Int32 → Int32 → Nat → Int32 → Nat), I y_h20 s_h20 d_h20 e_h20 x2h20 x3h20 x5h20 x6h20 ∧ ∀ (u1 : Ly) (u2 : St) (u3 u4 : Nat) (t0 : Int32) (t1 : Int32) (t2 : Nat) (t3 : Int32), I u1 u2 u3 u4 t0 t1 t2 t3 → wba_Cw_judge_20 mc ms Post (fun z1 z2 z3 z4 t0q t1q t2q t3q => I z1 z2 z3 z4 t0q t1q t2q t3q ∧ μ z1 z2 z3 z4 t0q t1q t2q t3q < μ u1 u2 u3 u4 t0 t1 t2 t3) a0 a1 k1 u1 u2 u3 u4 t0 t1 t2 t3
def wa_Cw_judge (mc ms : Nat) (y : Ly) (Post : Ly → St → Nat → Nat → Prop) (σ : St) (a0 : Nat) (a1 : Nat) (k1 : Nat) (v2 : Int32) (v3 : Int32) (v4 : Int32) : Prop := xQ y a0 5 3 (fun b_1 : Nat => wu_Ma_restart y (fun (s_4 : St) => wla_Cw_judge_20 mc ms Post a0 a1 k1 y s_4 0 0 v2 v3 b_1 (v3 - 1)) σ b_1 v4)
set_option maxHeartbeats 4000000 in
set_option maxRecDepth 100000 in
theorem ca_Cw_judge (l : Launch) (D : va_G) (g : Nat → ClassId) (F : Nat → SL) (sl : List SL) (hF : SOK F sl) (ad : Nat → Nat) (mc ms : Nat) (y : Ly) (Post : Ly → St → Nat → Nat → Prop) (σ : St) (a0 : Nat) (a1 : Nat) (k1 : Nat) (v2 : Int32) (v3 : Int32) (v4 : Int32) (sz uz : Nat) (h_a0 : cl a0 = 11) (h_a1 : kd (cl a1) k1 = 2 ∧ tyx (cl a1) k1 = 1) (h : wa_Cw_judge mc ms y Post σ a0 a1 k1 v2 v3 v4) : Met l y_Cw_judge (mw y_Cw_judge b_Cw_judge 9 (none)) (ra_Cw_judge mc ms) (PCu g D sl [.ref (ad a0), .ref (yP y a1 k1), .int v2, .int v3, .int v4] sz uz (ws g ad y σ)) (va_Qv (fun (u : Ly × St × Nat × Nat) => Post u.1 u.2.1 u.2.2.1 u.2.2.2) (QU D (va_A (ws g ad y σ) sz) (fun u => ws g ad u.1 u.2.1) sz uz (fun u => u.2.2.1) (fun u => u.2.2.2)) (va_A (ws g ad y σ) sz)) mc ms (va_A (ws g ad y σ) sz) := by
  refine ofVu (by decide +kernel) (Nat.le_of_ble_eq_true rfl) ?_
  intro p e s m args below meth c A Q ls H locs G hsz hP hD hS hl hret
  subst hsz
  have hl : lv_has ls 9 [(0, .ref (ad a0)), (1, .ref (yP y a1 k1)), (2, .int v2), (3, .int v3), (4, .int v4)] := hl
  have hd : 0 ≤ mc ∧ 0 ≤ ms := ⟨Nat.zero_le _, Nat.zero_le _⟩
  unfold wa_Cw_judge at h
  refine lv_aload_n G.1 G.2.1 d_Cw_judge_0 rfl (lv_at hl 0 rfl) ?_
  refine ugf (v := .ref (yP y a0 5)) G hP h_a0 iCw rfl 5 (by decide) rfl q1139 rfl rfl d_Cw_judge_1 ?_
  refine lv_iconst (v := 3) G.1 G.2.1 d_Cw_judge_4 (by decide) ?_
  refine uqald G hP (kdp h_a0 rfl) (typ h_a0 rfl) rfl h d_Cw_judge_5 (fun b_1 n_2 h => ?_)
  refine lv_astore (lv' := [(5, .ref (ad b_1)), (0, .ref (ad a0)), (1, .ref (yP y a1 k1)), (2, .int v2), (3, .int v3), (4, .int v4)]) G.1 G.2.1 d_Cw_judge_6 hl (by decide) rfl (fun ls hl => ?_)
  refine lv_aload G.1 G.2.1 d_Cw_judge_8 (lv_at hl 0 rfl) ?_
  refine lv_iload G.1 G.2.1 d_Cw_judge_10 (lv_at hl 5 rfl) ?_
  refine ucVv (As := [.int v4]) (rest := []) G hP hD hS (cu_Ma_restart l D g ad y _ σ b_1 v4 H.size (oa_11 h_a0 n_2) h) w9_Ma_restart q1211 ⟨Nat.le_of_ble_eq_true rfl, Nat.le_of_ble_eq_true rfl⟩ rfl rfl (oa_11 h_a0 n_2) (q := (RMa, TMa, 19)) rfl rfl hl.1 rfl (Nat.le_of_ble_eq_true rfl) rfl hd d_Cw_judge_12 (fun s_4 H locs h hP hD hS => ?_)
  refine lv_iload_n G.1 G.2.1 d_Cw_judge_15 rfl (lv_at hl 4 rfl) ?_
  refine lv_iconst (v := 1) G.1 G.2.1 d_Cw_judge_16 (by decide) ?_
  refine lv_isub G.1 G.2.1 d_Cw_judge_17 ?_
  refine W.eq (g2 := F0 m 18 ls [.int (v3 - 1)]) rfl ?_
  refine lv_istore (lv' := [(6, .int (v3 - 1)), (5, .ref (ad b_1)), (0, .ref (ad a0)), (1, .ref (yP y a1 k1)), (2, .int v2), (3, .int v3), (4, .int v4)]) G.1 G.2.1 d_Cw_judge_18 hl (by decide) rfl (fun ls hl => ?_)
  unfold wla_Cw_judge_20 at h
  obtain ⟨I_20, μ_20, hI_20, hB_20⟩ := h
  have L_20 : ∀ (n_20 : Nat) (y_h20 : Ly) (s_h20 : St) (d_h20 e_h20 : Nat) (x2h20 : Int32) (x3h20 : Int32) (x5h20 : Nat) (x6h20 : Int32), μ_20 y_h20 s_h20 d_h20 e_h20 x2h20 x3h20 x5h20 x6h20 < n_20 → I_20 y_h20 s_h20 d_h20 e_h20 x2h20 x3h20 x5h20 x6h20 → ∀ (H : Heap) (locs : List Loc), va_P D CL (ws g ad y_h20 s_h20) H → va_D A (ws g ad y_h20 s_h20) → va_S A s.heap H locs → ∀ ls, lv_has ls 9 [(0, .ref (ad a0)), (1, .ref (yP y_h20 a1 k1)), (2, .int x2h20), (3, .int x3h20), (5, .ref (ad x5h20)), (6, .int x6h20)] → W p l e (ra_Cw_judge mc ms) s m args below meth c H locs d_h20 e_h20 Q (F0 m 20 ls []) := by
    intro n_20
    induction n_20 with
    | zero => intro y_h20 s_h20 d_h20 e_h20 x2h20 x3h20 x5h20 x6h20 hμ; exact absurd hμ (Nat.not_lt_zero _)
    | succ n_20 ih_20 =>
      intro y_h20 s_h20 d_h20 e_h20 x2h20 x3h20 x5h20 x6h20 hμ_20 hJ H locs hP hD hS ls hl
      obtain ⟨K_20, hK_20, h⟩ : ∃ K : Ly → St → Nat → Nat → Int32 → Int32 → Nat → Int32 → Prop, (∀ z1 z2 z3 z4 (t0 : Int32) (t1 : Int32) (t2 : Nat) (t3 : Int32), K z1 z2 z3 z4 t0 t1 t2 t3 → I_20 z1 z2 z3 z4 t0 t1 t2 t3 ∧ μ_20 z1 z2 z3 z4 t0 t1 t2 t3 < μ_20 y_h20 s_h20 d_h20 e_h20 x2h20 x3h20 x5h20 x6h20) ∧ wba_Cw_judge_20 mc ms Post K a0 a1 k1 y_h20 s_h20 d_h20 e_h20 x2h20 x3h20 x5h20 x6h20 := ⟨_, fun _ _ _ _ _ _ _ _ h => h, hB_20 y_h20 s_h20 d_h20 e_h20 x2h20 x3h20 x5h20 x6h20 hJ⟩
      unfold wba_Cw_judge_20 at h
      obtain ⟨hd, h⟩ := h
      obtain ⟨c_x5h20, h⟩ := h
      refine lv_iload G.1 G.2.1 d_Cw_judge_20 (lv_at hl 5 rfl) ?_
      refine lv_iload_n G.1 G.2.1 d_Cw_judge_22 rfl (lv_at hl 2 rfl) ?_
      have J_43 : ∀ (y_j43 : Ly) (s_j43 : St) (d_j43 e_j43 : Nat) (x2j43 : Int32) (x3j43 : Int32) (x5j43 : Nat) (x6j43 : Int32) (H : Heap) (locs : List Loc), wja_Cw_judge_43 mc ms Post a0 a1 k1 y_j43 s_j43 d_j43 e_j43 x2j43 x3j43 x5j43 x6j43 → va_P D CL (ws g ad y_j43 s_j43) H → va_D A (ws g ad y_j43 s_j43) → va_S A s.heap H locs → ∀ ls, lv_has ls 9 [(0, .ref (ad a0)), (1, .ref (yP y_j43 a1 k1)), (2, .int x2j43), (3, .int x3j43), (5, .ref (ad x5j43)), (6, .int x6j43)] → W p l e (ra_Cw_judge mc ms) s m args below meth c H locs d_j43 e_j43 Q (F0 m 43 ls []) := by
        intro y_j43 s_j43 d_j43 e_j43 x2j43 x3j43 x5j43 x6j43 H locs h hP hD hS ls hl
        unfold wja_Cw_judge_43 at h
        obtain ⟨hd, h⟩ := h
        obtain ⟨c_x5j43, h⟩ := h
        refine lv_aload_n G.1 G.2.1 d_Cw_judge_43 rfl (lv_at hl 0 rfl) ?_
        refine ugf (v := .ref (ad (lk a0 1))) G hP h_a0 iCw rfl 1 (by decide) rfl q1135 rfl rfl d_Cw_judge_44 ?_
        refine lv_aload G.1 G.2.1 d_Cw_judge_47 (lv_at hl 4 rfl) ?_
        refine ugf (v := .ref (ad (lk x5j43 0))) G hP c_x5j43 iMa rfl 0 (by decide) rfl q1066 rfl rfl d_Cw_judge_49 ?_
        refine lv_aload_n G.1 G.2.1 d_Cw_judge_52 rfl (lv_at hl 1 rfl) ?_
        refine lv_iload_n G.1 G.2.1 d_Cw_judge_53 rfl (lv_at hl 2 rfl) ?_
        refine lv_iload G.1 G.2.1 d_Cw_judge_54 (lv_at hl 5 rfl) ?_
        obtain ⟨mc_10, ms_11, hr_12, h⟩ := h
        refine utVi (As := [.ref (ad (lk x5j43 0)), .ref (yP y_j43 a1 k1), .int x2j43, .int x6j43]) (rest := []) G hP hD hS (ca_Re_read l D g F sl hF ad mc_10 ms_11 y_j43 _ s_j43 (lk a0 1) (lk x5j43 0) a1 k1 x2j43 x6j43 H.size (us H) (lk_11_1 h_a0) (lk_4_0 c_x5j43) ⟨h_a1.1, h_a1.2⟩ h) w9_Re_read q1256 ⟨Nat.le_of_ble_eq_true rfl, Nat.le_of_ble_eq_true rfl⟩ rfl rfl (lk_11_1 h_a0) (q := (RRe, TRe, 18)) rfl rfl hl.1 rfl (Nat.le_of_ble_eq_true rfl) rfl hr_12 d_Cw_judge_56 (fun r_5 y_7 s_6 d_8 e_9 H locs h hP hD hS => ?_)
        have hl := lv_sub (l' := [(0, .ref (ad a0)), (1, .ref (yP y_j43 a1 k1)), (3, .int x3j43), (5, .ref (ad x5j43)), (6, .int x6j43)]) hl [0, 1, 3, 4, 5] rfl
        obtain ⟨hd, h⟩ := h
        obtain ⟨n_13, h⟩ := h
        rw [n_13] at hl
        refine lv_istore (lv' := [(7, .int r_5), (0, .ref (ad a0)), (1, .ref (yP y_7 a1 k1)), (3, .int x3j43), (5, .ref (ad x5j43)), (6, .int x6j43)]) G.1 G.2.1 d_Cw_judge_59 hl (by decide) rfl (fun ls hl => ?_)
        refine lv_aload_n G.1 G.2.1 d_Cw_judge_61 rfl (lv_at hl 1 rfl) ?_
        refine lv_iconst (v := 1) G.1 G.2.1 d_Cw_judge_62 (by decide) ?_
        refine W.eq (g2 := F0 m 63 ls [.int 1, .ref (ad a0)]) rfl ?_
        refine upf G hP hD hS h 16 putV h_a0 iCw tCw tCw_ok nCw rfl (by decide) rfl q1150 rfl rfl fV rfl rfl d_Cw_judge_63 (fun s_14 H locs h hP hD hS => ?_)
        refine lv_aload_n G.1 G.2.1 d_Cw_judge_66 rfl (lv_at hl 1 rfl) ?_
        refine lv_iload G.1 G.2.1 d_Cw_judge_67 (lv_at hl 0 rfl) ?_
        refine upf G hP hD hS h 17 putV h_a0 iCw tCw tCw_ok nCw rfl (by decide) rfl q1151 rfl rfl fV rfl rfl d_Cw_judge_69 (fun s_15 H locs h hP hD hS => ?_)
        refine lv_iload G.1 G.2.1 d_Cw_judge_72 (lv_at hl 0 rfl) ?_
        refine lv_if_eq (tgt := 78) G.1 G.2.1 d_Cw_judge_74 (by decide) (fun c74 => ?_) (fun c74 => ?_)
        · skip
          have h := h.1 c74
          refine lv_aload G.1 G.2.1 d_Cw_judge_78 (lv_at hl 4 rfl) ?_
          refine ugf (v := .ref (yP y_7 x5j43 2)) G hP c_x5j43 iMa rfl 2 (by decide) rfl q1070 rfl rfl d_Cw_judge_80 ?_
          refine lv_iconst (v := 0) G.1 G.2.1 d_Cw_judge_83 (by decide) ?_
          refine uqald G hP (kdp c_x5j43 rfl) (typ c_x5j43 rfl) rfl h d_Cw_judge_84 (fun b_16 n_17 h => ?_)
          refine lv_astore (lv' := [(8, .ref (ad b_16)), (7, .int r_5), (0, .ref (ad a0)), (1, .ref (yP y_7 a1 k1)), (3, .int x3j43), (5, .ref (ad x5j43)), (6, .int x6j43)]) G.1 G.2.1 d_Cw_judge_85 hl (by decide) rfl (fun ls hl => ?_)
          refine lv_aload_n G.1 G.2.1 d_Cw_judge_87 rfl (lv_at hl 2 rfl) ?_
          refine W.eq (g2 := F0 m 88 ls [.ref (ad a0)]) rfl ?_
          refine ugf (v := .ref (ad (lk a0 0))) G hP h_a0 iCw rfl 0 (by decide) rfl q1134 rfl rfl d_Cw_judge_88 ?_
          refine lv_aload_n G.1 G.2.1 d_Cw_judge_91 rfl (lv_at hl 3 rfl) ?_
          refine lv_iload G.1 G.2.1 d_Cw_judge_92 (lv_at hl 6 rfl) ?_
          refine lv_iload_n G.1 G.2.1 d_Cw_judge_94 rfl (lv_at hl 4 rfl) ?_
          obtain ⟨mc_23, ms_24, hr_25, h⟩ := h
          refine uaVi (As := [.ref (yP y_7 a1 k1), .int x6j43, .int x3j43]) (rest := []) G hP hD hS (ca_Wo_load l D g ad mc_23 ms_24 y_7 _ s_15 (lk a0 0) a1 k1 x6j43 x3j43 H.size (us H) (lk_11_0 h_a0) ⟨h_a1.1, h_a1.2⟩ h) w9_Wo_load q2454 ⟨Nat.le_of_ble_eq_true rfl, Nat.le_of_ble_eq_true rfl⟩ rfl rfl (lk_11_0 h_a0) (q := (RWo, TWo, 8)) rfl rfl hl.1 rfl (Nat.le_of_ble_eq_true rfl) rfl hr_25 d_Cw_judge_95 (fun r_18 y_20 s_19 d_21 e_22 H locs h hP hD hS => ?_)
          have hl := lv_sub (l' := [(8, .ref (ad b_16)), (0, .ref (ad a0)), (5, .ref (ad x5j43))]) hl [0, 2, 5] rfl
          obtain ⟨hd, h⟩ := h
          refine lv_pop G.1 G.2.1 d_Cw_judge_98 rfl ?_
          refine lv_aload_n G.1 G.2.1 d_Cw_judge_99 rfl (lv_at hl 1 rfl) ?_
          refine ugf (v := .ref (ad (lk a0 1))) G hP h_a0 iCw rfl 1 (by decide) rfl q1135 rfl rfl d_Cw_judge_100 ?_
          refine lv_aload G.1 G.2.1 d_Cw_judge_103 (lv_at hl 0 rfl) ?_
          refine lv_iconst (v := 1) G.1 G.2.1 d_Cw_judge_105 (by decide) ?_
          obtain ⟨mc_31, ms_32, hr_33, h⟩ := h
          refine uaVi (As := [.ref (ad b_16), .int 1]) (rest := []) G hP hD hS (ca_Re_callLine l D g ad mc_31 ms_32 y_20 _ s_19 (lk a0 1) b_16 1 H.size (us H) (lk_11_1 h_a0) (oa_4 c_x5j43 n_17) h) w9_Re_callLine q2455 ⟨Nat.le_of_ble_eq_true rfl, Nat.le_of_ble_eq_true rfl⟩ rfl rfl (lk_11_1 h_a0) (q := (RRe, TRe, 18)) rfl rfl hl.1 rfl (Nat.le_of_ble_eq_true rfl) rfl hr_33 d_Cw_judge_106 (fun r_26 y_28 s_27 d_29 e_30 H locs h hP hD hS => ?_)
          obtain ⟨hd, h⟩ := h
          refine lv_pop G.1 G.2.1 d_Cw_judge_109 rfl ?_
          refine W.eq (g2 := F0 m 110 ls []) rfl ?_
          refine lv_aload G.1 G.2.1 d_Cw_judge_110 (lv_at hl 0 rfl) ?_
          refine ucVv (As := []) (rest := []) G hP hD hS (cu_Ru_begin l D g ad y_28 _ s_27 b_16 H.size (oa_4 c_x5j43 n_17) h) w9_Ru_begin q1748 ⟨Nat.le_of_ble_eq_true rfl, Nat.le_of_ble_eq_true rfl⟩ rfl rfl (oa_4 c_x5j43 n_17) (q := (RRu, TRu, 19)) rfl rfl hl.1 rfl (Nat.le_of_ble_eq_true rfl) rfl hd d_Cw_judge_112 (fun s_35 H locs h hP hD hS => ?_)
          refine lv_aload G.1 G.2.1 d_Cw_judge_115 (lv_at hl 2 rfl) ?_
          refine lv_sipush (v := 300) G.1 G.2.1 d_Cw_judge_117 (by decide) ?_
          obtain ⟨mc_41, ms_42, hr_43, h⟩ := h
          refine utVi (As := [.int 300]) (rest := []) G hP hD hS (ca_Ma_go l D g F sl hF ad mc_41 ms_42 y_28 _ s_35 x5j43 300 H.size (us H) c_x5j43 h) w9_Ma_go q1784 ⟨Nat.le_of_ble_eq_true rfl, Nat.le_of_ble_eq_true rfl⟩ rfl rfl c_x5j43 (q := (RMa, TMa, 19)) rfl rfl hl.1 rfl (Nat.le_of_ble_eq_true rfl) rfl hr_43 d_Cw_judge_120 (fun r_36 y_38 s_37 d_39 e_40 H locs h hP hD hS => ?_)
          have hl := lv_sub (l' := [(8, .ref (ad b_16)), (0, .ref (ad a0))]) hl [0, 1] rfl
          obtain ⟨hd, h⟩ := h
          refine lv_pop G.1 G.2.1 d_Cw_judge_123 rfl ?_
          refine lv_aload_n G.1 G.2.1 d_Cw_judge_124 rfl (lv_at hl 1 rfl) ?_
          refine lv_aload G.1 G.2.1 d_Cw_judge_125 (lv_at hl 0 rfl) ?_
          refine ucVv (As := [.ref (ad b_16)]) (rest := []) G hP hD hS (cu_Cw_tellOutcome l D g ad y_38 _ s_37 a0 b_16 H.size h_a0 (oa_4 c_x5j43 n_17) h) w9_Cw_tellOutcome q2485 ⟨Nat.le_of_ble_eq_true rfl, Nat.le_of_ble_eq_true rfl⟩ rfl rfl h_a0 (q := (RCw, TCw, 20)) rfl rfl hl.1 rfl (Nat.le_of_ble_eq_true rfl) rfl hd d_Cw_judge_127 (fun s_45 H locs h hP hD hS => ?_)
          exact hret (y_38, s_45, d_j43 + d_8 + d_21 + d_29 + d_39, e_j43 + e_9 + e_22 + e_30 + e_40) _ _ _ _ _ ls h hP hD hS (Nat.le_refl _) (Nat.le_refl _) hd.1 hd.2 d_Cw_judge_130
        · skip
          have h := h.2 c74
          exact hret (y_7, s_15, d_j43 + d_8, e_j43 + e_9) _ _ _ _ _ ls h hP hD hS (Nat.le_refl _) (Nat.le_refl _) hd.1 hd.2 d_Cw_judge_77
      refine lv_icmp_le (tgt := 43) G.1 G.2.1 d_Cw_judge_23 (by decide) (fun c23 => ?_) (fun c23 => ?_)
      · skip
        have h := h.1 c23
        exact J_43 y_h20 s_h20 d_h20 e_h20 x2h20 x3h20 x5h20 x6h20 H locs h hP hD hS ls (lv_sub hl [0, 1, 2, 3, 4, 5] rfl)
      · skip
        have h := h.2 c23
        refine lv_aload_n G.1 G.2.1 d_Cw_judge_26 rfl (lv_at hl 1 rfl) ?_
        refine lv_iload G.1 G.2.1 d_Cw_judge_27 (lv_at hl 5 rfl) ?_
        refine lv_iconst (v := 1) G.1 G.2.1 d_Cw_judge_29 (by decide) ?_
        refine lv_isub G.1 G.2.1 d_Cw_judge_30 ?_
        refine ubald G hP h_a1.1 h_a1.2 h d_Cw_judge_31 (fun x_46 h => ?_)
        refine lv_bipush (v := 10) G.1 G.2.1 d_Cw_judge_32 (by decide) ?_
        refine lv_icmp_eq (tgt := 43) G.1 G.2.1 d_Cw_judge_34 (by decide) (fun c34 => ?_) (fun c34 => ?_)
        · skip
          have h := h.1 c34
          exact J_43 y_h20 s_h20 d_h20 e_h20 x2h20 x3h20 x5h20 x6h20 H locs h hP hD hS ls (lv_sub hl [0, 1, 2, 3, 4, 5] rfl)
        · skip
          have h := h.2 c34
          refine lv_iinc (v := x6h20 + (-1)) (lv' := [(6, .int (x6h20 + (-1))), (0, .ref (ad a0)), (1, .ref (yP y_h20 a1 k1)), (2, .int x2h20), (3, .int x3h20), (5, .ref (ad x5h20))]) G.1 G.2.1 d_Cw_judge_37 hl (k := 5) rfl rfl (by decide) rfl (fun ls hl => ?_)
          refine W.eq (g2 := F0 m 40 ls []) rfl ?_
          refine lv_goto (tgt := 20) G.1 G.2.1 d_Cw_judge_40 (by decide) ?_
          have h := hK_20 y_h20 s_h20 d_h20 e_h20 x2h20 x3h20 x5h20 (x6h20 + (-1)) h
          exact ih_20 y_h20 s_h20 d_h20 e_h20 x2h20 x3h20 x5h20 (x6h20 + (-1)) (Nat.lt_of_lt_of_le h.2 (Nat.le_of_lt_succ hμ_20)) h.1 H locs hP hD hS ls (lv_sub hl [1, 2, 3, 4, 5, 0] rfl)
  exact L_20 _ y s_4 0 0 v2 v3 b_1 (v3 - 1) (Nat.lt_succ_self _) hI_20 H locs hP hD hS ls (lv_sub hl [2, 3, 4, 5, 1, 0] rfl)
theorem q2481 : Cond.methodLink "ClassWorks" 466 y_Cw_judge ∈ lw_ok := lw_okmem (List.mem_of_getElem? (i := 2481) (by decide +kernel)) rfl
theorem q2484 : Cond.code y_Cw_judge b_Cw_judge 9 (none) ∈ lw_ok := lw_okmem (List.mem_of_getElem? (i := 2484) (by decide +kernel)) rfl
theorem q2483 : Cond.instanceMethod y_Cw_judge ∈ lw_ok := lw_okmem (List.mem_of_getElem? (i := 2483) (by decide +kernel)) rfl
theorem q156 : Cond.selects y_Cw_judge.cls y_Cw_judge y_Cw_judge ∈ lw_ok := lw_okmem (List.mem_of_getElem? (i := 156) (by decide +kernel)) rfl
theorem w9_Cw_judge : CWv y_Cw_judge b_Cw_judge 9 (none) 4 ∧ Cond.instanceMethod y_Cw_judge ∈ lw_ok ∧ Cond.selects y_Cw_judge.cls y_Cw_judge y_Cw_judge ∈ lw_ok := ⟨⟨q2484, q329, by decide +kernel, by decide +kernel, by decide +kernel⟩, q2483, q156⟩
def y_Cw_judgeTrial : MethodName := ⟨"ClassWorks", "judgeTrial", "(II)V"⟩
abbrev b_Cw_judgeTrial : ByteArray := prog_1_method_54_code
theorem d_Cw_judgeTrial_0 : decode b_Cw_judgeTrial 0 = .ok (.aload_n 0, 1) := by decide +kernel
theorem d_Cw_judgeTrial_1 : decode b_Cw_judgeTrial 1 = .ok (.aload_n 0, 1) := by decide +kernel
theorem d_Cw_judgeTrial_2 : decode b_Cw_judgeTrial 2 = .ok (.getfield 33, 3) := by decide +kernel
theorem d_Cw_judgeTrial_5 : decode b_Cw_judgeTrial 5 = .ok (.iload_n 1, 1) := by decide +kernel
theorem d_Cw_judgeTrial_6 : decode b_Cw_judgeTrial 6 = .ok (.sipush 1204, 3) := by decide +kernel
theorem d_Cw_judgeTrial_9 : decode b_Cw_judgeTrial 9 = .ok (.imul, 1) := by decide +kernel
theorem d_Cw_judgeTrial_10 : decode b_Cw_judgeTrial 10 = .ok (.iload_n 1, 1) := by decide +kernel
theorem d_Cw_judgeTrial_11 : decode b_Cw_judgeTrial 11 = .ok (.sipush 1204, 3) := by decide +kernel
theorem d_Cw_judgeTrial_14 : decode b_Cw_judgeTrial 14 = .ok (.imul, 1) := by decide +kernel
theorem d_Cw_judgeTrial_15 : decode b_Cw_judgeTrial 15 = .ok (.aload_n 0, 1) := by decide +kernel
theorem d_Cw_judgeTrial_16 : decode b_Cw_judgeTrial 16 = .ok (.getfield 36, 3) := by decide +kernel
theorem d_Cw_judgeTrial_19 : decode b_Cw_judgeTrial 19 = .ok (.iload_n 1, 1) := by decide +kernel
theorem d_Cw_judgeTrial_20 : decode b_Cw_judgeTrial 20 = .ok (.iaload, 1) := by decide +kernel
theorem d_Cw_judgeTrial_21 : decode b_Cw_judgeTrial 21 = .ok (.iadd, 1) := by decide +kernel
theorem d_Cw_judgeTrial_22 : decode b_Cw_judgeTrial 22 = .ok (.iload_n 2, 1) := by decide +kernel
theorem d_Cw_judgeTrial_23 : decode b_Cw_judgeTrial 23 = .ok (.invokevirtual 466, 3) := by decide +kernel
theorem d_Cw_judgeTrial_26 : decode b_Cw_judgeTrial 26 = .ok (.return_, 1) := by decide +kernel
abbrev ra_Cw_judgeTrial (mc ms : Nat) : Room := { frames := 11, cells := mc, slots := ms, locals := 570 }
def wa_Cw_judgeTrial (mc ms : Nat) (y : Ly) (Post : Ly → St → Nat → Nat → Prop) (σ : St) (a0 : Nat) (v1 : Int32) (v2 : Int32) : Prop := xA y σ a0 11 v1 (fun x_1 : Int32 => ∃ mc_7 ms_8 : Nat, (0 + mc_7 ≤ mc ∧ 0 + ms_8 ≤ ms) ∧ wa_Cw_judge mc_7 ms_8 y (fun (y_4 : Ly) (s_3 : St) (d_5 e_6 : Nat) => (0 + d_5 ≤ mc ∧ 0 + e_6 ≤ ms) ∧ Post y_4 s_3 (0 + d_5) (0 + e_6)) σ a0 a0 10 (v1 * 1204) ((v1 * 1204) + x_1) v2)
set_option maxHeartbeats 4000000 in
set_option maxRecDepth 100000 in
theorem ca_Cw_judgeTrial (l : Launch) (D : va_G) (g : Nat → ClassId) (F : Nat → SL) (sl : List SL) (hF : SOK F sl) (ad : Nat → Nat) (mc ms : Nat) (y : Ly) (Post : Ly → St → Nat → Nat → Prop) (σ : St) (a0 : Nat) (v1 : Int32) (v2 : Int32) (sz uz : Nat) (h_a0 : cl a0 = 11) (h : wa_Cw_judgeTrial mc ms y Post σ a0 v1 v2) : Met l y_Cw_judgeTrial (mw y_Cw_judgeTrial b_Cw_judgeTrial 3 (none)) (ra_Cw_judgeTrial mc ms) (PCu g D sl [.ref (ad a0), .int v1, .int v2] sz uz (ws g ad y σ)) (va_Qv (fun (u : Ly × St × Nat × Nat) => Post u.1 u.2.1 u.2.2.1 u.2.2.2) (QU D (va_A (ws g ad y σ) sz) (fun u => ws g ad u.1 u.2.1) sz uz (fun u => u.2.2.1) (fun u => u.2.2.2)) (va_A (ws g ad y σ) sz)) mc ms (va_A (ws g ad y σ) sz) := by
  refine ofVu (by decide +kernel) (Nat.le_of_ble_eq_true rfl) ?_
  intro p e s m args below meth c A Q ls H locs G hsz hP hD hS hl hret
  subst hsz
  have hl : lv_has ls 3 [(0, .ref (ad a0)), (1, .int v1), (2, .int v2)] := hl
  have hd : 0 ≤ mc ∧ 0 ≤ ms := ⟨Nat.zero_le _, Nat.zero_le _⟩
  unfold wa_Cw_judgeTrial at h
  refine lv_aload_n G.1 G.2.1 d_Cw_judgeTrial_0 rfl (lv_at hl 0 rfl) ?_
  refine lv_aload_n G.1 G.2.1 d_Cw_judgeTrial_1 rfl (lv_at hl 0 rfl) ?_
  refine ugf (v := .ref (yP y a0 10)) G hP h_a0 iCw rfl 10 (by decide) rfl q1144 rfl rfl d_Cw_judgeTrial_2 ?_
  refine lv_iload_n G.1 G.2.1 d_Cw_judgeTrial_5 rfl (lv_at hl 1 rfl) ?_
  refine lv_sipush (v := 1204) G.1 G.2.1 d_Cw_judgeTrial_6 (by decide) ?_
  refine lv_imul G.1 G.2.1 d_Cw_judgeTrial_9 ?_
  refine lv_iload_n G.1 G.2.1 d_Cw_judgeTrial_10 rfl (lv_at hl 1 rfl) ?_
  refine lv_sipush (v := 1204) G.1 G.2.1 d_Cw_judgeTrial_11 (by decide) ?_
  refine lv_imul G.1 G.2.1 d_Cw_judgeTrial_14 ?_
  refine lv_aload_n G.1 G.2.1 d_Cw_judgeTrial_15 rfl (lv_at hl 0 rfl) ?_
  refine ugf (v := .ref (yP y a0 11)) G hP h_a0 iCw rfl 11 (by decide) rfl q1145 rfl rfl d_Cw_judgeTrial_16 ?_
  refine W.eq (g2 := F0 m 19 ls [.ref (yP y a0 11), .int (v1 * 1204), .int (v1 * 1204), .ref (yP y a0 10), .ref (ad a0)]) rfl ?_
  refine lv_iload_n G.1 G.2.1 d_Cw_judgeTrial_19 rfl (lv_at hl 1 rfl) ?_
  refine uiald G hP (kdp h_a0 rfl) (typ h_a0 rfl) h d_Cw_judgeTrial_20 (fun x_1 h => ?_)
  refine lv_iadd G.1 G.2.1 d_Cw_judgeTrial_21 ?_
  refine lv_iload_n G.1 G.2.1 d_Cw_judgeTrial_22 rfl (lv_at hl 2 rfl) ?_
  obtain ⟨mc_7, ms_8, hr_9, h⟩ := h
  refine utVv (As := [.ref (yP y a0 10), .int (v1 * 1204), .int ((v1 * 1204) + x_1), .int v2]) (rest := []) G hP hD hS (ca_Cw_judge l D g F sl hF ad mc_7 ms_8 y _ σ a0 a0 10 (v1 * 1204) ((v1 * 1204) + x_1) v2 H.size (us H) h_a0 ⟨(kdp h_a0 rfl), (typ h_a0 rfl)⟩ h) w9_Cw_judge q2481 ⟨Nat.le_of_ble_eq_true rfl, Nat.le_of_ble_eq_true rfl⟩ rfl rfl h_a0 (q := (RCw, TCw, 20)) rfl rfl hl.1 rfl (Nat.le_of_ble_eq_true rfl) rfl hr_9 d_Cw_judgeTrial_23 (fun y_4 s_3 d_5 e_6 H locs h hP hD hS => ?_)
  have hl := lv_sub (l' := []) hl [] rfl
  obtain ⟨hd, h⟩ := h
  exact hret (y_4, s_3, 0 + d_5, 0 + e_6) _ _ _ _ _ ls h hP hD hS (Nat.le_refl _) (Nat.le_refl _) hd.1 hd.2 d_Cw_judgeTrial_26
theorem q2477 : Cond.methodLink "ClassWorks" 473 y_Cw_judgeTrial ∈ lw_ok := lw_okmem (List.mem_of_getElem? (i := 2477) (by decide +kernel)) rfl
theorem q2480 : Cond.code y_Cw_judgeTrial b_Cw_judgeTrial 3 (none) ∈ lw_ok := lw_okmem (List.mem_of_getElem? (i := 2480) (by decide +kernel)) rfl
theorem q2479 : Cond.instanceMethod y_Cw_judgeTrial ∈ lw_ok := lw_okmem (List.mem_of_getElem? (i := 2479) (by decide +kernel)) rfl
theorem q155 : Cond.selects y_Cw_judgeTrial.cls y_Cw_judgeTrial y_Cw_judgeTrial ∈ lw_ok := lw_okmem (List.mem_of_getElem? (i := 155) (by decide +kernel)) rfl
theorem w9_Cw_judgeTrial : CWv y_Cw_judgeTrial b_Cw_judgeTrial 3 (none) 2 ∧ Cond.instanceMethod y_Cw_judgeTrial ∈ lw_ok ∧ Cond.selects y_Cw_judgeTrial.cls y_Cw_judgeTrial y_Cw_judgeTrial ∈ lw_ok := ⟨⟨q2480, q329, by decide +kernel, by decide +kernel, by decide +kernel⟩, q2479, q155⟩
def y_Cw_outcome : MethodName := ⟨"ClassWorks", "outcome", "(III)I"⟩
abbrev b_Cw_outcome : ByteArray := prog_1_method_55_code
theorem d_Cw_outcome_0 : decode b_Cw_outcome 0 = .ok (.aload_n 0, 1) := by decide +kernel
theorem d_Cw_outcome_1 : decode b_Cw_outcome 1 = .ok (.iload_n 1, 1) := by decide +kernel
theorem d_Cw_outcome_2 : decode b_Cw_outcome 2 = .ok (.invokevirtual 470, 3) := by decide +kernel
theorem d_Cw_outcome_5 : decode b_Cw_outcome 5 = .ok (.ifCond .eq 20, 3) := by decide +kernel
theorem d_Cw_outcome_8 : decode b_Cw_outcome 8 = .ok (.iload_n 2, 1) := by decide +kernel
theorem d_Cw_outcome_9 : decode b_Cw_outcome 9 = .ok (.sipush (-256), 3) := by decide +kernel
theorem d_Cw_outcome_12 : decode b_Cw_outcome 12 = .ok (.iand, 1) := by decide +kernel
theorem d_Cw_outcome_13 : decode b_Cw_outcome 13 = .ok (.ifCond .ne 12, 3) := by decide +kernel
theorem d_Cw_outcome_16 : decode b_Cw_outcome 16 = .ok (.iload_n 3, 1) := by decide +kernel
theorem d_Cw_outcome_17 : decode b_Cw_outcome 17 = .ok (.ifCond .lt 8, 3) := by decide +kernel
theorem d_Cw_outcome_20 : decode b_Cw_outcome 20 = .ok (.iload_n 3, 1) := by decide +kernel
theorem d_Cw_outcome_21 : decode b_Cw_outcome 21 = .ok (.iconst 1, 1) := by decide +kernel
theorem d_Cw_outcome_22 : decode b_Cw_outcome 22 = .ok (.if_icmp .le 5, 3) := by decide +kernel
theorem d_Cw_outcome_25 : decode b_Cw_outcome 25 = .ok (.iconst (-1), 1) := by decide +kernel
theorem d_Cw_outcome_26 : decode b_Cw_outcome 26 = .ok (.ireturn, 1) := by decide +kernel
theorem d_Cw_outcome_27 : decode b_Cw_outcome 27 = .ok (.aload_n 0, 1) := by decide +kernel
theorem d_Cw_outcome_28 : decode b_Cw_outcome 28 = .ok (.iload_n 1, 1) := by decide +kernel
theorem d_Cw_outcome_29 : decode b_Cw_outcome 29 = .ok (.iload_n 2, 1) := by decide +kernel
theorem d_Cw_outcome_30 : decode b_Cw_outcome 30 = .ok (.invokevirtual 473, 3) := by decide +kernel
theorem d_Cw_outcome_33 : decode b_Cw_outcome 33 = .ok (.iload_n 3, 1) := by decide +kernel
theorem d_Cw_outcome_34 : decode b_Cw_outcome 34 = .ok (.ifCond .ne 10, 3) := by decide +kernel
theorem d_Cw_outcome_37 : decode b_Cw_outcome 37 = .ok (.aload_n 0, 1) := by decide +kernel
theorem d_Cw_outcome_38 : decode b_Cw_outcome 38 = .ok (.getfield 52, 3) := by decide +kernel
theorem d_Cw_outcome_41 : decode b_Cw_outcome 41 = .ok (.goto 7, 3) := by decide +kernel
theorem d_Cw_outcome_44 : decode b_Cw_outcome 44 = .ok (.aload_n 0, 1) := by decide +kernel
theorem d_Cw_outcome_45 : decode b_Cw_outcome 45 = .ok (.getfield 55, 3) := by decide +kernel
theorem d_Cw_outcome_48 : decode b_Cw_outcome 48 = .ok (.ireturn, 1) := by decide +kernel
abbrev ra_Cw_outcome (mc ms : Nat) : Room := { frames := 12, cells := mc, slots := ms, locals := 592 }
def wja_Cw_outcome_25 (mc ms : Nat) (Post : Ly → St → Int32 → Nat → Nat → Prop) (a0 : Nat) (y_j25 : Ly) (s_j25 : St) (d_j25 e_j25 : Nat) : Prop := (d_j25 ≤ mc ∧ e_j25 ≤ ms) ∧ Post y_j25 s_j25 (-1) d_j25 e_j25
def wja_Cw_outcome_48 (mc ms : Nat) (Post : Ly → St → Int32 → Nat → Nat → Prop) (a0 : Nat) (y_j48 : Ly) (s_j48 : St) (d_j48 e_j48 : Nat) (z0j48 : Int32) : Prop := (d_j48 ≤ mc ∧ e_j48 ≤ ms) ∧ Post y_j48 s_j48 z0j48 d_j48 e_j48
def wa_Cw_outcome (mc ms : Nat) (y : Ly) (Post : Ly → St → Int32 → Nat → Nat → Prop) (σ : St) (a0 : Nat) (v1 : Int32) (v2 : Int32) (v3 : Int32) : Prop := wu_Cw_isTrial y (fun (s_2 : St) (r_1 : Int32) => ((r_1 = 0 → wja_Cw_outcome_25 mc ms Post a0 y s_2 0 0) ∧ (¬ (r_1 = 0) → ((¬ (v2 &&& (-256)) = 0 → wja_Cw_outcome_25 mc ms Post a0 y s_2 0 0) ∧ ((v2 &&& (-256)) = 0 → ((v3 < 0 → wja_Cw_outcome_25 mc ms Post a0 y s_2 0 0) ∧ (¬ (v3 < 0) → ((v3 ≤ 1 → ∃ mc_8 ms_9 : Nat, (0 + mc_8 ≤ mc ∧ 0 + ms_9 ≤ ms) ∧ wa_Cw_judgeTrial mc_8 ms_9 y (fun (y_5 : Ly) (s_4 : St) (d_6 e_7 : Nat) => (0 + d_6 ≤ mc ∧ 0 + e_7 ≤ ms) ∧ ((¬ v3 = 0 → wja_Cw_outcome_48 mc ms Post a0 y_5 s_4 (0 + d_6) (0 + e_7) (sV s_4 a0 17)) ∧ (v3 = 0 → wja_Cw_outcome_48 mc ms Post a0 y_5 s_4 (0 + d_6) (0 + e_7) (sV s_4 a0 16)))) s_2 a0 v1 v2) ∧ (¬ (v3 ≤ 1) → wja_Cw_outcome_25 mc ms Post a0 y s_2 0 0))))))))) σ a0 v1
set_option maxHeartbeats 4000000 in
set_option maxRecDepth 100000 in
theorem ca_Cw_outcome (l : Launch) (D : va_G) (g : Nat → ClassId) (F : Nat → SL) (sl : List SL) (hF : SOK F sl) (ad : Nat → Nat) (mc ms : Nat) (y : Ly) (Post : Ly → St → Int32 → Nat → Nat → Prop) (σ : St) (a0 : Nat) (v1 : Int32) (v2 : Int32) (v3 : Int32) (sz uz : Nat) (h_a0 : cl a0 = 11) (h : wa_Cw_outcome mc ms y Post σ a0 v1 v2 v3) : Met l y_Cw_outcome (mw y_Cw_outcome b_Cw_outcome 4 (some .int)) (ra_Cw_outcome mc ms) (PCu g D sl [.ref (ad a0), .int v1, .int v2, .int v3] sz uz (ws g ad y σ)) (va_Qi (fun (r : Int32) (u : Ly × St × Nat × Nat) => Post u.1 u.2.1 r u.2.2.1 u.2.2.2) (QU D (va_A (ws g ad y σ) sz) (fun u => ws g ad u.1 u.2.1) sz uz (fun u => u.2.2.1) (fun u => u.2.2.2)) (va_A (ws g ad y σ) sz)) mc ms (va_A (ws g ad y σ) sz) := by
  refine ofIu (by decide +kernel) (Nat.le_of_ble_eq_true rfl) ?_
  intro p e s m args below meth c A Q ls H locs G hsz hP hD hS hl hret
  subst hsz
  have hl : lv_has ls 4 [(0, .ref (ad a0)), (1, .int v1), (2, .int v2), (3, .int v3)] := hl
  have hd : 0 ≤ mc ∧ 0 ≤ ms := ⟨Nat.zero_le _, Nat.zero_le _⟩
  unfold wa_Cw_outcome at h
  refine lv_aload_n G.1 G.2.1 d_Cw_outcome_0 rfl (lv_at hl 0 rfl) ?_
  refine lv_iload_n G.1 G.2.1 d_Cw_outcome_1 rfl (lv_at hl 1 rfl) ?_
  refine ucVi (As := [.int v1]) (rest := []) G hP hD hS (cu_Cw_isTrial l D g ad y _ σ a0 v1 H.size h_a0 h) w9_Cw_isTrial q2473 ⟨Nat.le_of_ble_eq_true rfl, Nat.le_of_ble_eq_true rfl⟩ rfl rfl h_a0 (q := (RCw, TCw, 20)) rfl rfl hl.1 rfl (Nat.le_of_ble_eq_true rfl) rfl hd d_Cw_outcome_2 (fun r_1 s_2 H locs h hP hD hS => ?_)
  have J_25 : ∀ (y_j25 : Ly) (s_j25 : St) (d_j25 e_j25 : Nat) (H : Heap) (locs : List Loc), wja_Cw_outcome_25 mc ms Post a0 y_j25 s_j25 d_j25 e_j25 → va_P D CL (ws g ad y_j25 s_j25) H → va_D A (ws g ad y_j25 s_j25) → va_S A s.heap H locs → ∀ ls, lv_has ls 4 [] → W p l e (ra_Cw_outcome mc ms) s m args below meth c H locs d_j25 e_j25 Q (F0 m 25 ls []) := by
    intro y_j25 s_j25 d_j25 e_j25 H locs h hP hD hS ls hl
    unfold wja_Cw_outcome_25 at h
    obtain ⟨hd, h⟩ := h
    refine lv_iconst (v := (-1)) G.1 G.2.1 d_Cw_outcome_25 (by decide) ?_
    exact hret _ (y_j25, s_j25, d_j25, e_j25) _ _ _ _ _ ls h hP hD hS (Nat.le_refl _) (Nat.le_refl _) hd.1 hd.2 d_Cw_outcome_26
  refine lv_if_eq (tgt := 25) G.1 G.2.1 d_Cw_outcome_5 (by decide) (fun c5 => ?_) (fun c5 => ?_)
  · skip
    have h := h.1 c5
    exact J_25 y s_2 0 0 H locs h hP hD hS ls (lv_sub hl [] rfl)
  · skip
    have h := h.2 c5
    refine lv_iload_n G.1 G.2.1 d_Cw_outcome_8 rfl (lv_at hl 2 rfl) ?_
    refine lv_sipush (v := (-256)) G.1 G.2.1 d_Cw_outcome_9 (by decide) ?_
    refine lv_iand G.1 G.2.1 d_Cw_outcome_12 ?_
    refine lv_if_ne (tgt := 25) G.1 G.2.1 d_Cw_outcome_13 (by decide) (fun c13 => ?_) (fun c13 => ?_)
    · skip
      have h := h.1 c13
      exact J_25 y s_2 0 0 H locs h hP hD hS ls (lv_sub hl [] rfl)
    · skip
      have h := h.2 c13
      refine lv_iload_n G.1 G.2.1 d_Cw_outcome_16 rfl (lv_at hl 3 rfl) ?_
      refine lv_if_lt (tgt := 25) G.1 G.2.1 d_Cw_outcome_17 (by decide) (fun c17 => ?_) (fun c17 => ?_)
      · skip
        have h := h.1 c17
        exact J_25 y s_2 0 0 H locs h hP hD hS ls (lv_sub hl [] rfl)
      · skip
        have h := h.2 c17
        refine lv_iload_n G.1 G.2.1 d_Cw_outcome_20 rfl (lv_at hl 3 rfl) ?_
        refine W.eq (g2 := F0 m 21 ls [.int v3]) rfl ?_
        refine lv_iconst (v := 1) G.1 G.2.1 d_Cw_outcome_21 (by decide) ?_
        refine lv_icmp_le (tgt := 27) G.1 G.2.1 d_Cw_outcome_22 (by decide) (fun c22 => ?_) (fun c22 => ?_)
        · skip
          have h := h.1 c22
          refine lv_aload_n G.1 G.2.1 d_Cw_outcome_27 rfl (lv_at hl 0 rfl) ?_
          refine lv_iload_n G.1 G.2.1 d_Cw_outcome_28 rfl (lv_at hl 1 rfl) ?_
          refine lv_iload_n G.1 G.2.1 d_Cw_outcome_29 rfl (lv_at hl 2 rfl) ?_
          obtain ⟨mc_8, ms_9, hr_10, h⟩ := h
          refine utVv (As := [.int v1, .int v2]) (rest := []) G hP hD hS (ca_Cw_judgeTrial l D g F sl hF ad mc_8 ms_9 y _ s_2 a0 v1 v2 H.size (us H) h_a0 h) w9_Cw_judgeTrial q2477 ⟨Nat.le_of_ble_eq_true rfl, Nat.le_of_ble_eq_true rfl⟩ rfl rfl h_a0 (q := (RCw, TCw, 20)) rfl rfl hl.1 rfl (Nat.le_of_ble_eq_true rfl) rfl hr_10 d_Cw_outcome_30 (fun y_5 s_4 d_6 e_7 H locs h hP hD hS => ?_)
          have hl := lv_sub (l' := [(0, .ref (ad a0)), (3, .int v3)]) hl [0, 3] rfl
          obtain ⟨hd, h⟩ := h
          refine lv_iload_n G.1 G.2.1 d_Cw_outcome_33 rfl (lv_at hl 1 rfl) ?_
          have J_48 : ∀ (y_j48 : Ly) (s_j48 : St) (d_j48 e_j48 : Nat) (z0j48 : Int32) (H : Heap) (locs : List Loc), wja_Cw_outcome_48 mc ms Post a0 y_j48 s_j48 d_j48 e_j48 z0j48 → va_P D CL (ws g ad y_j48 s_j48) H → va_D A (ws g ad y_j48 s_j48) → va_S A s.heap H locs → ∀ ls, lv_has ls 4 [] → W p l e (ra_Cw_outcome mc ms) s m args below meth c H locs d_j48 e_j48 Q (F0 m 48 ls [.int z0j48]) := by
            intro y_j48 s_j48 d_j48 e_j48 z0j48 H locs h hP hD hS ls hl
            unfold wja_Cw_outcome_48 at h
            obtain ⟨hd, h⟩ := h
            exact hret _ (y_j48, s_j48, d_j48, e_j48) _ _ _ _ _ ls h hP hD hS (Nat.le_refl _) (Nat.le_refl _) hd.1 hd.2 d_Cw_outcome_48
          refine lv_if_ne (tgt := 44) G.1 G.2.1 d_Cw_outcome_34 (by decide) (fun c34 => ?_) (fun c34 => ?_)
          · skip
            have h := h.1 c34
            refine lv_aload_n G.1 G.2.1 d_Cw_outcome_44 rfl (lv_at hl 0 rfl) ?_
            refine ugf (v := .int (sV s_4 a0 17)) G hP h_a0 iCw rfl 17 (by decide) rfl q1151 rfl rfl d_Cw_outcome_45 ?_
            exact J_48 y_5 s_4 (0 + d_6) (0 + e_7) (sV s_4 a0 17) H locs h hP hD hS ls (lv_sub hl [] rfl)
          · skip
            have h := h.2 c34
            refine lv_aload_n G.1 G.2.1 d_Cw_outcome_37 rfl (lv_at hl 0 rfl) ?_
            refine ugf (v := .int (sV s_4 a0 16)) G hP h_a0 iCw rfl 16 (by decide) rfl q1150 rfl rfl d_Cw_outcome_38 ?_
            refine lv_goto (tgt := 48) G.1 G.2.1 d_Cw_outcome_41 (by decide) ?_
            exact J_48 y_5 s_4 (0 + d_6) (0 + e_7) (sV s_4 a0 16) H locs h hP hD hS ls (lv_sub hl [] rfl)
        · skip
          have h := h.2 c22
          exact J_25 y s_2 0 0 H locs h hP hD hS ls (lv_sub hl [] rfl)
def y_Cw_survey : MethodName := ⟨"ClassWorks", "survey", "(IZ)V"⟩
abbrev b_Cw_survey : ByteArray := prog_1_method_57_code
theorem d_Cw_survey_0 : decode b_Cw_survey 0 = .ok (.iload_n 1, 1) := by decide +kernel
theorem d_Cw_survey_1 : decode b_Cw_survey 1 = .ok (.sipush 1204, 3) := by decide +kernel
theorem d_Cw_survey_4 : decode b_Cw_survey 4 = .ok (.imul, 1) := by decide +kernel
theorem d_Cw_survey_5 : decode b_Cw_survey 5 = .ok (.istore_n 3, 1) := by decide +kernel
theorem d_Cw_survey_6 : decode b_Cw_survey 6 = .ok (.aload_n 0, 1) := by decide +kernel
theorem d_Cw_survey_7 : decode b_Cw_survey 7 = .ok (.getfield 40, 3) := by decide +kernel
theorem d_Cw_survey_10 : decode b_Cw_survey 10 = .ok (.iload_n 1, 1) := by decide +kernel
theorem d_Cw_survey_11 : decode b_Cw_survey 11 = .ok (.iaload, 1) := by decide +kernel
theorem d_Cw_survey_12 : decode b_Cw_survey 12 = .ok (.iconst (-1), 1) := by decide +kernel
theorem d_Cw_survey_13 : decode b_Cw_survey 13 = .ok (.if_icmp .eq 17, 3) := by decide +kernel
theorem d_Cw_survey_16 : decode b_Cw_survey 16 = .ok (.iload_n 2, 1) := by decide +kernel
theorem d_Cw_survey_17 : decode b_Cw_survey 17 = .ok (.ifCond .eq 171, 3) := by decide +kernel
theorem d_Cw_survey_20 : decode b_Cw_survey 20 = .ok (.aload_n 0, 1) := by decide +kernel
theorem d_Cw_survey_21 : decode b_Cw_survey 21 = .ok (.getfield 43, 3) := by decide +kernel
theorem d_Cw_survey_24 : decode b_Cw_survey 24 = .ok (.iload_n 1, 1) := by decide +kernel
theorem d_Cw_survey_25 : decode b_Cw_survey 25 = .ok (.iaload, 1) := by decide +kernel
theorem d_Cw_survey_26 : decode b_Cw_survey 26 = .ok (.iconst (-1), 1) := by decide +kernel
theorem d_Cw_survey_27 : decode b_Cw_survey 27 = .ok (.if_icmp .ne 161, 3) := by decide +kernel
theorem d_Cw_survey_30 : decode b_Cw_survey 30 = .ok (.aload_n 0, 1) := by decide +kernel
theorem d_Cw_survey_31 : decode b_Cw_survey 31 = .ok (.aload_n 0, 1) := by decide +kernel
theorem d_Cw_survey_32 : decode b_Cw_survey 32 = .ok (.getfield 33, 3) := by decide +kernel
theorem d_Cw_survey_35 : decode b_Cw_survey 35 = .ok (.iload_n 3, 1) := by decide +kernel
theorem d_Cw_survey_36 : decode b_Cw_survey 36 = .ok (.iload_n 3, 1) := by decide +kernel
theorem d_Cw_survey_37 : decode b_Cw_survey 37 = .ok (.aload_n 0, 1) := by decide +kernel
theorem d_Cw_survey_38 : decode b_Cw_survey 38 = .ok (.getfield 36, 3) := by decide +kernel
theorem d_Cw_survey_41 : decode b_Cw_survey 41 = .ok (.iload_n 1, 1) := by decide +kernel
theorem d_Cw_survey_42 : decode b_Cw_survey 42 = .ok (.iaload, 1) := by decide +kernel
theorem d_Cw_survey_43 : decode b_Cw_survey 43 = .ok (.iadd, 1) := by decide +kernel
theorem d_Cw_survey_44 : decode b_Cw_survey 44 = .ok (.iconst 0, 1) := by decide +kernel
theorem d_Cw_survey_45 : decode b_Cw_survey 45 = .ok (.invokevirtual 466, 3) := by decide +kernel
theorem d_Cw_survey_48 : decode b_Cw_survey 48 = .ok (.aload_n 0, 1) := by decide +kernel
theorem d_Cw_survey_49 : decode b_Cw_survey 49 = .ok (.getfield 52, 3) := by decide +kernel
theorem d_Cw_survey_52 : decode b_Cw_survey 52 = .ok (.istore 4, 2) := by decide +kernel
theorem d_Cw_survey_54 : decode b_Cw_survey 54 = .ok (.aload_n 0, 1) := by decide +kernel
theorem d_Cw_survey_55 : decode b_Cw_survey 55 = .ok (.getfield 55, 3) := by decide +kernel
theorem d_Cw_survey_58 : decode b_Cw_survey 58 = .ok (.istore 5, 2) := by decide +kernel
theorem d_Cw_survey_60 : decode b_Cw_survey 60 = .ok (.aload_n 0, 1) := by decide +kernel
theorem d_Cw_survey_61 : decode b_Cw_survey 61 = .ok (.getfield 40, 3) := by decide +kernel
theorem d_Cw_survey_64 : decode b_Cw_survey 64 = .ok (.iload_n 1, 1) := by decide +kernel
theorem d_Cw_survey_65 : decode b_Cw_survey 65 = .ok (.iload 4, 2) := by decide +kernel
theorem d_Cw_survey_67 : decode b_Cw_survey 67 = .ok (.iconst 1, 1) := by decide +kernel
theorem d_Cw_survey_68 : decode b_Cw_survey 68 = .ok (.if_icmp .ne 8, 3) := by decide +kernel
theorem d_Cw_survey_71 : decode b_Cw_survey 71 = .ok (.iload 5, 2) := by decide +kernel
theorem d_Cw_survey_73 : decode b_Cw_survey 73 = .ok (.goto 18, 3) := by decide +kernel
theorem d_Cw_survey_76 : decode b_Cw_survey 76 = .ok (.iload 4, 2) := by decide +kernel
theorem d_Cw_survey_78 : decode b_Cw_survey 78 = .ok (.iconst 4, 1) := by decide +kernel
theorem d_Cw_survey_79 : decode b_Cw_survey 79 = .ok (.if_icmp .ne 11, 3) := by decide +kernel
theorem d_Cw_survey_82 : decode b_Cw_survey 82 = .ok (.iload 5, 2) := by decide +kernel
theorem d_Cw_survey_84 : decode b_Cw_survey 84 = .ok (.bipush 100, 2) := by decide +kernel
theorem d_Cw_survey_86 : decode b_Cw_survey 86 = .ok (.idiv, 1) := by decide +kernel
theorem d_Cw_survey_87 : decode b_Cw_survey 87 = .ok (.goto 4, 3) := by decide +kernel
theorem d_Cw_survey_90 : decode b_Cw_survey 90 = .ok (.iconst 0, 1) := by decide +kernel
theorem d_Cw_survey_91 : decode b_Cw_survey 91 = .ok (.iastore, 1) := by decide +kernel
theorem d_Cw_survey_92 : decode b_Cw_survey 92 = .ok (.iconst 0, 1) := by decide +kernel
theorem d_Cw_survey_93 : decode b_Cw_survey 93 = .ok (.istore 6, 2) := by decide +kernel
theorem d_Cw_survey_95 : decode b_Cw_survey 95 = .ok (.iconst 0, 1) := by decide +kernel
theorem d_Cw_survey_96 : decode b_Cw_survey 96 = .ok (.istore 7, 2) := by decide +kernel
theorem d_Cw_survey_98 : decode b_Cw_survey 98 = .ok (.iload 7, 2) := by decide +kernel
theorem d_Cw_survey_100 : decode b_Cw_survey 100 = .ok (.bipush 8, 2) := by decide +kernel
theorem d_Cw_survey_102 : decode b_Cw_survey 102 = .ok (.if_icmp .ge 65, 3) := by decide +kernel
theorem d_Cw_survey_105 : decode b_Cw_survey 105 = .ok (.iload_n 2, 1) := by decide +kernel
theorem d_Cw_survey_106 : decode b_Cw_survey 106 = .ok (.ifCond .eq 61, 3) := by decide +kernel
theorem d_Cw_survey_109 : decode b_Cw_survey 109 = .ok (.aload_n 0, 1) := by decide +kernel
theorem d_Cw_survey_110 : decode b_Cw_survey 110 = .ok (.aload_n 0, 1) := by decide +kernel
theorem d_Cw_survey_111 : decode b_Cw_survey 111 = .ok (.getfield 33, 3) := by decide +kernel
theorem d_Cw_survey_114 : decode b_Cw_survey 114 = .ok (.iload_n 3, 1) := by decide +kernel
theorem d_Cw_survey_115 : decode b_Cw_survey 115 = .ok (.iload_n 3, 1) := by decide +kernel
theorem d_Cw_survey_116 : decode b_Cw_survey 116 = .ok (.aload_n 0, 1) := by decide +kernel
theorem d_Cw_survey_117 : decode b_Cw_survey 117 = .ok (.getfield 36, 3) := by decide +kernel
theorem d_Cw_survey_120 : decode b_Cw_survey 120 = .ok (.iload_n 1, 1) := by decide +kernel
theorem d_Cw_survey_121 : decode b_Cw_survey 121 = .ok (.iaload, 1) := by decide +kernel
theorem d_Cw_survey_122 : decode b_Cw_survey 122 = .ok (.iadd, 1) := by decide +kernel
theorem d_Cw_survey_123 : decode b_Cw_survey 123 = .ok (.iconst 1, 1) := by decide +kernel
theorem d_Cw_survey_124 : decode b_Cw_survey 124 = .ok (.iload 7, 2) := by decide +kernel
theorem d_Cw_survey_126 : decode b_Cw_survey 126 = .ok (.ishl, 1) := by decide +kernel
theorem d_Cw_survey_127 : decode b_Cw_survey 127 = .ok (.invokevirtual 466, 3) := by decide +kernel
theorem d_Cw_survey_130 : decode b_Cw_survey 130 = .ok (.iload 6, 2) := by decide +kernel
theorem d_Cw_survey_132 : decode b_Cw_survey 132 = .ok (.iload 4, 2) := by decide +kernel
theorem d_Cw_survey_134 : decode b_Cw_survey 134 = .ok (.aload_n 0, 1) := by decide +kernel
theorem d_Cw_survey_135 : decode b_Cw_survey 135 = .ok (.getfield 52, 3) := by decide +kernel
theorem d_Cw_survey_138 : decode b_Cw_survey 138 = .ok (.if_icmp .ne 12, 3) := by decide +kernel
theorem d_Cw_survey_141 : decode b_Cw_survey 141 = .ok (.iload 5, 2) := by decide +kernel
theorem d_Cw_survey_143 : decode b_Cw_survey 143 = .ok (.aload_n 0, 1) := by decide +kernel
theorem d_Cw_survey_144 : decode b_Cw_survey 144 = .ok (.getfield 55, 3) := by decide +kernel
theorem d_Cw_survey_147 : decode b_Cw_survey 147 = .ok (.if_icmp .eq 10, 3) := by decide +kernel
theorem d_Cw_survey_150 : decode b_Cw_survey 150 = .ok (.iconst 1, 1) := by decide +kernel
theorem d_Cw_survey_151 : decode b_Cw_survey 151 = .ok (.iload 7, 2) := by decide +kernel
theorem d_Cw_survey_153 : decode b_Cw_survey 153 = .ok (.ishl, 1) := by decide +kernel
theorem d_Cw_survey_154 : decode b_Cw_survey 154 = .ok (.goto 4, 3) := by decide +kernel
theorem d_Cw_survey_157 : decode b_Cw_survey 157 = .ok (.iconst 0, 1) := by decide +kernel
theorem d_Cw_survey_158 : decode b_Cw_survey 158 = .ok (.ior, 1) := by decide +kernel
theorem d_Cw_survey_159 : decode b_Cw_survey 159 = .ok (.istore 6, 2) := by decide +kernel
theorem d_Cw_survey_161 : decode b_Cw_survey 161 = .ok (.iinc 7 1, 3) := by decide +kernel
theorem d_Cw_survey_164 : decode b_Cw_survey 164 = .ok (.goto (-66), 3) := by decide +kernel
theorem d_Cw_survey_167 : decode b_Cw_survey 167 = .ok (.aload_n 0, 1) := by decide +kernel
theorem d_Cw_survey_168 : decode b_Cw_survey 168 = .ok (.getfield 43, 3) := by decide +kernel
theorem d_Cw_survey_171 : decode b_Cw_survey 171 = .ok (.iload_n 1, 1) := by decide +kernel
theorem d_Cw_survey_172 : decode b_Cw_survey 172 = .ok (.iload_n 2, 1) := by decide +kernel
theorem d_Cw_survey_173 : decode b_Cw_survey 173 = .ok (.ifCond .eq 8, 3) := by decide +kernel
theorem d_Cw_survey_176 : decode b_Cw_survey 176 = .ok (.iload 6, 2) := by decide +kernel
theorem d_Cw_survey_178 : decode b_Cw_survey 178 = .ok (.goto 9, 3) := by decide +kernel
theorem d_Cw_survey_181 : decode b_Cw_survey 181 = .ok (.aload_n 0, 1) := by decide +kernel
theorem d_Cw_survey_182 : decode b_Cw_survey 182 = .ok (.getfield 43, 3) := by decide +kernel
theorem d_Cw_survey_185 : decode b_Cw_survey 185 = .ok (.iload_n 1, 1) := by decide +kernel
theorem d_Cw_survey_186 : decode b_Cw_survey 186 = .ok (.iaload, 1) := by decide +kernel
theorem d_Cw_survey_187 : decode b_Cw_survey 187 = .ok (.iastore, 1) := by decide +kernel
theorem d_Cw_survey_188 : decode b_Cw_survey 188 = .ok (.return_, 1) := by decide +kernel
abbrev ra_Cw_survey (mc ms : Nat) : Room := { frames := 11, cells := mc, slots := ms, locals := 570 }
def wja_Cw_survey_188 (mc ms : Nat) (Post : Ly → St → Nat → Nat → Prop) (a0 : Nat) (y_j188 : Ly) (s_j188 : St) (d_j188 e_j188 : Nat) : Prop := (d_j188 ≤ mc ∧ e_j188 ≤ ms) ∧ Post y_j188 s_j188 d_j188 e_j188
def wja_Cw_survey_187 (mc ms : Nat) (Post : Ly → St → Nat → Nat → Prop) (a0 : Nat) (y_j187 : Ly) (s_j187 : St) (d_j187 e_j187 : Nat) (z1j187 : Int32) (z2j187 : Int32) : Prop := (d_j187 ≤ mc ∧ e_j187 ≤ ms) ∧ xS y_j187 s_j187 a0 13 z1j187 z2j187 (fun s_12 : St => wja_Cw_survey_188 mc ms Post a0 y_j187 s_12 d_j187 e_j187)
def wja_Cw_survey_167 (mc ms : Nat) (Post : Ly → St → Nat → Nat → Prop) (a0 : Nat) (y_j167 : Ly) (s_j167 : St) (d_j167 e_j167 : Nat) (x1j167 : Int32) (x2j167 : Int32) (x6j167 : Int32) : Prop := (d_j167 ≤ mc ∧ e_j167 ≤ ms) ∧ ((x2j167 = 0 → xA y_j167 s_j167 a0 13 x1j167 (fun x_13 : Int32 => wja_Cw_survey_187 mc ms Post a0 y_j167 s_j167 d_j167 e_j167 x1j167 x_13)) ∧ (¬ (x2j167 = 0) → wja_Cw_survey_187 mc ms Post a0 y_j167 s_j167 d_j167 e_j167 x1j167 x6j167))
def wja_Cw_survey_158 (mc ms : Nat) (Post : Ly → St → Nat → Nat → Prop) (K_98 : Ly → St → Nat → Nat → Int32 → Int32 → Int32 → Int32 → Int32 → Int32 → Int32 → Prop) (a0 : Nat) (y_j158 : Ly) (s_j158 : St) (d_j158 e_j158 : Nat) (x1j158 : Int32) (x2j158 : Int32) (x3j158 : Int32) (x4j158 : Int32) (x5j158 : Int32) (x7j158 : Int32) (z0j158 : Int32) (z1j158 : Int32) : Prop := (d_j158 ≤ mc ∧ e_j158 ≤ ms) ∧ K_98 y_j158 s_j158 d_j158 e_j158 x1j158 x2j158 x3j158 x4j158 x5j158 (z0j158 ||| z1j158) (x7j158 + 1)
def wja_Cw_survey_150 (mc ms : Nat) (Post : Ly → St → Nat → Nat → Prop) (K_98 : Ly → St → Nat → Nat → Int32 → Int32 → Int32 → Int32 → Int32 → Int32 → Int32 → Prop) (a0 : Nat) (y_j150 : Ly) (s_j150 : St) (d_j150 e_j150 : Nat) (x1j150 : Int32) (x2j150 : Int32) (x3j150 : Int32) (x4j150 : Int32) (x5j150 : Int32) (x7j150 : Int32) (z0j150 : Int32) : Prop := (d_j150 ≤ mc ∧ e_j150 ≤ ms) ∧ wja_Cw_survey_158 mc ms Post K_98 a0 y_j150 s_j150 d_j150 e_j150 x1j150 x2j150 x3j150 x4j150 x5j150 x7j150 z0j150 (1 <<< (x7j150 &&& 31))
def wba_Cw_survey_98 (mc ms : Nat) (Post : Ly → St → Nat → Nat → Prop) (K_98 : Ly → St → Nat → Nat → Int32 → Int32 → Int32 → Int32 → Int32 → Int32 → Int32 → Prop) (a0 : Nat) (y_h98 : Ly) (s_h98 : St) (d_h98 e_h98 : Nat) (x1h98 : Int32) (x2h98 : Int32) (x3h98 : Int32) (x4h98 : Int32) (x5h98 : Int32) (x6h98 : Int32) (x7h98 : Int32) : Prop := (d_h98 ≤ mc ∧ e_h98 ≤ ms) ∧ ((8 ≤ x7h98 → wja_Cw_survey_167 mc ms Post a0 y_h98 s_h98 d_h98 e_h98 x1h98 x2h98 x6h98) ∧ (¬ (8 ≤ x7h98) → ((x2h98 = 0 → wja_Cw_survey_167 mc ms Post a0 y_h98 s_h98 d_h98 e_h98 x1h98 x2h98 x6h98) ∧ (¬ (x2h98 = 0) → xA y_h98 s_h98 a0 11 x1h98 (fun x_14 : Int32 => ∃ mc_20 ms_21 : Nat, (d_h98 + mc_20 ≤ mc ∧ e_h98 + ms_21 ≤ ms) ∧ wa_Cw_judge mc_20 ms_21 y_h98 (fun (y_17 : Ly) (s_16 : St) (d_18 e_19 : Nat) => (d_h98 + d_18 ≤ mc ∧ e_h98 + e_19 ≤ ms) ∧ ((¬ x4h98 = (sV s_16 a0 16) → wja_Cw_survey_150 mc ms Post K_98 a0 y_17 s_16 (d_h98 + d_18) (e_h98 + e_19) x1h98 x2h98 x3h98 x4h98 x5h98 x7h98 x6h98) ∧ (x4h98 = (sV s_16 a0 16) → ((x5h98 = (sV s_16 a0 17) → wja_Cw_survey_158 mc ms Post K_98 a0 y_17 s_16 (d_h98 + d_18) (e_h98 + e_19) x1h98 x2h98 x3h98 x4h98 x5h98 x7h98 x6h98 0) ∧ (¬ (x5h98 = (sV s_16 a0 17)) → wja_Cw_survey_150 mc ms Post K_98 a0 y_17 s_16 (d_h98 + d_18) (e_h98 + e_19) x1h98 x2h98 x3h98 x4h98 x5h98 x7h98 x6h98))))) s_h98 a0 a0 10 x3h98 (x3h98 + x_14) (1 <<< (x7h98 &&& 31)))))))
def wla_Cw_survey_98 (mc ms : Nat) (Post : Ly → St → Nat → Nat → Prop) (a0 : Nat) (y_h98 : Ly) (s_h98 : St) (d_h98 e_h98 : Nat) (x1h98 : Int32) (x2h98 : Int32) (x3h98 : Int32) (x4h98 : Int32) (x5h98 : Int32) (x6h98 : Int32) (x7h98 : Int32) : Prop := ∃ (I : Ly → St → Nat → Nat → Int32 → Int32 → Int32 → Int32 → Int32 → Int32 → Int32 → Prop) (μ : Ly → St → Nat → Nat → Int32 → Int32 → Int32 → Int32 → Int32 → Int32 → Int32 → Nat), I y_h98 s_h98 d_h98 e_h98 x1h98 x2h98 x3h98 x4h98 x5h98 x6h98 x7h98 ∧ ∀ (u1 : Ly) (u2 : St) (u3 u4 : Nat) (t0 : Int32) (t1 : Int32) (t2 : Int32) (t3 : Int32) (t4 : Int32) (t5 : Int32) (t6 : Int32), I u1 u2 u3 u4 t0 t1 t2 t3 t4 t5 t6 → wba_Cw_survey_98 mc ms Post (fun z1 z2 z3 z4 t0q t1q t2q t3q t4q t5q t6q => I z1 z2 z3 z4 t0q t1q t2q t3q t4q t5q t6q ∧ μ z1 z2 z3 z4 t0q t1q t2q t3q t4q t5q t6q < μ u1 u2 u3 u4 t0 t1 t2 t3 t4 t5 t6) a0 u1 u2 u3 u4 t0 t1 t2 t3 t4 t5 t6
def wja_Cw_survey_91 (mc ms : Nat) (Post : Ly → St → Nat → Nat → Prop) (a0 : Nat) (y_j91 : Ly) (s_j91 : St) (d_j91 e_j91 : Nat) (x1j91 : Int32) (x2j91 : Int32) (x3j91 : Int32) (x4j91 : Int32) (x5j91 : Int32) (z1j91 : Int32) (z2j91 : Int32) : Prop := (d_j91 ≤ mc ∧ e_j91 ≤ ms) ∧ xS y_j91 s_j91 a0 12 z1j91 z2j91 (fun s_11 : St => wla_Cw_survey_98 mc ms Post a0 y_j91 s_11 d_j91 e_j91 x1j91 x2j91 x3j91 x4j91 x5j91 0 0)
def wja_Cw_survey_30 (mc ms : Nat) (Post : Ly → St → Nat → Nat → Prop) (a0 : Nat) (y_j30 : Ly) (s_j30 : St) (d_j30 e_j30 : Nat) (x1j30 : Int32) (x2j30 : Int32) (x3j30 : Int32) : Prop := (d_j30 ≤ mc ∧ e_j30 ≤ ms) ∧ xA y_j30 s_j30 a0 11 x1j30 (fun x_2 : Int32 => ∃ mc_8 ms_9 : Nat, (d_j30 + mc_8 ≤ mc ∧ e_j30 + ms_9 ≤ ms) ∧ wa_Cw_judge mc_8 ms_9 y_j30 (fun (y_5 : Ly) (s_4 : St) (d_6 e_7 : Nat) => (d_j30 + d_6 ≤ mc ∧ e_j30 + e_7 ≤ ms) ∧ ((¬ (sV s_4 a0 16) = 1 → ((¬ (sV s_4 a0 16) = 4 → wja_Cw_survey_91 mc ms Post a0 y_5 s_4 (d_j30 + d_6) (e_j30 + e_7) x1j30 x2j30 x3j30 (sV s_4 a0 16) (sV s_4 a0 17) x1j30 0) ∧ ((sV s_4 a0 16) = 4 → wja_Cw_survey_91 mc ms Post a0 y_5 s_4 (d_j30 + d_6) (e_j30 + e_7) x1j30 x2j30 x3j30 (sV s_4 a0 16) (sV s_4 a0 17) x1j30 ((sV s_4 a0 17) / 100)))) ∧ ((sV s_4 a0 16) = 1 → wja_Cw_survey_91 mc ms Post a0 y_5 s_4 (d_j30 + d_6) (e_j30 + e_7) x1j30 x2j30 x3j30 (sV s_4 a0 16) (sV s_4 a0 17) x1j30 (sV s_4 a0 17)))) s_j30 a0 a0 10 x3j30 (x3j30 + x_2) 0)
def wa_Cw_survey (mc ms : Nat) (y : Ly) (Post : Ly → St → Nat → Nat → Prop) (σ : St) (a0 : Nat) (v1 : Int32) (v2 : Int32) : Prop := xA y σ a0 12 v1 (fun x_1 : Int32 => ((x_1 = (-1) → wja_Cw_survey_30 mc ms Post a0 y σ 0 0 v1 v2 (v1 * 1204)) ∧ (¬ (x_1 = (-1)) → ((v2 = 0 → wja_Cw_survey_188 mc ms Post a0 y σ 0 0) ∧ (¬ (v2 = 0) → xA y σ a0 13 v1 (fun x_23 : Int32 => ((¬ x_23 = (-1) → wja_Cw_survey_188 mc ms Post a0 y σ 0 0) ∧ (x_23 = (-1) → wja_Cw_survey_30 mc ms Post a0 y σ 0 0 v1 v2 (v1 * 1204)))))))))
set_option maxHeartbeats 4000000 in
set_option maxRecDepth 100000 in
theorem ca_Cw_survey (l : Launch) (D : va_G) (g : Nat → ClassId) (F : Nat → SL) (sl : List SL) (hF : SOK F sl) (ad : Nat → Nat) (mc ms : Nat) (y : Ly) (Post : Ly → St → Nat → Nat → Prop) (σ : St) (a0 : Nat) (v1 : Int32) (v2 : Int32) (sz uz : Nat) (h_a0 : cl a0 = 11) (h : wa_Cw_survey mc ms y Post σ a0 v1 v2) : Met l y_Cw_survey (mw y_Cw_survey b_Cw_survey 8 (none)) (ra_Cw_survey mc ms) (PCu g D sl [.ref (ad a0), .int v1, .int v2] sz uz (ws g ad y σ)) (va_Qv (fun (u : Ly × St × Nat × Nat) => Post u.1 u.2.1 u.2.2.1 u.2.2.2) (QU D (va_A (ws g ad y σ) sz) (fun u => ws g ad u.1 u.2.1) sz uz (fun u => u.2.2.1) (fun u => u.2.2.2)) (va_A (ws g ad y σ) sz)) mc ms (va_A (ws g ad y σ) sz) := by
  refine ofVu (by decide +kernel) (Nat.le_of_ble_eq_true rfl) ?_
  intro p e s m args below meth c A Q ls H locs G hsz hP hD hS hl hret
  subst hsz
  have hl : lv_has ls 8 [(0, .ref (ad a0)), (1, .int v1), (2, .int v2)] := hl
  have hd : 0 ≤ mc ∧ 0 ≤ ms := ⟨Nat.zero_le _, Nat.zero_le _⟩
  unfold wa_Cw_survey at h
  refine lv_iload_n G.1 G.2.1 d_Cw_survey_0 rfl (lv_at hl 1 rfl) ?_
  refine lv_sipush (v := 1204) G.1 G.2.1 d_Cw_survey_1 (by decide) ?_
  refine lv_imul G.1 G.2.1 d_Cw_survey_4 ?_
  refine lv_istore_n (lv' := [(3, .int (v1 * 1204)), (0, .ref (ad a0)), (1, .int v1), (2, .int v2)]) G.1 G.2.1 d_Cw_survey_5 rfl hl (by decide) rfl (fun ls hl => ?_)
  refine lv_aload_n G.1 G.2.1 d_Cw_survey_6 rfl (lv_at hl 1 rfl) ?_
  refine ugf (v := .ref (yP y a0 12)) G hP h_a0 iCw rfl 12 (by decide) rfl q1146 rfl rfl d_Cw_survey_7 ?_
  refine lv_iload_n G.1 G.2.1 d_Cw_survey_10 rfl (lv_at hl 2 rfl) ?_
  refine uiald G hP (kdp h_a0 rfl) (typ h_a0 rfl) h d_Cw_survey_11 (fun x_1 h => ?_)
  refine lv_iconst (v := (-1)) G.1 G.2.1 d_Cw_survey_12 (by decide) ?_
  have J_188 : ∀ (y_j188 : Ly) (s_j188 : St) (d_j188 e_j188 : Nat) (H : Heap) (locs : List Loc), wja_Cw_survey_188 mc ms Post a0 y_j188 s_j188 d_j188 e_j188 → va_P D CL (ws g ad y_j188 s_j188) H → va_D A (ws g ad y_j188 s_j188) → va_S A s.heap H locs → ∀ ls, lv_has ls 8 [] → W p l e (ra_Cw_survey mc ms) s m args below meth c H locs d_j188 e_j188 Q (F0 m 188 ls []) := by
    intro y_j188 s_j188 d_j188 e_j188 H locs h hP hD hS ls hl
    unfold wja_Cw_survey_188 at h
    obtain ⟨hd, h⟩ := h
    exact hret (y_j188, s_j188, d_j188, e_j188) _ _ _ _ _ ls h hP hD hS (Nat.le_refl _) (Nat.le_refl _) hd.1 hd.2 d_Cw_survey_188
  have J_30 : ∀ (y_j30 : Ly) (s_j30 : St) (d_j30 e_j30 : Nat) (x1j30 : Int32) (x2j30 : Int32) (x3j30 : Int32) (H : Heap) (locs : List Loc), wja_Cw_survey_30 mc ms Post a0 y_j30 s_j30 d_j30 e_j30 x1j30 x2j30 x3j30 → va_P D CL (ws g ad y_j30 s_j30) H → va_D A (ws g ad y_j30 s_j30) → va_S A s.heap H locs → ∀ ls, lv_has ls 8 [(0, .ref (ad a0)), (1, .int x1j30), (2, .int x2j30), (3, .int x3j30)] → W p l e (ra_Cw_survey mc ms) s m args below meth c H locs d_j30 e_j30 Q (F0 m 30 ls []) := by
    intro y_j30 s_j30 d_j30 e_j30 x1j30 x2j30 x3j30 H locs h hP hD hS ls hl
    unfold wja_Cw_survey_30 at h
    obtain ⟨hd, h⟩ := h
    refine lv_aload_n G.1 G.2.1 d_Cw_survey_30 rfl (lv_at hl 0 rfl) ?_
    refine lv_aload_n G.1 G.2.1 d_Cw_survey_31 rfl (lv_at hl 0 rfl) ?_
    refine ugf (v := .ref (yP y_j30 a0 10)) G hP h_a0 iCw rfl 10 (by decide) rfl q1144 rfl rfl d_Cw_survey_32 ?_
    refine lv_iload_n G.1 G.2.1 d_Cw_survey_35 rfl (lv_at hl 3 rfl) ?_
    refine lv_iload_n G.1 G.2.1 d_Cw_survey_36 rfl (lv_at hl 3 rfl) ?_
    refine lv_aload_n G.1 G.2.1 d_Cw_survey_37 rfl (lv_at hl 0 rfl) ?_
    refine ugf (v := .ref (yP y_j30 a0 11)) G hP h_a0 iCw rfl 11 (by decide) rfl q1145 rfl rfl d_Cw_survey_38 ?_
    refine lv_iload_n G.1 G.2.1 d_Cw_survey_41 rfl (lv_at hl 1 rfl) ?_
    refine uiald G hP (kdp h_a0 rfl) (typ h_a0 rfl) h d_Cw_survey_42 (fun x_2 h => ?_)
    refine lv_iadd G.1 G.2.1 d_Cw_survey_43 ?_
    refine lv_iconst (v := 0) G.1 G.2.1 d_Cw_survey_44 (by decide) ?_
    refine W.eq (g2 := F0 m 45 ls [.int 0, .int (x3j30 + x_2), .int x3j30, .ref (yP y_j30 a0 10), .ref (ad a0)]) rfl ?_
    obtain ⟨mc_8, ms_9, hr_10, h⟩ := h
    refine utVv (As := [.ref (yP y_j30 a0 10), .int x3j30, .int (x3j30 + x_2), .int 0]) (rest := []) G hP hD hS (ca_Cw_judge l D g F sl hF ad mc_8 ms_9 y_j30 _ s_j30 a0 a0 10 x3j30 (x3j30 + x_2) 0 H.size (us H) h_a0 ⟨(kdp h_a0 rfl), (typ h_a0 rfl)⟩ h) w9_Cw_judge q2481 ⟨Nat.le_of_ble_eq_true rfl, Nat.le_of_ble_eq_true rfl⟩ rfl rfl h_a0 (q := (RCw, TCw, 20)) rfl rfl hl.1 rfl (Nat.le_of_ble_eq_true rfl) rfl hr_10 d_Cw_survey_45 (fun y_5 s_4 d_6 e_7 H locs h hP hD hS => ?_)
    obtain ⟨hd, h⟩ := h
    refine lv_aload_n G.1 G.2.1 d_Cw_survey_48 rfl (lv_at hl 0 rfl) ?_
    refine ugf (v := .int (sV s_4 a0 16)) G hP h_a0 iCw rfl 16 (by decide) rfl q1150 rfl rfl d_Cw_survey_49 ?_
    refine lv_istore (lv' := [(4, .int (sV s_4 a0 16)), (0, .ref (ad a0)), (1, .int x1j30), (2, .int x2j30), (3, .int x3j30)]) G.1 G.2.1 d_Cw_survey_52 hl (by decide) rfl (fun ls hl => ?_)
    refine lv_aload_n G.1 G.2.1 d_Cw_survey_54 rfl (lv_at hl 1 rfl) ?_
    refine ugf (v := .int (sV s_4 a0 17)) G hP h_a0 iCw rfl 17 (by decide) rfl q1151 rfl rfl d_Cw_survey_55 ?_
    refine lv_istore (lv' := [(5, .int (sV s_4 a0 17)), (4, .int (sV s_4 a0 16)), (0, .ref (ad a0)), (1, .int x1j30), (2, .int x2j30), (3, .int x3j30)]) G.1 G.2.1 d_Cw_survey_58 hl (by decide) rfl (fun ls hl => ?_)
    refine lv_aload_n G.1 G.2.1 d_Cw_survey_60 rfl (lv_at hl 2 rfl) ?_
    refine ugf (v := .ref (yP y_5 a0 12)) G hP h_a0 iCw rfl 12 (by decide) rfl q1146 rfl rfl d_Cw_survey_61 ?_
    refine lv_iload_n G.1 G.2.1 d_Cw_survey_64 rfl (lv_at hl 3 rfl) ?_
    refine lv_iload G.1 G.2.1 d_Cw_survey_65 (lv_at hl 1 rfl) ?_
    refine lv_iconst (v := 1) G.1 G.2.1 d_Cw_survey_67 (by decide) ?_
    have J_91 : ∀ (y_j91 : Ly) (s_j91 : St) (d_j91 e_j91 : Nat) (x1j91 : Int32) (x2j91 : Int32) (x3j91 : Int32) (x4j91 : Int32) (x5j91 : Int32) (z1j91 : Int32) (z2j91 : Int32) (H : Heap) (locs : List Loc), wja_Cw_survey_91 mc ms Post a0 y_j91 s_j91 d_j91 e_j91 x1j91 x2j91 x3j91 x4j91 x5j91 z1j91 z2j91 → va_P D CL (ws g ad y_j91 s_j91) H → va_D A (ws g ad y_j91 s_j91) → va_S A s.heap H locs → ∀ ls, lv_has ls 8 [(0, .ref (ad a0)), (1, .int x1j91), (2, .int x2j91), (3, .int x3j91), (4, .int x4j91), (5, .int x5j91)] → W p l e (ra_Cw_survey mc ms) s m args below meth c H locs d_j91 e_j91 Q (F0 m 91 ls [.int z2j91, .int z1j91, .ref (yP y_j91 a0 12)]) := by
      intro y_j91 s_j91 d_j91 e_j91 x1j91 x2j91 x3j91 x4j91 x5j91 z1j91 z2j91 H locs h hP hD hS ls hl
      unfold wja_Cw_survey_91 at h
      obtain ⟨hd, h⟩ := h
      refine uiast G hP hD hS (kdp h_a0 rfl) (typ h_a0 rfl) h d_Cw_survey_91 (fun s_11 H locs h hP hD hS => ?_)
      refine lv_iconst (v := 0) G.1 G.2.1 d_Cw_survey_92 (by decide) ?_
      refine lv_istore (lv' := [(6, .int 0), (0, .ref (ad a0)), (1, .int x1j91), (2, .int x2j91), (3, .int x3j91), (4, .int x4j91), (5, .int x5j91)]) G.1 G.2.1 d_Cw_survey_93 hl (by decide) rfl (fun ls hl => ?_)
      refine lv_iconst (v := 0) G.1 G.2.1 d_Cw_survey_95 (by decide) ?_
      refine lv_istore (lv' := [(7, .int 0), (6, .int 0), (0, .ref (ad a0)), (1, .int x1j91), (2, .int x2j91), (3, .int x3j91), (4, .int x4j91), (5, .int x5j91)]) G.1 G.2.1 d_Cw_survey_96 hl (by decide) rfl (fun ls hl => ?_)
      unfold wla_Cw_survey_98 at h
      obtain ⟨I_98, μ_98, hI_98, hB_98⟩ := h
      have L_98 : ∀ (n_98 : Nat) (y_h98 : Ly) (s_h98 : St) (d_h98 e_h98 : Nat) (x1h98 : Int32) (x2h98 : Int32) (x3h98 : Int32) (x4h98 : Int32) (x5h98 : Int32) (x6h98 : Int32) (x7h98 : Int32), μ_98 y_h98 s_h98 d_h98 e_h98 x1h98 x2h98 x3h98 x4h98 x5h98 x6h98 x7h98 < n_98 → I_98 y_h98 s_h98 d_h98 e_h98 x1h98 x2h98 x3h98 x4h98 x5h98 x6h98 x7h98 → ∀ (H : Heap) (locs : List Loc), va_P D CL (ws g ad y_h98 s_h98) H → va_D A (ws g ad y_h98 s_h98) → va_S A s.heap H locs → ∀ ls, lv_has ls 8 [(0, .ref (ad a0)), (1, .int x1h98), (2, .int x2h98), (3, .int x3h98), (4, .int x4h98), (5, .int x5h98), (6, .int x6h98), (7, .int x7h98)] → W p l e (ra_Cw_survey mc ms) s m args below meth c H locs d_h98 e_h98 Q (F0 m 98 ls []) := by
        intro n_98
        induction n_98 with
        | zero => intro y_h98 s_h98 d_h98 e_h98 x1h98 x2h98 x3h98 x4h98 x5h98 x6h98 x7h98 hμ; exact absurd hμ (Nat.not_lt_zero _)
        | succ n_98 ih_98 =>
          intro y_h98 s_h98 d_h98 e_h98 x1h98 x2h98 x3h98 x4h98 x5h98 x6h98 x7h98 hμ_98 hJ H locs hP hD hS ls hl
          obtain ⟨K_98, hK_98, h⟩ : ∃ K : Ly → St → Nat → Nat → Int32 → Int32 → Int32 → Int32 → Int32 → Int32 → Int32 → Prop, (∀ z1 z2 z3 z4 (t0 : Int32) (t1 : Int32) (t2 : Int32) (t3 : Int32) (t4 : Int32) (t5 : Int32) (t6 : Int32), K z1 z2 z3 z4 t0 t1 t2 t3 t4 t5 t6 → I_98 z1 z2 z3 z4 t0 t1 t2 t3 t4 t5 t6 ∧ μ_98 z1 z2 z3 z4 t0 t1 t2 t3 t4 t5 t6 < μ_98 y_h98 s_h98 d_h98 e_h98 x1h98 x2h98 x3h98 x4h98 x5h98 x6h98 x7h98) ∧ wba_Cw_survey_98 mc ms Post K a0 y_h98 s_h98 d_h98 e_h98 x1h98 x2h98 x3h98 x4h98 x5h98 x6h98 x7h98 := ⟨_, fun _ _ _ _ _ _ _ _ _ _ _ h => h, hB_98 y_h98 s_h98 d_h98 e_h98 x1h98 x2h98 x3h98 x4h98 x5h98 x6h98 x7h98 hJ⟩
          unfold wba_Cw_survey_98 at h
          obtain ⟨hd, h⟩ := h
          refine lv_iload G.1 G.2.1 d_Cw_survey_98 (lv_at hl 7 rfl) ?_
          refine lv_bipush (v := 8) G.1 G.2.1 d_Cw_survey_100 (by decide) ?_
          have J_167 : ∀ (y_j167 : Ly) (s_j167 : St) (d_j167 e_j167 : Nat) (x1j167 : Int32) (x2j167 : Int32) (x6j167 : Int32) (H : Heap) (locs : List Loc), wja_Cw_survey_167 mc ms Post a0 y_j167 s_j167 d_j167 e_j167 x1j167 x2j167 x6j167 → va_P D CL (ws g ad y_j167 s_j167) H → va_D A (ws g ad y_j167 s_j167) → va_S A s.heap H locs → ∀ ls, lv_has ls 8 [(0, .ref (ad a0)), (1, .int x1j167), (2, .int x2j167), (6, .int x6j167)] → W p l e (ra_Cw_survey mc ms) s m args below meth c H locs d_j167 e_j167 Q (F0 m 167 ls []) := by
            intro y_j167 s_j167 d_j167 e_j167 x1j167 x2j167 x6j167 H locs h hP hD hS ls hl
            unfold wja_Cw_survey_167 at h
            obtain ⟨hd, h⟩ := h
            refine lv_aload_n G.1 G.2.1 d_Cw_survey_167 rfl (lv_at hl 0 rfl) ?_
            refine ugf (v := .ref (yP y_j167 a0 13)) G hP h_a0 iCw rfl 13 (by decide) rfl q1147 rfl rfl d_Cw_survey_168 ?_
            refine lv_iload_n G.1 G.2.1 d_Cw_survey_171 rfl (lv_at hl 1 rfl) ?_
            refine lv_iload_n G.1 G.2.1 d_Cw_survey_172 rfl (lv_at hl 2 rfl) ?_
            have J_187 : ∀ (y_j187 : Ly) (s_j187 : St) (d_j187 e_j187 : Nat) (z1j187 : Int32) (z2j187 : Int32) (H : Heap) (locs : List Loc), wja_Cw_survey_187 mc ms Post a0 y_j187 s_j187 d_j187 e_j187 z1j187 z2j187 → va_P D CL (ws g ad y_j187 s_j187) H → va_D A (ws g ad y_j187 s_j187) → va_S A s.heap H locs → ∀ ls, lv_has ls 8 [] → W p l e (ra_Cw_survey mc ms) s m args below meth c H locs d_j187 e_j187 Q (F0 m 187 ls [.int z2j187, .int z1j187, .ref (yP y_j187 a0 13)]) := by
              intro y_j187 s_j187 d_j187 e_j187 z1j187 z2j187 H locs h hP hD hS ls hl
              unfold wja_Cw_survey_187 at h
              obtain ⟨hd, h⟩ := h
              refine uiast G hP hD hS (kdp h_a0 rfl) (typ h_a0 rfl) h d_Cw_survey_187 (fun s_12 H locs h hP hD hS => ?_)
              exact J_188 y_j187 s_12 d_j187 e_j187 H locs h hP hD hS ls (lv_sub hl [] rfl)
            refine lv_if_eq (tgt := 181) G.1 G.2.1 d_Cw_survey_173 (by decide) (fun c173 => ?_) (fun c173 => ?_)
            · skip
              have h := h.1 c173
              refine lv_aload_n G.1 G.2.1 d_Cw_survey_181 rfl (lv_at hl 0 rfl) ?_
              refine ugf (v := .ref (yP y_j167 a0 13)) G hP h_a0 iCw rfl 13 (by decide) rfl q1147 rfl rfl d_Cw_survey_182 ?_
              refine lv_iload_n G.1 G.2.1 d_Cw_survey_185 rfl (lv_at hl 1 rfl) ?_
              refine uiald G hP (kdp h_a0 rfl) (typ h_a0 rfl) h d_Cw_survey_186 (fun x_13 h => ?_)
              exact J_187 y_j167 s_j167 d_j167 e_j167 x1j167 x_13 H locs h hP hD hS ls (lv_sub hl [] rfl)
            · skip
              have h := h.2 c173
              refine lv_iload G.1 G.2.1 d_Cw_survey_176 (lv_at hl 3 rfl) ?_
              refine lv_goto (tgt := 187) G.1 G.2.1 d_Cw_survey_178 (by decide) ?_
              exact J_187 y_j167 s_j167 d_j167 e_j167 x1j167 x6j167 H locs h hP hD hS ls (lv_sub hl [] rfl)
          refine lv_icmp_ge (tgt := 167) G.1 G.2.1 d_Cw_survey_102 (by decide) (fun c102 => ?_) (fun c102 => ?_)
          · skip
            have h := h.1 c102
            exact J_167 y_h98 s_h98 d_h98 e_h98 x1h98 x2h98 x6h98 H locs h hP hD hS ls (lv_sub hl [0, 1, 2, 6] rfl)
          · skip
            have h := h.2 c102
            refine lv_iload_n G.1 G.2.1 d_Cw_survey_105 rfl (lv_at hl 2 rfl) ?_
            refine lv_if_eq (tgt := 167) G.1 G.2.1 d_Cw_survey_106 (by decide) (fun c106 => ?_) (fun c106 => ?_)
            · skip
              have h := h.1 c106
              exact J_167 y_h98 s_h98 d_h98 e_h98 x1h98 x2h98 x6h98 H locs h hP hD hS ls (lv_sub hl [0, 1, 2, 6] rfl)
            · skip
              have h := h.2 c106
              refine lv_aload_n G.1 G.2.1 d_Cw_survey_109 rfl (lv_at hl 0 rfl) ?_
              refine lv_aload_n G.1 G.2.1 d_Cw_survey_110 rfl (lv_at hl 0 rfl) ?_
              refine ugf (v := .ref (yP y_h98 a0 10)) G hP h_a0 iCw rfl 10 (by decide) rfl q1144 rfl rfl d_Cw_survey_111 ?_
              refine lv_iload_n G.1 G.2.1 d_Cw_survey_114 rfl (lv_at hl 3 rfl) ?_
              refine lv_iload_n G.1 G.2.1 d_Cw_survey_115 rfl (lv_at hl 3 rfl) ?_
              refine lv_aload_n G.1 G.2.1 d_Cw_survey_116 rfl (lv_at hl 0 rfl) ?_
              refine W.eq (g2 := F0 m 117 ls [.ref (ad a0), .int x3h98, .int x3h98, .ref (yP y_h98 a0 10), .ref (ad a0)]) rfl ?_
              refine ugf (v := .ref (yP y_h98 a0 11)) G hP h_a0 iCw rfl 11 (by decide) rfl q1145 rfl rfl d_Cw_survey_117 ?_
              refine lv_iload_n G.1 G.2.1 d_Cw_survey_120 rfl (lv_at hl 1 rfl) ?_
              refine uiald G hP (kdp h_a0 rfl) (typ h_a0 rfl) h d_Cw_survey_121 (fun x_14 h => ?_)
              refine lv_iadd G.1 G.2.1 d_Cw_survey_122 ?_
              refine lv_iconst (v := 1) G.1 G.2.1 d_Cw_survey_123 (by decide) ?_
              refine lv_iload G.1 G.2.1 d_Cw_survey_124 (lv_at hl 7 rfl) ?_
              refine lv_ishl G.1 G.2.1 d_Cw_survey_126 ?_
              obtain ⟨mc_20, ms_21, hr_22, h⟩ := h
              refine utVv (As := [.ref (yP y_h98 a0 10), .int x3h98, .int (x3h98 + x_14), .int (1 <<< (x7h98 &&& 31))]) (rest := []) G hP hD hS (ca_Cw_judge l D g F sl hF ad mc_20 ms_21 y_h98 _ s_h98 a0 a0 10 x3h98 (x3h98 + x_14) (1 <<< (x7h98 &&& 31)) H.size (us H) h_a0 ⟨(kdp h_a0 rfl), (typ h_a0 rfl)⟩ h) w9_Cw_judge q2481 ⟨Nat.le_of_ble_eq_true rfl, Nat.le_of_ble_eq_true rfl⟩ rfl rfl h_a0 (q := (RCw, TCw, 20)) rfl rfl hl.1 rfl (Nat.le_of_ble_eq_true rfl) rfl hr_22 d_Cw_survey_127 (fun y_17 s_16 d_18 e_19 H locs h hP hD hS => ?_)
              obtain ⟨hd, h⟩ := h
              refine lv_iload G.1 G.2.1 d_Cw_survey_130 (lv_at hl 6 rfl) ?_
              refine lv_iload G.1 G.2.1 d_Cw_survey_132 (lv_at hl 4 rfl) ?_
              refine lv_aload_n G.1 G.2.1 d_Cw_survey_134 rfl (lv_at hl 0 rfl) ?_
              refine ugf (v := .int (sV s_16 a0 16)) G hP h_a0 iCw rfl 16 (by decide) rfl q1150 rfl rfl d_Cw_survey_135 ?_
              have J_158 : ∀ (y_j158 : Ly) (s_j158 : St) (d_j158 e_j158 : Nat) (x1j158 : Int32) (x2j158 : Int32) (x3j158 : Int32) (x4j158 : Int32) (x5j158 : Int32) (x7j158 : Int32) (z0j158 : Int32) (z1j158 : Int32) (H : Heap) (locs : List Loc), wja_Cw_survey_158 mc ms Post K_98 a0 y_j158 s_j158 d_j158 e_j158 x1j158 x2j158 x3j158 x4j158 x5j158 x7j158 z0j158 z1j158 → va_P D CL (ws g ad y_j158 s_j158) H → va_D A (ws g ad y_j158 s_j158) → va_S A s.heap H locs → ∀ ls, lv_has ls 8 [(0, .ref (ad a0)), (1, .int x1j158), (2, .int x2j158), (3, .int x3j158), (4, .int x4j158), (5, .int x5j158), (7, .int x7j158)] → W p l e (ra_Cw_survey mc ms) s m args below meth c H locs d_j158 e_j158 Q (F0 m 158 ls [.int z1j158, .int z0j158]) := by
                intro y_j158 s_j158 d_j158 e_j158 x1j158 x2j158 x3j158 x4j158 x5j158 x7j158 z0j158 z1j158 H locs h hP hD hS ls hl
                unfold wja_Cw_survey_158 at h
                obtain ⟨hd, h⟩ := h
                refine lv_ior G.1 G.2.1 d_Cw_survey_158 ?_
                refine lv_istore (lv' := [(6, .int (z0j158 ||| z1j158)), (0, .ref (ad a0)), (1, .int x1j158), (2, .int x2j158), (3, .int x3j158), (4, .int x4j158), (5, .int x5j158), (7, .int x7j158)]) G.1 G.2.1 d_Cw_survey_159 hl (by decide) rfl (fun ls hl => ?_)
                refine lv_iinc (v := x7j158 + 1) (lv' := [(7, .int (x7j158 + 1)), (6, .int (z0j158 ||| z1j158)), (0, .ref (ad a0)), (1, .int x1j158), (2, .int x2j158), (3, .int x3j158), (4, .int x4j158), (5, .int x5j158)]) G.1 G.2.1 d_Cw_survey_161 hl (k := 7) rfl rfl (by decide) rfl (fun ls hl => ?_)
                refine lv_goto (tgt := 98) G.1 G.2.1 d_Cw_survey_164 (by decide) ?_
                have h := hK_98 y_j158 s_j158 d_j158 e_j158 x1j158 x2j158 x3j158 x4j158 x5j158 (z0j158 ||| z1j158) (x7j158 + 1) h
                exact ih_98 y_j158 s_j158 d_j158 e_j158 x1j158 x2j158 x3j158 x4j158 x5j158 (z0j158 ||| z1j158) (x7j158 + 1) (Nat.lt_of_lt_of_le h.2 (Nat.le_of_lt_succ hμ_98)) h.1 H locs hP hD hS ls (lv_sub hl [2, 3, 4, 5, 6, 7, 1, 0] rfl)
              have J_150 : ∀ (y_j150 : Ly) (s_j150 : St) (d_j150 e_j150 : Nat) (x1j150 : Int32) (x2j150 : Int32) (x3j150 : Int32) (x4j150 : Int32) (x5j150 : Int32) (x7j150 : Int32) (z0j150 : Int32) (H : Heap) (locs : List Loc), wja_Cw_survey_150 mc ms Post K_98 a0 y_j150 s_j150 d_j150 e_j150 x1j150 x2j150 x3j150 x4j150 x5j150 x7j150 z0j150 → va_P D CL (ws g ad y_j150 s_j150) H → va_D A (ws g ad y_j150 s_j150) → va_S A s.heap H locs → ∀ ls, lv_has ls 8 [(0, .ref (ad a0)), (1, .int x1j150), (2, .int x2j150), (3, .int x3j150), (4, .int x4j150), (5, .int x5j150), (7, .int x7j150)] → W p l e (ra_Cw_survey mc ms) s m args below meth c H locs d_j150 e_j150 Q (F0 m 150 ls [.int z0j150]) := by
                intro y_j150 s_j150 d_j150 e_j150 x1j150 x2j150 x3j150 x4j150 x5j150 x7j150 z0j150 H locs h hP hD hS ls hl
                unfold wja_Cw_survey_150 at h
                obtain ⟨hd, h⟩ := h
                refine lv_iconst (v := 1) G.1 G.2.1 d_Cw_survey_150 (by decide) ?_
                refine lv_iload G.1 G.2.1 d_Cw_survey_151 (lv_at hl 6 rfl) ?_
                refine lv_ishl G.1 G.2.1 d_Cw_survey_153 ?_
                refine lv_goto (tgt := 158) G.1 G.2.1 d_Cw_survey_154 (by decide) ?_
                exact J_158 y_j150 s_j150 d_j150 e_j150 x1j150 x2j150 x3j150 x4j150 x5j150 x7j150 z0j150 (1 <<< (x7j150 &&& 31)) H locs h hP hD hS ls (lv_sub hl [0, 1, 2, 3, 4, 5, 6] rfl)
              refine W.eq (g2 := F0 m 138 ls [.int (sV s_16 a0 16), .int x4h98, .int x6h98]) rfl ?_
              refine lv_icmp_ne (tgt := 150) G.1 G.2.1 d_Cw_survey_138 (by decide) (fun c138 => ?_) (fun c138 => ?_)
              · skip
                have h := h.1 c138
                exact J_150 y_17 s_16 (d_h98 + d_18) (e_h98 + e_19) x1h98 x2h98 x3h98 x4h98 x5h98 x7h98 x6h98 H locs h hP hD hS ls (lv_sub hl [0, 1, 2, 3, 4, 5, 7] rfl)
              · skip
                have h := h.2 c138
                refine lv_iload G.1 G.2.1 d_Cw_survey_141 (lv_at hl 5 rfl) ?_
                refine lv_aload_n G.1 G.2.1 d_Cw_survey_143 rfl (lv_at hl 0 rfl) ?_
                refine ugf (v := .int (sV s_16 a0 17)) G hP h_a0 iCw rfl 17 (by decide) rfl q1151 rfl rfl d_Cw_survey_144 ?_
                refine lv_icmp_eq (tgt := 157) G.1 G.2.1 d_Cw_survey_147 (by decide) (fun c147 => ?_) (fun c147 => ?_)
                · skip
                  have h := h.1 c147
                  refine lv_iconst (v := 0) G.1 G.2.1 d_Cw_survey_157 (by decide) ?_
                  exact J_158 y_17 s_16 (d_h98 + d_18) (e_h98 + e_19) x1h98 x2h98 x3h98 x4h98 x5h98 x7h98 x6h98 0 H locs h hP hD hS ls (lv_sub hl [0, 1, 2, 3, 4, 5, 7] rfl)
                · skip
                  have h := h.2 c147
                  exact J_150 y_17 s_16 (d_h98 + d_18) (e_h98 + e_19) x1h98 x2h98 x3h98 x4h98 x5h98 x7h98 x6h98 H locs h hP hD hS ls (lv_sub hl [0, 1, 2, 3, 4, 5, 7] rfl)
      exact L_98 _ y_j91 s_11 d_j91 e_j91 x1j91 x2j91 x3j91 x4j91 x5j91 0 0 (Nat.lt_succ_self _) hI_98 H locs hP hD hS ls (lv_sub hl [2, 3, 4, 5, 6, 7, 1, 0] rfl)
    refine W.eq (g2 := F0 m 68 ls [.int 1, .int (sV s_4 a0 16), .int x1j30, .ref (yP y_5 a0 12)]) rfl ?_
    refine lv_icmp_ne (tgt := 76) G.1 G.2.1 d_Cw_survey_68 (by decide) (fun c68 => ?_) (fun c68 => ?_)
    · skip
      have h := h.1 c68
      refine lv_iload G.1 G.2.1 d_Cw_survey_76 (lv_at hl 1 rfl) ?_
      refine lv_iconst (v := 4) G.1 G.2.1 d_Cw_survey_78 (by decide) ?_
      refine lv_icmp_ne (tgt := 90) G.1 G.2.1 d_Cw_survey_79 (by decide) (fun c79 => ?_) (fun c79 => ?_)
      · skip
        have h := h.1 c79
        refine lv_iconst (v := 0) G.1 G.2.1 d_Cw_survey_90 (by decide) ?_
        exact J_91 y_5 s_4 (d_j30 + d_6) (e_j30 + e_7) x1j30 x2j30 x3j30 (sV s_4 a0 16) (sV s_4 a0 17) x1j30 0 H locs h hP hD hS ls (lv_sub hl [2, 3, 4, 5, 1, 0] rfl)
      · skip
        have h := h.2 c79
        refine lv_iload G.1 G.2.1 d_Cw_survey_82 (lv_at hl 0 rfl) ?_
        refine lv_bipush (v := 100) G.1 G.2.1 d_Cw_survey_84 (by decide) ?_
        refine lv_idiv G.1 G.2.1 d_Cw_survey_86 (by decide) ?_
        refine lv_goto (tgt := 91) G.1 G.2.1 d_Cw_survey_87 (by decide) ?_
        exact J_91 y_5 s_4 (d_j30 + d_6) (e_j30 + e_7) x1j30 x2j30 x3j30 (sV s_4 a0 16) (sV s_4 a0 17) x1j30 ((sV s_4 a0 17) / 100) H locs h hP hD hS ls (lv_sub hl [2, 3, 4, 5, 1, 0] rfl)
    · skip
      have h := h.2 c68
      refine lv_iload G.1 G.2.1 d_Cw_survey_71 (lv_at hl 0 rfl) ?_
      refine lv_goto (tgt := 91) G.1 G.2.1 d_Cw_survey_73 (by decide) ?_
      exact J_91 y_5 s_4 (d_j30 + d_6) (e_j30 + e_7) x1j30 x2j30 x3j30 (sV s_4 a0 16) (sV s_4 a0 17) x1j30 (sV s_4 a0 17) H locs h hP hD hS ls (lv_sub hl [2, 3, 4, 5, 1, 0] rfl)
  refine lv_icmp_eq (tgt := 30) G.1 G.2.1 d_Cw_survey_13 (by decide) (fun c13 => ?_) (fun c13 => ?_)
  · skip
    have h := h.1 c13
    exact J_30 y σ 0 0 v1 v2 (v1 * 1204) H locs h hP hD hS ls (lv_sub hl [1, 2, 3, 0] rfl)
  · skip
    have h := h.2 c13
    refine lv_iload_n G.1 G.2.1 d_Cw_survey_16 rfl (lv_at hl 3 rfl) ?_
    refine W.eq (g2 := F0 m 17 ls [.int v2]) rfl ?_
    refine lv_if_eq (tgt := 188) G.1 G.2.1 d_Cw_survey_17 (by decide) (fun c17 => ?_) (fun c17 => ?_)
    · skip
      have h := h.1 c17
      exact J_188 y σ 0 0 H locs h hP hD hS ls (lv_sub hl [] rfl)
    · skip
      have h := h.2 c17
      refine lv_aload_n G.1 G.2.1 d_Cw_survey_20 rfl (lv_at hl 1 rfl) ?_
      refine ugf (v := .ref (yP y a0 13)) G hP h_a0 iCw rfl 13 (by decide) rfl q1147 rfl rfl d_Cw_survey_21 ?_
      refine lv_iload_n G.1 G.2.1 d_Cw_survey_24 rfl (lv_at hl 2 rfl) ?_
      refine uiald G hP (kdp h_a0 rfl) (typ h_a0 rfl) h d_Cw_survey_25 (fun x_23 h => ?_)
      refine lv_iconst (v := (-1)) G.1 G.2.1 d_Cw_survey_26 (by decide) ?_
      refine lv_icmp_ne (tgt := 188) G.1 G.2.1 d_Cw_survey_27 (by decide) (fun c27 => ?_) (fun c27 => ?_)
      · skip
        have h := h.1 c27
        exact J_188 y σ 0 0 H locs h hP hD hS ls (lv_sub hl [] rfl)
      · skip
        have h := h.2 c27
        exact J_30 y σ 0 0 v1 v2 (v1 * 1204) H locs h hP hD hS ls (lv_sub hl [1, 2, 3, 0] rfl)
theorem q2494 : Cond.methodLink "ClassWorks" 477 y_Cw_survey ∈ lw_ok := lw_okmem (List.mem_of_getElem? (i := 2494) (by decide +kernel)) rfl
theorem q2497 : Cond.code y_Cw_survey b_Cw_survey 8 (none) ∈ lw_ok := lw_okmem (List.mem_of_getElem? (i := 2497) (by decide +kernel)) rfl
theorem q2496 : Cond.instanceMethod y_Cw_survey ∈ lw_ok := lw_okmem (List.mem_of_getElem? (i := 2496) (by decide +kernel)) rfl
theorem q158 : Cond.selects y_Cw_survey.cls y_Cw_survey y_Cw_survey ∈ lw_ok := lw_okmem (List.mem_of_getElem? (i := 158) (by decide +kernel)) rfl
theorem w9_Cw_survey : CWv y_Cw_survey b_Cw_survey 8 (none) 2 ∧ Cond.instanceMethod y_Cw_survey ∈ lw_ok ∧ Cond.selects y_Cw_survey.cls y_Cw_survey y_Cw_survey ∈ lw_ok := ⟨⟨q2497, q329, by decide +kernel, by decide +kernel, by decide +kernel⟩, q2496, q158⟩
def y_Cw_meets : MethodName := ⟨"ClassWorks", "meets", "(I)I"⟩
abbrev b_Cw_meets : ByteArray := prog_1_method_56_code
theorem d_Cw_meets_0 : decode b_Cw_meets 0 = .ok (.aload_n 0, 1) := by decide +kernel
theorem d_Cw_meets_1 : decode b_Cw_meets 1 = .ok (.iload_n 1, 1) := by decide +kernel
theorem d_Cw_meets_2 : decode b_Cw_meets 2 = .ok (.invokevirtual 470, 3) := by decide +kernel
theorem d_Cw_meets_5 : decode b_Cw_meets 5 = .ok (.ifCond .ne 5, 3) := by decide +kernel
theorem d_Cw_meets_8 : decode b_Cw_meets 8 = .ok (.iconst (-1), 1) := by decide +kernel
theorem d_Cw_meets_9 : decode b_Cw_meets 9 = .ok (.ireturn, 1) := by decide +kernel
theorem d_Cw_meets_10 : decode b_Cw_meets 10 = .ok (.aload_n 0, 1) := by decide +kernel
theorem d_Cw_meets_11 : decode b_Cw_meets 11 = .ok (.iload_n 1, 1) := by decide +kernel
theorem d_Cw_meets_12 : decode b_Cw_meets 12 = .ok (.iconst 0, 1) := by decide +kernel
theorem d_Cw_meets_13 : decode b_Cw_meets 13 = .ok (.invokevirtual 477, 3) := by decide +kernel
theorem d_Cw_meets_16 : decode b_Cw_meets 16 = .ok (.aload_n 0, 1) := by decide +kernel
theorem d_Cw_meets_17 : decode b_Cw_meets 17 = .ok (.getfield 40, 3) := by decide +kernel
theorem d_Cw_meets_20 : decode b_Cw_meets 20 = .ok (.iload_n 1, 1) := by decide +kernel
theorem d_Cw_meets_21 : decode b_Cw_meets 21 = .ok (.iaload, 1) := by decide +kernel
theorem d_Cw_meets_22 : decode b_Cw_meets 22 = .ok (.ireturn, 1) := by decide +kernel
abbrev ra_Cw_meets (mc ms : Nat) : Room := { frames := 12, cells := mc, slots := ms, locals := 597 }
def wa_Cw_meets (mc ms : Nat) (y : Ly) (Post : Ly → St → Int32 → Nat → Nat → Prop) (σ : St) (a0 : Nat) (v1 : Int32) : Prop := wu_Cw_isTrial y (fun (s_2 : St) (r_1 : Int32) => ((¬ r_1 = 0 → ∃ mc_8 ms_9 : Nat, (0 + mc_8 ≤ mc ∧ 0 + ms_9 ≤ ms) ∧ wa_Cw_survey mc_8 ms_9 y (fun (y_5 : Ly) (s_4 : St) (d_6 e_7 : Nat) => (0 + d_6 ≤ mc ∧ 0 + e_7 ≤ ms) ∧ xA y_5 s_4 a0 12 v1 (fun x_11 : Int32 => Post y_5 s_4 x_11 (0 + d_6) (0 + e_7))) s_2 a0 v1 0) ∧ (r_1 = 0 → Post y s_2 (-1) 0 0))) σ a0 v1
set_option maxHeartbeats 4000000 in
set_option maxRecDepth 100000 in
theorem ca_Cw_meets (l : Launch) (D : va_G) (g : Nat → ClassId) (F : Nat → SL) (sl : List SL) (hF : SOK F sl) (ad : Nat → Nat) (mc ms : Nat) (y : Ly) (Post : Ly → St → Int32 → Nat → Nat → Prop) (σ : St) (a0 : Nat) (v1 : Int32) (sz uz : Nat) (h_a0 : cl a0 = 11) (h : wa_Cw_meets mc ms y Post σ a0 v1) : Met l y_Cw_meets (mw y_Cw_meets b_Cw_meets 2 (some .int)) (ra_Cw_meets mc ms) (PCu g D sl [.ref (ad a0), .int v1] sz uz (ws g ad y σ)) (va_Qi (fun (r : Int32) (u : Ly × St × Nat × Nat) => Post u.1 u.2.1 r u.2.2.1 u.2.2.2) (QU D (va_A (ws g ad y σ) sz) (fun u => ws g ad u.1 u.2.1) sz uz (fun u => u.2.2.1) (fun u => u.2.2.2)) (va_A (ws g ad y σ) sz)) mc ms (va_A (ws g ad y σ) sz) := by
  refine ofIu (by decide +kernel) (Nat.le_of_ble_eq_true rfl) ?_
  intro p e s m args below meth c A Q ls H locs G hsz hP hD hS hl hret
  subst hsz
  have hl : lv_has ls 2 [(0, .ref (ad a0)), (1, .int v1)] := hl
  have hd : 0 ≤ mc ∧ 0 ≤ ms := ⟨Nat.zero_le _, Nat.zero_le _⟩
  unfold wa_Cw_meets at h
  refine lv_aload_n G.1 G.2.1 d_Cw_meets_0 rfl (lv_at hl 0 rfl) ?_
  refine lv_iload_n G.1 G.2.1 d_Cw_meets_1 rfl (lv_at hl 1 rfl) ?_
  refine ucVi (As := [.int v1]) (rest := []) G hP hD hS (cu_Cw_isTrial l D g ad y _ σ a0 v1 H.size h_a0 h) w9_Cw_isTrial q2473 ⟨Nat.le_of_ble_eq_true rfl, Nat.le_of_ble_eq_true rfl⟩ rfl rfl h_a0 (q := (RCw, TCw, 20)) rfl rfl hl.1 rfl (Nat.le_of_ble_eq_true rfl) rfl hd d_Cw_meets_2 (fun r_1 s_2 H locs h hP hD hS => ?_)
  refine lv_if_ne (tgt := 10) G.1 G.2.1 d_Cw_meets_5 (by decide) (fun c5 => ?_) (fun c5 => ?_)
  · skip
    have h := h.1 c5
    refine lv_aload_n G.1 G.2.1 d_Cw_meets_10 rfl (lv_at hl 0 rfl) ?_
    refine lv_iload_n G.1 G.2.1 d_Cw_meets_11 rfl (lv_at hl 1 rfl) ?_
    refine lv_iconst (v := 0) G.1 G.2.1 d_Cw_meets_12 (by decide) ?_
    obtain ⟨mc_8, ms_9, hr_10, h⟩ := h
    refine utVv (As := [.int v1, .int 0]) (rest := []) G hP hD hS (ca_Cw_survey l D g F sl hF ad mc_8 ms_9 y _ s_2 a0 v1 0 H.size (us H) h_a0 h) w9_Cw_survey q2494 ⟨Nat.le_of_ble_eq_true rfl, Nat.le_of_ble_eq_true rfl⟩ rfl rfl h_a0 (q := (RCw, TCw, 20)) rfl rfl hl.1 rfl (Nat.le_of_ble_eq_true rfl) rfl hr_10 d_Cw_meets_13 (fun y_5 s_4 d_6 e_7 H locs h hP hD hS => ?_)
    obtain ⟨hd, h⟩ := h
    refine lv_aload_n G.1 G.2.1 d_Cw_meets_16 rfl (lv_at hl 0 rfl) ?_
    refine ugf (v := .ref (yP y_5 a0 12)) G hP h_a0 iCw rfl 12 (by decide) rfl q1146 rfl rfl d_Cw_meets_17 ?_
    refine lv_iload_n G.1 G.2.1 d_Cw_meets_20 rfl (lv_at hl 1 rfl) ?_
    refine W.eq (g2 := F0 m 21 ls [.int v1, .ref (yP y_5 a0 12)]) rfl ?_
    refine uiald G hP (kdp h_a0 rfl) (typ h_a0 rfl) h d_Cw_meets_21 (fun x_11 h => ?_)
    exact hret _ (y_5, s_4, 0 + d_6, 0 + e_7) _ _ _ _ _ ls h hP hD hS (Nat.le_refl _) (Nat.le_refl _) hd.1 hd.2 d_Cw_meets_22
  · skip
    have h := h.2 c5
    refine lv_iconst (v := (-1)) G.1 G.2.1 d_Cw_meets_8 (by decide) ?_
    exact hret _ (y, s_2, 0, 0) _ _ _ _ _ ls h hP hD hS (Nat.le_refl _) (Nat.le_refl _) hd.1 hd.2 d_Cw_meets_9
def y_Cw_finds : MethodName := ⟨"ClassWorks", "finds", "(II)I"⟩
abbrev b_Cw_finds : ByteArray := prog_1_method_58_code
theorem d_Cw_finds_0 : decode b_Cw_finds 0 = .ok (.aload_n 0, 1) := by decide +kernel
theorem d_Cw_finds_1 : decode b_Cw_finds 1 = .ok (.iload_n 1, 1) := by decide +kernel
theorem d_Cw_finds_2 : decode b_Cw_finds 2 = .ok (.invokevirtual 470, 3) := by decide +kernel
theorem d_Cw_finds_5 : decode b_Cw_finds 5 = .ok (.ifCond .eq 11, 3) := by decide +kernel
theorem d_Cw_finds_8 : decode b_Cw_finds 8 = .ok (.iload_n 2, 1) := by decide +kernel
theorem d_Cw_finds_9 : decode b_Cw_finds 9 = .ok (.sipush (-256), 3) := by decide +kernel
theorem d_Cw_finds_12 : decode b_Cw_finds 12 = .ok (.iand, 1) := by decide +kernel
theorem d_Cw_finds_13 : decode b_Cw_finds 13 = .ok (.ifCond .eq 5, 3) := by decide +kernel
theorem d_Cw_finds_16 : decode b_Cw_finds 16 = .ok (.iconst (-1), 1) := by decide +kernel
theorem d_Cw_finds_17 : decode b_Cw_finds 17 = .ok (.ireturn, 1) := by decide +kernel
theorem d_Cw_finds_18 : decode b_Cw_finds 18 = .ok (.aload_n 0, 1) := by decide +kernel
theorem d_Cw_finds_19 : decode b_Cw_finds 19 = .ok (.iload_n 1, 1) := by decide +kernel
theorem d_Cw_finds_20 : decode b_Cw_finds 20 = .ok (.iconst 0, 1) := by decide +kernel
theorem d_Cw_finds_21 : decode b_Cw_finds 21 = .ok (.invokevirtual 473, 3) := by decide +kernel
theorem d_Cw_finds_24 : decode b_Cw_finds 24 = .ok (.aload_n 0, 1) := by decide +kernel
theorem d_Cw_finds_25 : decode b_Cw_finds 25 = .ok (.getfield 52, 3) := by decide +kernel
theorem d_Cw_finds_28 : decode b_Cw_finds 28 = .ok (.istore_n 3, 1) := by decide +kernel
theorem d_Cw_finds_29 : decode b_Cw_finds 29 = .ok (.aload_n 0, 1) := by decide +kernel
theorem d_Cw_finds_30 : decode b_Cw_finds 30 = .ok (.getfield 55, 3) := by decide +kernel
theorem d_Cw_finds_33 : decode b_Cw_finds 33 = .ok (.istore 4, 2) := by decide +kernel
theorem d_Cw_finds_35 : decode b_Cw_finds 35 = .ok (.aload_n 0, 1) := by decide +kernel
theorem d_Cw_finds_36 : decode b_Cw_finds 36 = .ok (.iload_n 1, 1) := by decide +kernel
theorem d_Cw_finds_37 : decode b_Cw_finds 37 = .ok (.iload_n 2, 1) := by decide +kernel
theorem d_Cw_finds_38 : decode b_Cw_finds 38 = .ok (.invokevirtual 473, 3) := by decide +kernel
theorem d_Cw_finds_41 : decode b_Cw_finds 41 = .ok (.iload_n 3, 1) := by decide +kernel
theorem d_Cw_finds_42 : decode b_Cw_finds 42 = .ok (.aload_n 0, 1) := by decide +kernel
theorem d_Cw_finds_43 : decode b_Cw_finds 43 = .ok (.getfield 52, 3) := by decide +kernel
theorem d_Cw_finds_46 : decode b_Cw_finds 46 = .ok (.if_icmp .ne 12, 3) := by decide +kernel
theorem d_Cw_finds_49 : decode b_Cw_finds 49 = .ok (.iload 4, 2) := by decide +kernel
theorem d_Cw_finds_51 : decode b_Cw_finds 51 = .ok (.aload_n 0, 1) := by decide +kernel
theorem d_Cw_finds_52 : decode b_Cw_finds 52 = .ok (.getfield 55, 3) := by decide +kernel
theorem d_Cw_finds_55 : decode b_Cw_finds 55 = .ok (.if_icmp .eq 7, 3) := by decide +kernel
theorem d_Cw_finds_58 : decode b_Cw_finds 58 = .ok (.iconst 1, 1) := by decide +kernel
theorem d_Cw_finds_59 : decode b_Cw_finds 59 = .ok (.goto 4, 3) := by decide +kernel
theorem d_Cw_finds_62 : decode b_Cw_finds 62 = .ok (.iconst 0, 1) := by decide +kernel
theorem d_Cw_finds_63 : decode b_Cw_finds 63 = .ok (.ireturn, 1) := by decide +kernel
abbrev ra_Cw_finds (mc ms : Nat) : Room := { frames := 12, cells := mc, slots := ms, locals := 592 }
def wja_Cw_finds_16 (mc ms : Nat) (Post : Ly → St → Int32 → Nat → Nat → Prop) (a0 : Nat) (y_j16 : Ly) (s_j16 : St) (d_j16 e_j16 : Nat) : Prop := (d_j16 ≤ mc ∧ e_j16 ≤ ms) ∧ Post y_j16 s_j16 (-1) d_j16 e_j16
def wja_Cw_finds_63 (mc ms : Nat) (Post : Ly → St → Int32 → Nat → Nat → Prop) (a0 : Nat) (y_j63 : Ly) (s_j63 : St) (d_j63 e_j63 : Nat) (z0j63 : Int32) : Prop := (d_j63 ≤ mc ∧ e_j63 ≤ ms) ∧ Post y_j63 s_j63 z0j63 d_j63 e_j63
def wja_Cw_finds_58 (mc ms : Nat) (Post : Ly → St → Int32 → Nat → Nat → Prop) (a0 : Nat) (y_j58 : Ly) (s_j58 : St) (d_j58 e_j58 : Nat) : Prop := (d_j58 ≤ mc ∧ e_j58 ≤ ms) ∧ wja_Cw_finds_63 mc ms Post a0 y_j58 s_j58 d_j58 e_j58 1
def wa_Cw_finds (mc ms : Nat) (y : Ly) (Post : Ly → St → Int32 → Nat → Nat → Prop) (σ : St) (a0 : Nat) (v1 : Int32) (v2 : Int32) : Prop := wu_Cw_isTrial y (fun (s_2 : St) (r_1 : Int32) => ((r_1 = 0 → wja_Cw_finds_16 mc ms Post a0 y s_2 0 0) ∧ (¬ (r_1 = 0) → (((v2 &&& (-256)) = 0 → ∃ mc_8 ms_9 : Nat, (0 + mc_8 ≤ mc ∧ 0 + ms_9 ≤ ms) ∧ wa_Cw_judgeTrial mc_8 ms_9 y (fun (y_5 : Ly) (s_4 : St) (d_6 e_7 : Nat) => (0 + d_6 ≤ mc ∧ 0 + e_7 ≤ ms) ∧ ∃ mc_16 ms_17 : Nat, (0 + d_6 + mc_16 ≤ mc ∧ 0 + e_7 + ms_17 ≤ ms) ∧ wa_Cw_judgeTrial mc_16 ms_17 y_5 (fun (y_13 : Ly) (s_12 : St) (d_14 e_15 : Nat) => (0 + d_6 + d_14 ≤ mc ∧ 0 + e_7 + e_15 ≤ ms) ∧ ((¬ (sV s_4 a0 16) = (sV s_12 a0 16) → wja_Cw_finds_58 mc ms Post a0 y_13 s_12 (0 + d_6 + d_14) (0 + e_7 + e_15)) ∧ ((sV s_4 a0 16) = (sV s_12 a0 16) → (((sV s_4 a0 17) = (sV s_12 a0 17) → wja_Cw_finds_63 mc ms Post a0 y_13 s_12 (0 + d_6 + d_14) (0 + e_7 + e_15) 0) ∧ (¬ ((sV s_4 a0 17) = (sV s_12 a0 17)) → wja_Cw_finds_58 mc ms Post a0 y_13 s_12 (0 + d_6 + d_14) (0 + e_7 + e_15)))))) s_4 a0 v1 v2) s_2 a0 v1 0) ∧ (¬ ((v2 &&& (-256)) = 0) → wja_Cw_finds_16 mc ms Post a0 y s_2 0 0))))) σ a0 v1
set_option maxHeartbeats 4000000 in
set_option maxRecDepth 100000 in
theorem ca_Cw_finds (l : Launch) (D : va_G) (g : Nat → ClassId) (F : Nat → SL) (sl : List SL) (hF : SOK F sl) (ad : Nat → Nat) (mc ms : Nat) (y : Ly) (Post : Ly → St → Int32 → Nat → Nat → Prop) (σ : St) (a0 : Nat) (v1 : Int32) (v2 : Int32) (sz uz : Nat) (h_a0 : cl a0 = 11) (h : wa_Cw_finds mc ms y Post σ a0 v1 v2) : Met l y_Cw_finds (mw y_Cw_finds b_Cw_finds 5 (some .int)) (ra_Cw_finds mc ms) (PCu g D sl [.ref (ad a0), .int v1, .int v2] sz uz (ws g ad y σ)) (va_Qi (fun (r : Int32) (u : Ly × St × Nat × Nat) => Post u.1 u.2.1 r u.2.2.1 u.2.2.2) (QU D (va_A (ws g ad y σ) sz) (fun u => ws g ad u.1 u.2.1) sz uz (fun u => u.2.2.1) (fun u => u.2.2.2)) (va_A (ws g ad y σ) sz)) mc ms (va_A (ws g ad y σ) sz) := by
  refine ofIu (by decide +kernel) (Nat.le_of_ble_eq_true rfl) ?_
  intro p e s m args below meth c A Q ls H locs G hsz hP hD hS hl hret
  subst hsz
  have hl : lv_has ls 5 [(0, .ref (ad a0)), (1, .int v1), (2, .int v2)] := hl
  have hd : 0 ≤ mc ∧ 0 ≤ ms := ⟨Nat.zero_le _, Nat.zero_le _⟩
  unfold wa_Cw_finds at h
  refine lv_aload_n G.1 G.2.1 d_Cw_finds_0 rfl (lv_at hl 0 rfl) ?_
  refine lv_iload_n G.1 G.2.1 d_Cw_finds_1 rfl (lv_at hl 1 rfl) ?_
  refine ucVi (As := [.int v1]) (rest := []) G hP hD hS (cu_Cw_isTrial l D g ad y _ σ a0 v1 H.size h_a0 h) w9_Cw_isTrial q2473 ⟨Nat.le_of_ble_eq_true rfl, Nat.le_of_ble_eq_true rfl⟩ rfl rfl h_a0 (q := (RCw, TCw, 20)) rfl rfl hl.1 rfl (Nat.le_of_ble_eq_true rfl) rfl hd d_Cw_finds_2 (fun r_1 s_2 H locs h hP hD hS => ?_)
  have J_16 : ∀ (y_j16 : Ly) (s_j16 : St) (d_j16 e_j16 : Nat) (H : Heap) (locs : List Loc), wja_Cw_finds_16 mc ms Post a0 y_j16 s_j16 d_j16 e_j16 → va_P D CL (ws g ad y_j16 s_j16) H → va_D A (ws g ad y_j16 s_j16) → va_S A s.heap H locs → ∀ ls, lv_has ls 5 [] → W p l e (ra_Cw_finds mc ms) s m args below meth c H locs d_j16 e_j16 Q (F0 m 16 ls []) := by
    intro y_j16 s_j16 d_j16 e_j16 H locs h hP hD hS ls hl
    unfold wja_Cw_finds_16 at h
    obtain ⟨hd, h⟩ := h
    refine lv_iconst (v := (-1)) G.1 G.2.1 d_Cw_finds_16 (by decide) ?_
    exact hret _ (y_j16, s_j16, d_j16, e_j16) _ _ _ _ _ ls h hP hD hS (Nat.le_refl _) (Nat.le_refl _) hd.1 hd.2 d_Cw_finds_17
  refine lv_if_eq (tgt := 16) G.1 G.2.1 d_Cw_finds_5 (by decide) (fun c5 => ?_) (fun c5 => ?_)
  · skip
    have h := h.1 c5
    exact J_16 y s_2 0 0 H locs h hP hD hS ls (lv_sub hl [] rfl)
  · skip
    have h := h.2 c5
    refine lv_iload_n G.1 G.2.1 d_Cw_finds_8 rfl (lv_at hl 2 rfl) ?_
    refine lv_sipush (v := (-256)) G.1 G.2.1 d_Cw_finds_9 (by decide) ?_
    refine lv_iand G.1 G.2.1 d_Cw_finds_12 ?_
    refine lv_if_eq (tgt := 18) G.1 G.2.1 d_Cw_finds_13 (by decide) (fun c13 => ?_) (fun c13 => ?_)
    · skip
      have h := h.1 c13
      refine lv_aload_n G.1 G.2.1 d_Cw_finds_18 rfl (lv_at hl 0 rfl) ?_
      refine lv_iload_n G.1 G.2.1 d_Cw_finds_19 rfl (lv_at hl 1 rfl) ?_
      refine lv_iconst (v := 0) G.1 G.2.1 d_Cw_finds_20 (by decide) ?_
      refine W.eq (g2 := F0 m 21 ls [.int 0, .int v1, .ref (ad a0)]) rfl ?_
      obtain ⟨mc_8, ms_9, hr_10, h⟩ := h
      refine utVv (As := [.int v1, .int 0]) (rest := []) G hP hD hS (ca_Cw_judgeTrial l D g F sl hF ad mc_8 ms_9 y _ s_2 a0 v1 0 H.size (us H) h_a0 h) w9_Cw_judgeTrial q2477 ⟨Nat.le_of_ble_eq_true rfl, Nat.le_of_ble_eq_true rfl⟩ rfl rfl h_a0 (q := (RCw, TCw, 20)) rfl rfl hl.1 rfl (Nat.le_of_ble_eq_true rfl) rfl hr_10 d_Cw_finds_21 (fun y_5 s_4 d_6 e_7 H locs h hP hD hS => ?_)
      obtain ⟨hd, h⟩ := h
      refine lv_aload_n G.1 G.2.1 d_Cw_finds_24 rfl (lv_at hl 0 rfl) ?_
      refine ugf (v := .int (sV s_4 a0 16)) G hP h_a0 iCw rfl 16 (by decide) rfl q1150 rfl rfl d_Cw_finds_25 ?_
      refine lv_istore_n (lv' := [(3, .int (sV s_4 a0 16)), (0, .ref (ad a0)), (1, .int v1), (2, .int v2)]) G.1 G.2.1 d_Cw_finds_28 rfl hl (by decide) rfl (fun ls hl => ?_)
      refine lv_aload_n G.1 G.2.1 d_Cw_finds_29 rfl (lv_at hl 1 rfl) ?_
      refine ugf (v := .int (sV s_4 a0 17)) G hP h_a0 iCw rfl 17 (by decide) rfl q1151 rfl rfl d_Cw_finds_30 ?_
      refine lv_istore (lv' := [(4, .int (sV s_4 a0 17)), (3, .int (sV s_4 a0 16)), (0, .ref (ad a0)), (1, .int v1), (2, .int v2)]) G.1 G.2.1 d_Cw_finds_33 hl (by decide) rfl (fun ls hl => ?_)
      refine lv_aload_n G.1 G.2.1 d_Cw_finds_35 rfl (lv_at hl 2 rfl) ?_
      refine lv_iload_n G.1 G.2.1 d_Cw_finds_36 rfl (lv_at hl 3 rfl) ?_
      refine lv_iload_n G.1 G.2.1 d_Cw_finds_37 rfl (lv_at hl 4 rfl) ?_
      obtain ⟨mc_16, ms_17, hr_18, h⟩ := h
      refine utVv (As := [.int v1, .int v2]) (rest := []) G hP hD hS (ca_Cw_judgeTrial l D g F sl hF ad mc_16 ms_17 y_5 _ s_4 a0 v1 v2 H.size (us H) h_a0 h) w9_Cw_judgeTrial q2477 ⟨Nat.le_of_ble_eq_true rfl, Nat.le_of_ble_eq_true rfl⟩ rfl rfl h_a0 (q := (RCw, TCw, 20)) rfl rfl hl.1 rfl (Nat.le_of_ble_eq_true rfl) rfl hr_18 d_Cw_finds_38 (fun y_13 s_12 d_14 e_15 H locs h hP hD hS => ?_)
      have hl := lv_sub (l' := [(4, .int (sV s_4 a0 17)), (3, .int (sV s_4 a0 16)), (0, .ref (ad a0))]) hl [0, 1, 2] rfl
      obtain ⟨hd, h⟩ := h
      refine lv_iload_n G.1 G.2.1 d_Cw_finds_41 rfl (lv_at hl 1 rfl) ?_
      refine W.eq (g2 := F0 m 42 ls [.int (sV s_4 a0 16)]) rfl ?_
      refine lv_aload_n G.1 G.2.1 d_Cw_finds_42 rfl (lv_at hl 2 rfl) ?_
      refine ugf (v := .int (sV s_12 a0 16)) G hP h_a0 iCw rfl 16 (by decide) rfl q1150 rfl rfl d_Cw_finds_43 ?_
      have J_63 : ∀ (y_j63 : Ly) (s_j63 : St) (d_j63 e_j63 : Nat) (z0j63 : Int32) (H : Heap) (locs : List Loc), wja_Cw_finds_63 mc ms Post a0 y_j63 s_j63 d_j63 e_j63 z0j63 → va_P D CL (ws g ad y_j63 s_j63) H → va_D A (ws g ad y_j63 s_j63) → va_S A s.heap H locs → ∀ ls, lv_has ls 5 [] → W p l e (ra_Cw_finds mc ms) s m args below meth c H locs d_j63 e_j63 Q (F0 m 63 ls [.int z0j63]) := by
        intro y_j63 s_j63 d_j63 e_j63 z0j63 H locs h hP hD hS ls hl
        unfold wja_Cw_finds_63 at h
        obtain ⟨hd, h⟩ := h
        exact hret _ (y_j63, s_j63, d_j63, e_j63) _ _ _ _ _ ls h hP hD hS (Nat.le_refl _) (Nat.le_refl _) hd.1 hd.2 d_Cw_finds_63
      have J_58 : ∀ (y_j58 : Ly) (s_j58 : St) (d_j58 e_j58 : Nat) (H : Heap) (locs : List Loc), wja_Cw_finds_58 mc ms Post a0 y_j58 s_j58 d_j58 e_j58 → va_P D CL (ws g ad y_j58 s_j58) H → va_D A (ws g ad y_j58 s_j58) → va_S A s.heap H locs → ∀ ls, lv_has ls 5 [] → W p l e (ra_Cw_finds mc ms) s m args below meth c H locs d_j58 e_j58 Q (F0 m 58 ls []) := by
        intro y_j58 s_j58 d_j58 e_j58 H locs h hP hD hS ls hl
        unfold wja_Cw_finds_58 at h
        obtain ⟨hd, h⟩ := h
        refine lv_iconst (v := 1) G.1 G.2.1 d_Cw_finds_58 (by decide) ?_
        refine lv_goto (tgt := 63) G.1 G.2.1 d_Cw_finds_59 (by decide) ?_
        exact J_63 y_j58 s_j58 d_j58 e_j58 1 H locs h hP hD hS ls (lv_sub hl [] rfl)
      refine lv_icmp_ne (tgt := 58) G.1 G.2.1 d_Cw_finds_46 (by decide) (fun c46 => ?_) (fun c46 => ?_)
      · skip
        have h := h.1 c46
        exact J_58 y_13 s_12 (0 + d_6 + d_14) (0 + e_7 + e_15) H locs h hP hD hS ls (lv_sub hl [] rfl)
      · skip
        have h := h.2 c46
        refine lv_iload G.1 G.2.1 d_Cw_finds_49 (lv_at hl 0 rfl) ?_
        refine lv_aload_n G.1 G.2.1 d_Cw_finds_51 rfl (lv_at hl 2 rfl) ?_
        refine ugf (v := .int (sV s_12 a0 17)) G hP h_a0 iCw rfl 17 (by decide) rfl q1151 rfl rfl d_Cw_finds_52 ?_
        refine lv_icmp_eq (tgt := 62) G.1 G.2.1 d_Cw_finds_55 (by decide) (fun c55 => ?_) (fun c55 => ?_)
        · skip
          have h := h.1 c55
          refine lv_iconst (v := 0) G.1 G.2.1 d_Cw_finds_62 (by decide) ?_
          exact J_63 y_13 s_12 (0 + d_6 + d_14) (0 + e_7 + e_15) 0 H locs h hP hD hS ls (lv_sub hl [] rfl)
        · skip
          have h := h.2 c55
          exact J_58 y_13 s_12 (0 + d_6 + d_14) (0 + e_7 + e_15) H locs h hP hD hS ls (lv_sub hl [] rfl)
    · skip
      have h := h.2 c13
      exact J_16 y s_2 0 0 H locs h hP hD hS ls (lv_sub hl [] rfl)
theorem q2506 : Cond.methodLink "ClassWorks" 481 y_Cw_isRule ∈ lw_ok := lw_okmem (List.mem_of_getElem? (i := 2506) (by decide +kernel)) rfl
theorem q2508 : Cond.code y_Cw_isRule b_Cw_isRule 1 (some (.boolean)) ∈ lw_ok := lw_okmem (List.mem_of_getElem? (i := 2508) (by decide +kernel)) rfl
theorem q2507 : Cond.static y_Cw_isRule ∈ lw_ok := lw_okmem (List.mem_of_getElem? (i := 2507) (by decide +kernel)) rfl
theorem w9_Cw_isRule : CWv y_Cw_isRule b_Cw_isRule 1 (some (.boolean)) 1 ∧ Cond.static y_Cw_isRule ∈ lw_ok := ⟨⟨q2508, q329, by decide +kernel, by decide +kernel, by decide +kernel⟩, q2507⟩
theorem q2509 : Cond.methodLink "ClassWorks" 484 y_Cw_isMet ∈ lw_ok := lw_okmem (List.mem_of_getElem? (i := 2509) (by decide +kernel)) rfl
theorem q2512 : Cond.code y_Cw_isMet b_Cw_isMet 3 (some (.boolean)) ∈ lw_ok := lw_okmem (List.mem_of_getElem? (i := 2512) (by decide +kernel)) rfl
theorem q2511 : Cond.instanceMethod y_Cw_isMet ∈ lw_ok := lw_okmem (List.mem_of_getElem? (i := 2511) (by decide +kernel)) rfl
theorem q159 : Cond.selects y_Cw_isMet.cls y_Cw_isMet y_Cw_isMet ∈ lw_ok := lw_okmem (List.mem_of_getElem? (i := 159) (by decide +kernel)) rfl
theorem w9_Cw_isMet : CWv y_Cw_isMet b_Cw_isMet 3 (some (.boolean)) 1 ∧ Cond.instanceMethod y_Cw_isMet ∈ lw_ok ∧ Cond.selects y_Cw_isMet.cls y_Cw_isMet y_Cw_isMet ∈ lw_ok := ⟨⟨q2512, q329, by decide +kernel, by decide +kernel, by decide +kernel⟩, q2511, q159⟩
def y_Cw_hole : MethodName := ⟨"ClassWorks", "hole", "(I)I"⟩
abbrev b_Cw_hole : ByteArray := prog_1_method_61_code
theorem d_Cw_hole_0 : decode b_Cw_hole 0 = .ok (.iload_n 1, 1) := by decide +kernel
theorem d_Cw_hole_1 : decode b_Cw_hole 1 = .ok (.ifCond .ge 5, 3) := by decide +kernel
theorem d_Cw_hole_4 : decode b_Cw_hole 4 = .ok (.iconst (-1), 1) := by decide +kernel
theorem d_Cw_hole_5 : decode b_Cw_hole 5 = .ok (.ireturn, 1) := by decide +kernel
theorem d_Cw_hole_6 : decode b_Cw_hole 6 = .ok (.iconst 0, 1) := by decide +kernel
theorem d_Cw_hole_7 : decode b_Cw_hole 7 = .ok (.istore_n 2, 1) := by decide +kernel
theorem d_Cw_hole_8 : decode b_Cw_hole 8 = .ok (.iload_n 2, 1) := by decide +kernel
theorem d_Cw_hole_9 : decode b_Cw_hole 9 = .ok (.aload_n 0, 1) := by decide +kernel
theorem d_Cw_hole_10 : decode b_Cw_hole 10 = .ok (.getfield 46, 3) := by decide +kernel
theorem d_Cw_hole_13 : decode b_Cw_hole 13 = .ok (.if_icmp .ge 15, 3) := by decide +kernel
theorem d_Cw_hole_16 : decode b_Cw_hole 16 = .ok (.aload_n 0, 1) := by decide +kernel
theorem d_Cw_hole_17 : decode b_Cw_hole 17 = .ok (.iload_n 2, 1) := by decide +kernel
theorem d_Cw_hole_18 : decode b_Cw_hole 18 = .ok (.iconst 0, 1) := by decide +kernel
theorem d_Cw_hole_19 : decode b_Cw_hole 19 = .ok (.invokevirtual 477, 3) := by decide +kernel
theorem d_Cw_hole_22 : decode b_Cw_hole 22 = .ok (.iinc 2 1, 3) := by decide +kernel
theorem d_Cw_hole_25 : decode b_Cw_hole 25 = .ok (.goto (-17), 3) := by decide +kernel
theorem d_Cw_hole_28 : decode b_Cw_hole 28 = .ok (.iconst 0, 1) := by decide +kernel
theorem d_Cw_hole_29 : decode b_Cw_hole 29 = .ok (.istore_n 2, 1) := by decide +kernel
theorem d_Cw_hole_30 : decode b_Cw_hole 30 = .ok (.iconst 1, 1) := by decide +kernel
theorem d_Cw_hole_31 : decode b_Cw_hole 31 = .ok (.istore_n 3, 1) := by decide +kernel
theorem d_Cw_hole_32 : decode b_Cw_hole 32 = .ok (.iload_n 3, 1) := by decide +kernel
theorem d_Cw_hole_33 : decode b_Cw_hole 33 = .ok (.bipush 60, 2) := by decide +kernel
theorem d_Cw_hole_35 : decode b_Cw_hole 35 = .ok (.if_icmp .ge 34, 3) := by decide +kernel
theorem d_Cw_hole_38 : decode b_Cw_hole 38 = .ok (.iload_n 3, 1) := by decide +kernel
theorem d_Cw_hole_39 : decode b_Cw_hole 39 = .ok (.invokestatic 481, 3) := by decide +kernel
theorem d_Cw_hole_42 : decode b_Cw_hole 42 = .ok (.ifCond .eq 21, 3) := by decide +kernel
theorem d_Cw_hole_45 : decode b_Cw_hole 45 = .ok (.aload_n 0, 1) := by decide +kernel
theorem d_Cw_hole_46 : decode b_Cw_hole 46 = .ok (.iload_n 3, 1) := by decide +kernel
theorem d_Cw_hole_47 : decode b_Cw_hole 47 = .ok (.invokevirtual 484, 3) := by decide +kernel
theorem d_Cw_hole_50 : decode b_Cw_hole 50 = .ok (.ifCond .ne 13, 3) := by decide +kernel
theorem d_Cw_hole_53 : decode b_Cw_hole 53 = .ok (.iload_n 2, 1) := by decide +kernel
theorem d_Cw_hole_54 : decode b_Cw_hole 54 = .ok (.iload_n 1, 1) := by decide +kernel
theorem d_Cw_hole_55 : decode b_Cw_hole 55 = .ok (.if_icmp .ne 5, 3) := by decide +kernel
theorem d_Cw_hole_58 : decode b_Cw_hole 58 = .ok (.iload_n 3, 1) := by decide +kernel
theorem d_Cw_hole_59 : decode b_Cw_hole 59 = .ok (.ireturn, 1) := by decide +kernel
theorem d_Cw_hole_60 : decode b_Cw_hole 60 = .ok (.iinc 2 1, 3) := by decide +kernel
theorem d_Cw_hole_63 : decode b_Cw_hole 63 = .ok (.iinc 3 1, 3) := by decide +kernel
theorem d_Cw_hole_66 : decode b_Cw_hole 66 = .ok (.goto (-34), 3) := by decide +kernel
theorem d_Cw_hole_69 : decode b_Cw_hole 69 = .ok (.bipush (-2), 2) := by decide +kernel
theorem d_Cw_hole_71 : decode b_Cw_hole 71 = .ok (.ireturn, 1) := by decide +kernel
abbrev ra_Cw_hole (mc ms : Nat) : Room := { frames := 12, cells := mc, slots := ms, locals := 597 }
def wja_Cw_hole_63 (mc ms : Nat) (Post : Ly → St → Int32 → Nat → Nat → Prop) (K_32 : Ly → St → Nat → Nat → Int32 → Int32 → Int32 → Prop) (a0 : Nat) (y_j63 : Ly) (s_j63 : St) (d_j63 e_j63 : Nat) (x1j63 : Int32) (x2j63 : Int32) (x3j63 : Int32) : Prop := (d_j63 ≤ mc ∧ e_j63 ≤ ms) ∧ K_32 y_j63 s_j63 d_j63 e_j63 x1j63 x2j63 (x3j63 + 1)
def wba_Cw_hole_32 (mc ms : Nat) (Post : Ly → St → Int32 → Nat → Nat → Prop) (K_32 : Ly → St → Nat → Nat → Int32 → Int32 → Int32 → Prop) (a0 : Nat) (y_h32 : Ly) (s_h32 : St) (d_h32 e_h32 : Nat) (x1h32 : Int32) (x2h32 : Int32) (x3h32 : Int32) : Prop := (d_h32 ≤ mc ∧ e_h32 ≤ ms) ∧ ((60 ≤ x3h32 → Post y_h32 s_h32 (-2) d_h32 e_h32) ∧ (¬ (60 ≤ x3h32) → wu_Cw_isRule y_h32 (fun (s_2 : St) (r_1 : Int32) => ((r_1 = 0 → wja_Cw_hole_63 mc ms Post K_32 a0 y_h32 s_2 d_h32 e_h32 x1h32 x2h32 x3h32) ∧ (¬ (r_1 = 0) → wu_Cw_isMet y_h32 (fun (s_4 : St) (r_3 : Int32) => ((¬ r_3 = 0 → wja_Cw_hole_63 mc ms Post K_32 a0 y_h32 s_4 d_h32 e_h32 x1h32 x2h32 x3h32) ∧ (r_3 = 0 → ((¬ x2h32 = x1h32 → wja_Cw_hole_63 mc ms Post K_32 a0 y_h32 s_4 d_h32 e_h32 x1h32 (x2h32 + 1) x3h32) ∧ (x2h32 = x1h32 → Post y_h32 s_4 x3h32 d_h32 e_h32))))) s_2 a0 x3h32))) s_h32 x3h32))
def wla_Cw_hole_32 (mc ms : Nat) (Post : Ly → St → Int32 → Nat → Nat → Prop) (a0 : Nat) (y_h32 : Ly) (s_h32 : St) (d_h32 e_h32 : Nat) (x1h32 : Int32) (x2h32 : Int32) (x3h32 : Int32) : Prop := ∃ (I : Ly → St → Nat → Nat → Int32 → Int32 → Int32 → Prop) (μ : Ly → St → Nat → Nat → Int32 → Int32 → Int32 → Nat), I y_h32 s_h32 d_h32 e_h32 x1h32 x2h32 x3h32 ∧ ∀ (u1 : Ly) (u2 : St) (u3 u4 : Nat) (t0 : Int32) (t1 : Int32) (t2 : Int32), I u1 u2 u3 u4 t0 t1 t2 → wba_Cw_hole_32 mc ms Post (fun z1 z2 z3 z4 t0q t1q t2q => I z1 z2 z3 z4 t0q t1q t2q ∧ μ z1 z2 z3 z4 t0q t1q t2q < μ u1 u2 u3 u4 t0 t1 t2) a0 u1 u2 u3 u4 t0 t1 t2
def wba_Cw_hole_8 (mc ms : Nat) (Post : Ly → St → Int32 → Nat → Nat → Prop) (K_8 : Ly → St → Nat → Nat → Int32 → Int32 → Prop) (a0 : Nat) (y_h8 : Ly) (s_h8 : St) (d_h8 e_h8 : Nat) (x1h8 : Int32) (x2h8 : Int32) : Prop := (d_h8 ≤ mc ∧ e_h8 ≤ ms) ∧ (((sV s_h8 a0 14) ≤ x2h8 → wla_Cw_hole_32 mc ms Post a0 y_h8 s_h8 d_h8 e_h8 x1h8 0 1) ∧ (¬ ((sV s_h8 a0 14) ≤ x2h8) → ∃ mc_10 ms_11 : Nat, (d_h8 + mc_10 ≤ mc ∧ e_h8 + ms_11 ≤ ms) ∧ wa_Cw_survey mc_10 ms_11 y_h8 (fun (y_7 : Ly) (s_6 : St) (d_8 e_9 : Nat) => (d_h8 + d_8 ≤ mc ∧ e_h8 + e_9 ≤ ms) ∧ K_8 y_7 s_6 (d_h8 + d_8) (e_h8 + e_9) x1h8 (x2h8 + 1)) s_h8 a0 x2h8 0))
def wla_Cw_hole_8 (mc ms : Nat) (Post : Ly → St → Int32 → Nat → Nat → Prop) (a0 : Nat) (y_h8 : Ly) (s_h8 : St) (d_h8 e_h8 : Nat) (x1h8 : Int32) (x2h8 : Int32) : Prop := ∃ (I : Ly → St → Nat → Nat → Int32 → Int32 → Prop) (μ : Ly → St → Nat → Nat → Int32 → Int32 → Nat), I y_h8 s_h8 d_h8 e_h8 x1h8 x2h8 ∧ ∀ (u1 : Ly) (u2 : St) (u3 u4 : Nat) (t0 : Int32) (t1 : Int32), I u1 u2 u3 u4 t0 t1 → wba_Cw_hole_8 mc ms Post (fun z1 z2 z3 z4 t0q t1q => I z1 z2 z3 z4 t0q t1q ∧ μ z1 z2 z3 z4 t0q t1q < μ u1 u2 u3 u4 t0 t1) a0 u1 u2 u3 u4 t0 t1
def wa_Cw_hole (mc ms : Nat) (y : Ly) (Post : Ly → St → Int32 → Nat → Nat → Prop) (σ : St) (a0 : Nat) (v1 : Int32) : Prop := ((0 ≤ v1 → wla_Cw_hole_8 mc ms Post a0 y σ 0 0 v1 0) ∧ (¬ (0 ≤ v1) → Post y σ (-1) 0 0))
set_option maxHeartbeats 4000000 in
set_option maxRecDepth 100000 in
theorem ca_Cw_hole (l : Launch) (D : va_G) (g : Nat → ClassId) (F : Nat → SL) (sl : List SL) (hF : SOK F sl) (ad : Nat → Nat) (mc ms : Nat) (y : Ly) (Post : Ly → St → Int32 → Nat → Nat → Prop) (σ : St) (a0 : Nat) (v1 : Int32) (sz uz : Nat) (h_a0 : cl a0 = 11) (h : wa_Cw_hole mc ms y Post σ a0 v1) : Met l y_Cw_hole (mw y_Cw_hole b_Cw_hole 4 (some .int)) (ra_Cw_hole mc ms) (PCu g D sl [.ref (ad a0), .int v1] sz uz (ws g ad y σ)) (va_Qi (fun (r : Int32) (u : Ly × St × Nat × Nat) => Post u.1 u.2.1 r u.2.2.1 u.2.2.2) (QU D (va_A (ws g ad y σ) sz) (fun u => ws g ad u.1 u.2.1) sz uz (fun u => u.2.2.1) (fun u => u.2.2.2)) (va_A (ws g ad y σ) sz)) mc ms (va_A (ws g ad y σ) sz) := by
  refine ofIu (by decide +kernel) (Nat.le_of_ble_eq_true rfl) ?_
  intro p e s m args below meth c A Q ls H locs G hsz hP hD hS hl hret
  subst hsz
  have hl : lv_has ls 4 [(0, .ref (ad a0)), (1, .int v1)] := hl
  have hd : 0 ≤ mc ∧ 0 ≤ ms := ⟨Nat.zero_le _, Nat.zero_le _⟩
  unfold wa_Cw_hole at h
  refine lv_iload_n G.1 G.2.1 d_Cw_hole_0 rfl (lv_at hl 1 rfl) ?_
  refine lv_if_ge (tgt := 6) G.1 G.2.1 d_Cw_hole_1 (by decide) (fun c1 => ?_) (fun c1 => ?_)
  · skip
    have h := h.1 c1
    refine lv_iconst (v := 0) G.1 G.2.1 d_Cw_hole_6 (by decide) ?_
    refine lv_istore_n (lv' := [(2, .int 0), (0, .ref (ad a0)), (1, .int v1)]) G.1 G.2.1 d_Cw_hole_7 rfl hl (by decide) rfl (fun ls hl => ?_)
    unfold wla_Cw_hole_8 at h
    obtain ⟨I_8, μ_8, hI_8, hB_8⟩ := h
    have L_8 : ∀ (n_8 : Nat) (y_h8 : Ly) (s_h8 : St) (d_h8 e_h8 : Nat) (x1h8 : Int32) (x2h8 : Int32), μ_8 y_h8 s_h8 d_h8 e_h8 x1h8 x2h8 < n_8 → I_8 y_h8 s_h8 d_h8 e_h8 x1h8 x2h8 → ∀ (H : Heap) (locs : List Loc), va_P D CL (ws g ad y_h8 s_h8) H → va_D A (ws g ad y_h8 s_h8) → va_S A s.heap H locs → ∀ ls, lv_has ls 4 [(0, .ref (ad a0)), (1, .int x1h8), (2, .int x2h8)] → W p l e (ra_Cw_hole mc ms) s m args below meth c H locs d_h8 e_h8 Q (F0 m 8 ls []) := by
      intro n_8
      induction n_8 with
      | zero => intro y_h8 s_h8 d_h8 e_h8 x1h8 x2h8 hμ; exact absurd hμ (Nat.not_lt_zero _)
      | succ n_8 ih_8 =>
        intro y_h8 s_h8 d_h8 e_h8 x1h8 x2h8 hμ_8 hJ H locs hP hD hS ls hl
        obtain ⟨K_8, hK_8, h⟩ : ∃ K : Ly → St → Nat → Nat → Int32 → Int32 → Prop, (∀ z1 z2 z3 z4 (t0 : Int32) (t1 : Int32), K z1 z2 z3 z4 t0 t1 → I_8 z1 z2 z3 z4 t0 t1 ∧ μ_8 z1 z2 z3 z4 t0 t1 < μ_8 y_h8 s_h8 d_h8 e_h8 x1h8 x2h8) ∧ wba_Cw_hole_8 mc ms Post K a0 y_h8 s_h8 d_h8 e_h8 x1h8 x2h8 := ⟨_, fun _ _ _ _ _ _ h => h, hB_8 y_h8 s_h8 d_h8 e_h8 x1h8 x2h8 hJ⟩
        unfold wba_Cw_hole_8 at h
        obtain ⟨hd, h⟩ := h
        refine lv_iload_n G.1 G.2.1 d_Cw_hole_8 rfl (lv_at hl 2 rfl) ?_
        refine lv_aload_n G.1 G.2.1 d_Cw_hole_9 rfl (lv_at hl 0 rfl) ?_
        refine ugf (v := .int (sV s_h8 a0 14)) G hP h_a0 iCw rfl 14 (by decide) rfl q1148 rfl rfl d_Cw_hole_10 ?_
        refine lv_icmp_ge (tgt := 28) G.1 G.2.1 d_Cw_hole_13 (by decide) (fun c13 => ?_) (fun c13 => ?_)
        · skip
          have h := h.1 c13
          refine lv_iconst (v := 0) G.1 G.2.1 d_Cw_hole_28 (by decide) ?_
          refine lv_istore_n (lv' := [(2, .int 0), (0, .ref (ad a0)), (1, .int x1h8)]) G.1 G.2.1 d_Cw_hole_29 rfl hl (by decide) rfl (fun ls hl => ?_)
          refine lv_iconst (v := 1) G.1 G.2.1 d_Cw_hole_30 (by decide) ?_
          refine lv_istore_n (lv' := [(3, .int 1), (2, .int 0), (0, .ref (ad a0)), (1, .int x1h8)]) G.1 G.2.1 d_Cw_hole_31 rfl hl (by decide) rfl (fun ls hl => ?_)
          unfold wla_Cw_hole_32 at h
          obtain ⟨I_32, μ_32, hI_32, hB_32⟩ := h
          have L_32 : ∀ (n_32 : Nat) (y_h32 : Ly) (s_h32 : St) (d_h32 e_h32 : Nat) (x1h32 : Int32) (x2h32 : Int32) (x3h32 : Int32), μ_32 y_h32 s_h32 d_h32 e_h32 x1h32 x2h32 x3h32 < n_32 → I_32 y_h32 s_h32 d_h32 e_h32 x1h32 x2h32 x3h32 → ∀ (H : Heap) (locs : List Loc), va_P D CL (ws g ad y_h32 s_h32) H → va_D A (ws g ad y_h32 s_h32) → va_S A s.heap H locs → ∀ ls, lv_has ls 4 [(0, .ref (ad a0)), (1, .int x1h32), (2, .int x2h32), (3, .int x3h32)] → W p l e (ra_Cw_hole mc ms) s m args below meth c H locs d_h32 e_h32 Q (F0 m 32 ls []) := by
            intro n_32
            induction n_32 with
            | zero => intro y_h32 s_h32 d_h32 e_h32 x1h32 x2h32 x3h32 hμ; exact absurd hμ (Nat.not_lt_zero _)
            | succ n_32 ih_32 =>
              intro y_h32 s_h32 d_h32 e_h32 x1h32 x2h32 x3h32 hμ_32 hJ H locs hP hD hS ls hl
              obtain ⟨K_32, hK_32, h⟩ : ∃ K : Ly → St → Nat → Nat → Int32 → Int32 → Int32 → Prop, (∀ z1 z2 z3 z4 (t0 : Int32) (t1 : Int32) (t2 : Int32), K z1 z2 z3 z4 t0 t1 t2 → I_32 z1 z2 z3 z4 t0 t1 t2 ∧ μ_32 z1 z2 z3 z4 t0 t1 t2 < μ_32 y_h32 s_h32 d_h32 e_h32 x1h32 x2h32 x3h32) ∧ wba_Cw_hole_32 mc ms Post K a0 y_h32 s_h32 d_h32 e_h32 x1h32 x2h32 x3h32 := ⟨_, fun _ _ _ _ _ _ _ h => h, hB_32 y_h32 s_h32 d_h32 e_h32 x1h32 x2h32 x3h32 hJ⟩
              unfold wba_Cw_hole_32 at h
              obtain ⟨hd, h⟩ := h
              refine lv_iload_n G.1 G.2.1 d_Cw_hole_32 rfl (lv_at hl 3 rfl) ?_
              refine lv_bipush (v := 60) G.1 G.2.1 d_Cw_hole_33 (by decide) ?_
              refine lv_icmp_ge (tgt := 69) G.1 G.2.1 d_Cw_hole_35 (by decide) (fun c35 => ?_) (fun c35 => ?_)
              · skip
                have h := h.1 c35
                refine lv_bipush (v := (-2)) G.1 G.2.1 d_Cw_hole_69 (by decide) ?_
                exact hret _ (y_h32, s_h32, d_h32, e_h32) _ _ _ _ _ ls h hP hD hS (Nat.le_refl _) (Nat.le_refl _) hd.1 hd.2 d_Cw_hole_71
              · skip
                have h := h.2 c35
                refine lv_iload_n G.1 G.2.1 d_Cw_hole_38 rfl (lv_at hl 3 rfl) ?_
                refine ucSi (As := [.int x3h32]) (rest := []) G hP hD hS (cu_Cw_isRule l D g ad y_h32 _ s_h32 x3h32 H.size  h) w9_Cw_isRule q2506 ⟨Nat.le_of_ble_eq_true rfl, Nat.le_of_ble_eq_true rfl⟩ rfl rfl hl.1 rfl (Nat.le_of_ble_eq_true rfl) rfl hd d_Cw_hole_39 (fun r_1 s_2 H locs h hP hD hS => ?_)
                have J_63 : ∀ (y_j63 : Ly) (s_j63 : St) (d_j63 e_j63 : Nat) (x1j63 : Int32) (x2j63 : Int32) (x3j63 : Int32) (H : Heap) (locs : List Loc), wja_Cw_hole_63 mc ms Post K_32 a0 y_j63 s_j63 d_j63 e_j63 x1j63 x2j63 x3j63 → va_P D CL (ws g ad y_j63 s_j63) H → va_D A (ws g ad y_j63 s_j63) → va_S A s.heap H locs → ∀ ls, lv_has ls 4 [(0, .ref (ad a0)), (1, .int x1j63), (2, .int x2j63), (3, .int x3j63)] → W p l e (ra_Cw_hole mc ms) s m args below meth c H locs d_j63 e_j63 Q (F0 m 63 ls []) := by
                  intro y_j63 s_j63 d_j63 e_j63 x1j63 x2j63 x3j63 H locs h hP hD hS ls hl
                  unfold wja_Cw_hole_63 at h
                  obtain ⟨hd, h⟩ := h
                  refine lv_iinc (v := x3j63 + 1) (lv' := [(3, .int (x3j63 + 1)), (0, .ref (ad a0)), (1, .int x1j63), (2, .int x2j63)]) G.1 G.2.1 d_Cw_hole_63 hl (k := 3) rfl rfl (by decide) rfl (fun ls hl => ?_)
                  refine lv_goto (tgt := 32) G.1 G.2.1 d_Cw_hole_66 (by decide) ?_
                  have h := hK_32 y_j63 s_j63 d_j63 e_j63 x1j63 x2j63 (x3j63 + 1) h
                  exact ih_32 y_j63 s_j63 d_j63 e_j63 x1j63 x2j63 (x3j63 + 1) (Nat.lt_of_lt_of_le h.2 (Nat.le_of_lt_succ hμ_32)) h.1 H locs hP hD hS ls (lv_sub hl [1, 2, 3, 0] rfl)
                refine lv_if_eq (tgt := 63) G.1 G.2.1 d_Cw_hole_42 (by decide) (fun c42 => ?_) (fun c42 => ?_)
                · skip
                  have h := h.1 c42
                  exact J_63 y_h32 s_2 d_h32 e_h32 x1h32 x2h32 x3h32 H locs h hP hD hS ls (lv_sub hl [0, 1, 2, 3] rfl)
                · skip
                  have h := h.2 c42
                  refine lv_aload_n G.1 G.2.1 d_Cw_hole_45 rfl (lv_at hl 0 rfl) ?_
                  refine lv_iload_n G.1 G.2.1 d_Cw_hole_46 rfl (lv_at hl 3 rfl) ?_
                  refine ucVi (As := [.int x3h32]) (rest := []) G hP hD hS (cu_Cw_isMet l D g ad y_h32 _ s_2 a0 x3h32 H.size h_a0 h) w9_Cw_isMet q2509 ⟨Nat.le_of_ble_eq_true rfl, Nat.le_of_ble_eq_true rfl⟩ rfl rfl h_a0 (q := (RCw, TCw, 20)) rfl rfl hl.1 rfl (Nat.le_of_ble_eq_true rfl) rfl hd d_Cw_hole_47 (fun r_3 s_4 H locs h hP hD hS => ?_)
                  refine lv_if_ne (tgt := 63) G.1 G.2.1 d_Cw_hole_50 (by decide) (fun c50 => ?_) (fun c50 => ?_)
                  · skip
                    have h := h.1 c50
                    exact J_63 y_h32 s_4 d_h32 e_h32 x1h32 x2h32 x3h32 H locs h hP hD hS ls (lv_sub hl [0, 1, 2, 3] rfl)
                  · skip
                    have h := h.2 c50
                    refine lv_iload_n G.1 G.2.1 d_Cw_hole_53 rfl (lv_at hl 2 rfl) ?_
                    refine W.eq (g2 := F0 m 54 ls [.int x2h32]) rfl ?_
                    refine lv_iload_n G.1 G.2.1 d_Cw_hole_54 rfl (lv_at hl 1 rfl) ?_
                    refine lv_icmp_ne (tgt := 60) G.1 G.2.1 d_Cw_hole_55 (by decide) (fun c55 => ?_) (fun c55 => ?_)
                    · skip
                      have h := h.1 c55
                      refine lv_iinc (v := x2h32 + 1) (lv' := [(2, .int (x2h32 + 1)), (0, .ref (ad a0)), (1, .int x1h32), (3, .int x3h32)]) G.1 G.2.1 d_Cw_hole_60 hl (k := 2) rfl rfl (by decide) rfl (fun ls hl => ?_)
                      exact J_63 y_h32 s_4 d_h32 e_h32 x1h32 (x2h32 + 1) x3h32 H locs h hP hD hS ls (lv_sub hl [1, 2, 0, 3] rfl)
                    · skip
                      have h := h.2 c55
                      refine lv_iload_n G.1 G.2.1 d_Cw_hole_58 rfl (lv_at hl 3 rfl) ?_
                      exact hret _ (y_h32, s_4, d_h32, e_h32) _ _ _ _ _ ls h hP hD hS (Nat.le_refl _) (Nat.le_refl _) hd.1 hd.2 d_Cw_hole_59
          exact L_32 _ y_h8 s_h8 d_h8 e_h8 x1h8 0 1 (Nat.lt_succ_self _) hI_32 H locs hP hD hS ls (lv_sub hl [2, 3, 1, 0] rfl)
        · skip
          have h := h.2 c13
          refine lv_aload_n G.1 G.2.1 d_Cw_hole_16 rfl (lv_at hl 0 rfl) ?_
          refine lv_iload_n G.1 G.2.1 d_Cw_hole_17 rfl (lv_at hl 2 rfl) ?_
          refine lv_iconst (v := 0) G.1 G.2.1 d_Cw_hole_18 (by decide) ?_
          obtain ⟨mc_10, ms_11, hr_12, h⟩ := h
          refine utVv (As := [.int x2h8, .int 0]) (rest := []) G hP hD hS (ca_Cw_survey l D g F sl hF ad mc_10 ms_11 y_h8 _ s_h8 a0 x2h8 0 H.size (us H) h_a0 h) w9_Cw_survey q2494 ⟨Nat.le_of_ble_eq_true rfl, Nat.le_of_ble_eq_true rfl⟩ rfl rfl h_a0 (q := (RCw, TCw, 20)) rfl rfl hl.1 rfl (Nat.le_of_ble_eq_true rfl) rfl hr_12 d_Cw_hole_19 (fun y_7 s_6 d_8 e_9 H locs h hP hD hS => ?_)
          obtain ⟨hd, h⟩ := h
          refine lv_iinc (v := x2h8 + 1) (lv' := [(2, .int (x2h8 + 1)), (0, .ref (ad a0)), (1, .int x1h8)]) G.1 G.2.1 d_Cw_hole_22 hl (k := 2) rfl rfl (by decide) rfl (fun ls hl => ?_)
          refine lv_goto (tgt := 8) G.1 G.2.1 d_Cw_hole_25 (by decide) ?_
          have h := hK_8 y_7 s_6 (d_h8 + d_8) (e_h8 + e_9) x1h8 (x2h8 + 1) h
          exact ih_8 y_7 s_6 (d_h8 + d_8) (e_h8 + e_9) x1h8 (x2h8 + 1) (Nat.lt_of_lt_of_le h.2 (Nat.le_of_lt_succ hμ_8)) h.1 H locs hP hD hS ls (lv_sub hl [1, 2, 0] rfl)
    exact L_8 _ y σ 0 0 v1 0 (Nat.lt_succ_self _) hI_8 H locs hP hD hS ls (lv_sub hl [1, 2, 0] rfl)
  · skip
    have h := h.2 c1
    refine lv_iconst (v := (-1)) G.1 G.2.1 d_Cw_hole_4 (by decide) ?_
    exact hret _ (y, σ, 0, 0) _ _ _ _ _ ls h hP hD hS (Nat.le_refl _) (Nat.le_refl _) hd.1 hd.2 d_Cw_hole_5
theorem q2517 : Cond.methodLink "ClassWorks" 487 y_Cw_othersDo ∈ lw_ok := lw_okmem (List.mem_of_getElem? (i := 2517) (by decide +kernel)) rfl
theorem q2520 : Cond.code y_Cw_othersDo b_Cw_othersDo 6 (some (.boolean)) ∈ lw_ok := lw_okmem (List.mem_of_getElem? (i := 2520) (by decide +kernel)) rfl
theorem q2519 : Cond.instanceMethod y_Cw_othersDo ∈ lw_ok := lw_okmem (List.mem_of_getElem? (i := 2519) (by decide +kernel)) rfl
theorem q160 : Cond.selects y_Cw_othersDo.cls y_Cw_othersDo y_Cw_othersDo ∈ lw_ok := lw_okmem (List.mem_of_getElem? (i := 160) (by decide +kernel)) rfl
theorem w9_Cw_othersDo : CWv y_Cw_othersDo b_Cw_othersDo 6 (some (.boolean)) 1 ∧ Cond.instanceMethod y_Cw_othersDo ∈ lw_ok ∧ Cond.selects y_Cw_othersDo.cls y_Cw_othersDo y_Cw_othersDo ∈ lw_ok := ⟨⟨q2520, q329, by decide +kernel, by decide +kernel, by decide +kernel⟩, q2519, q160⟩
theorem q2521 : Cond.methodLink "ClassWorks" 490 y_Cw_remove ∈ lw_ok := lw_okmem (List.mem_of_getElem? (i := 2521) (by decide +kernel)) rfl
theorem q2524 : Cond.code y_Cw_remove b_Cw_remove 3 (none) ∈ lw_ok := lw_okmem (List.mem_of_getElem? (i := 2524) (by decide +kernel)) rfl
theorem q2523 : Cond.instanceMethod y_Cw_remove ∈ lw_ok := lw_okmem (List.mem_of_getElem? (i := 2523) (by decide +kernel)) rfl
theorem q161 : Cond.selects y_Cw_remove.cls y_Cw_remove y_Cw_remove ∈ lw_ok := lw_okmem (List.mem_of_getElem? (i := 161) (by decide +kernel)) rfl
theorem w9_Cw_remove : CWv y_Cw_remove b_Cw_remove 3 (none) 1 ∧ Cond.instanceMethod y_Cw_remove ∈ lw_ok ∧ Cond.selects y_Cw_remove.cls y_Cw_remove y_Cw_remove ∈ lw_ok := ⟨⟨q2524, q329, by decide +kernel, by decide +kernel, by decide +kernel⟩, q2523, q161⟩
def y_Cw_least : MethodName := ⟨"ClassWorks", "least", "()I"⟩
abbrev b_Cw_least : ByteArray := prog_1_method_62_code
theorem d_Cw_least_0 : decode b_Cw_least 0 = .ok (.iconst 0, 1) := by decide +kernel
theorem d_Cw_least_1 : decode b_Cw_least 1 = .ok (.istore_n 1, 1) := by decide +kernel
theorem d_Cw_least_2 : decode b_Cw_least 2 = .ok (.iload_n 1, 1) := by decide +kernel
theorem d_Cw_least_3 : decode b_Cw_least 3 = .ok (.aload_n 0, 1) := by decide +kernel
theorem d_Cw_least_4 : decode b_Cw_least 4 = .ok (.getfield 46, 3) := by decide +kernel
theorem d_Cw_least_7 : decode b_Cw_least 7 = .ok (.if_icmp .ge 15, 3) := by decide +kernel
theorem d_Cw_least_10 : decode b_Cw_least 10 = .ok (.aload_n 0, 1) := by decide +kernel
theorem d_Cw_least_11 : decode b_Cw_least 11 = .ok (.iload_n 1, 1) := by decide +kernel
theorem d_Cw_least_12 : decode b_Cw_least 12 = .ok (.iconst 1, 1) := by decide +kernel
theorem d_Cw_least_13 : decode b_Cw_least 13 = .ok (.invokevirtual 477, 3) := by decide +kernel
theorem d_Cw_least_16 : decode b_Cw_least 16 = .ok (.iinc 1 1, 3) := by decide +kernel
theorem d_Cw_least_19 : decode b_Cw_least 19 = .ok (.goto (-17), 3) := by decide +kernel
theorem d_Cw_least_22 : decode b_Cw_least 22 = .ok (.aload_n 0, 1) := by decide +kernel
theorem d_Cw_least_23 : decode b_Cw_least 23 = .ok (.getfield 46, 3) := by decide +kernel
theorem d_Cw_least_26 : decode b_Cw_least 26 = .ok (.iconst 1, 1) := by decide +kernel
theorem d_Cw_least_27 : decode b_Cw_least 27 = .ok (.isub, 1) := by decide +kernel
theorem d_Cw_least_28 : decode b_Cw_least 28 = .ok (.istore_n 1, 1) := by decide +kernel
theorem d_Cw_least_29 : decode b_Cw_least 29 = .ok (.iload_n 1, 1) := by decide +kernel
theorem d_Cw_least_30 : decode b_Cw_least 30 = .ok (.ifCond .lt 22, 3) := by decide +kernel
theorem d_Cw_least_33 : decode b_Cw_least 33 = .ok (.aload_n 0, 1) := by decide +kernel
theorem d_Cw_least_34 : decode b_Cw_least 34 = .ok (.iload_n 1, 1) := by decide +kernel
theorem d_Cw_least_35 : decode b_Cw_least 35 = .ok (.invokevirtual 487, 3) := by decide +kernel
theorem d_Cw_least_38 : decode b_Cw_least 38 = .ok (.ifCond .eq 8, 3) := by decide +kernel
theorem d_Cw_least_41 : decode b_Cw_least 41 = .ok (.aload_n 0, 1) := by decide +kernel
theorem d_Cw_least_42 : decode b_Cw_least 42 = .ok (.iload_n 1, 1) := by decide +kernel
theorem d_Cw_least_43 : decode b_Cw_least 43 = .ok (.invokevirtual 490, 3) := by decide +kernel
theorem d_Cw_least_46 : decode b_Cw_least 46 = .ok (.iinc 1 (-1), 3) := by decide +kernel
theorem d_Cw_least_49 : decode b_Cw_least 49 = .ok (.goto (-20), 3) := by decide +kernel
theorem d_Cw_least_52 : decode b_Cw_least 52 = .ok (.aload_n 0, 1) := by decide +kernel
theorem d_Cw_least_53 : decode b_Cw_least 53 = .ok (.getfield 46, 3) := by decide +kernel
theorem d_Cw_least_56 : decode b_Cw_least 56 = .ok (.ireturn, 1) := by decide +kernel
abbrev ra_Cw_least (mc ms : Nat) : Room := { frames := 12, cells := mc, slots := ms, locals := 597 }
def wja_Cw_least_46 (mc ms : Nat) (Post : Ly → St → Int32 → Nat → Nat → Prop) (K_29 : Ly → St → Nat → Nat → Int32 → Prop) (a0 : Nat) (y_j46 : Ly) (s_j46 : St) (d_j46 e_j46 : Nat) (x1j46 : Int32) : Prop := (d_j46 ≤ mc ∧ e_j46 ≤ ms) ∧ K_29 y_j46 s_j46 d_j46 e_j46 (x1j46 + (-1))
def wba_Cw_least_29 (mc ms : Nat) (Post : Ly → St → Int32 → Nat → Nat → Prop) (K_29 : Ly → St → Nat → Nat → Int32 → Prop) (a0 : Nat) (y_h29 : Ly) (s_h29 : St) (d_h29 e_h29 : Nat) (x1h29 : Int32) : Prop := (d_h29 ≤ mc ∧ e_h29 ≤ ms) ∧ ((x1h29 < 0 → Post y_h29 s_h29 (sV s_h29 a0 14) d_h29 e_h29) ∧ (¬ (x1h29 < 0) → wu_Cw_othersDo y_h29 (fun (s_2 : St) (r_1 : Int32) => ((r_1 = 0 → wja_Cw_least_46 mc ms Post K_29 a0 y_h29 s_2 d_h29 e_h29 x1h29) ∧ (¬ (r_1 = 0) → wu_Cw_remove y_h29 (fun (s_4 : St) => wja_Cw_least_46 mc ms Post K_29 a0 y_h29 s_4 d_h29 e_h29 x1h29) s_2 a0 x1h29))) s_h29 a0 x1h29))
def wla_Cw_least_29 (mc ms : Nat) (Post : Ly → St → Int32 → Nat → Nat → Prop) (a0 : Nat) (y_h29 : Ly) (s_h29 : St) (d_h29 e_h29 : Nat) (x1h29 : Int32) : Prop := ∃ (I : Ly → St → Nat → Nat → Int32 → Prop) (μ : Ly → St → Nat → Nat → Int32 → Nat), I y_h29 s_h29 d_h29 e_h29 x1h29 ∧ ∀ (u1 : Ly) (u2 : St) (u3 u4 : Nat) (t0 : Int32), I u1 u2 u3 u4 t0 → wba_Cw_least_29 mc ms Post (fun z1 z2 z3 z4 t0q => I z1 z2 z3 z4 t0q ∧ μ z1 z2 z3 z4 t0q < μ u1 u2 u3 u4 t0) a0 u1 u2 u3 u4 t0
def wba_Cw_least_2 (mc ms : Nat) (Post : Ly → St → Int32 → Nat → Nat → Prop) (K_2 : Ly → St → Nat → Nat → Int32 → Prop) (a0 : Nat) (y_h2 : Ly) (s_h2 : St) (d_h2 e_h2 : Nat) (x1h2 : Int32) : Prop := (d_h2 ≤ mc ∧ e_h2 ≤ ms) ∧ (((sV s_h2 a0 14) ≤ x1h2 → wla_Cw_least_29 mc ms Post a0 y_h2 s_h2 d_h2 e_h2 ((sV s_h2 a0 14) - 1)) ∧ (¬ ((sV s_h2 a0 14) ≤ x1h2) → ∃ mc_10 ms_11 : Nat, (d_h2 + mc_10 ≤ mc ∧ e_h2 + ms_11 ≤ ms) ∧ wa_Cw_survey mc_10 ms_11 y_h2 (fun (y_7 : Ly) (s_6 : St) (d_8 e_9 : Nat) => (d_h2 + d_8 ≤ mc ∧ e_h2 + e_9 ≤ ms) ∧ K_2 y_7 s_6 (d_h2 + d_8) (e_h2 + e_9) (x1h2 + 1)) s_h2 a0 x1h2 1))
def wla_Cw_least_2 (mc ms : Nat) (Post : Ly → St → Int32 → Nat → Nat → Prop) (a0 : Nat) (y_h2 : Ly) (s_h2 : St) (d_h2 e_h2 : Nat) (x1h2 : Int32) : Prop := ∃ (I : Ly → St → Nat → Nat → Int32 → Prop) (μ : Ly → St → Nat → Nat → Int32 → Nat), I y_h2 s_h2 d_h2 e_h2 x1h2 ∧ ∀ (u1 : Ly) (u2 : St) (u3 u4 : Nat) (t0 : Int32), I u1 u2 u3 u4 t0 → wba_Cw_least_2 mc ms Post (fun z1 z2 z3 z4 t0q => I z1 z2 z3 z4 t0q ∧ μ z1 z2 z3 z4 t0q < μ u1 u2 u3 u4 t0) a0 u1 u2 u3 u4 t0
def wa_Cw_least (mc ms : Nat) (y : Ly) (Post : Ly → St → Int32 → Nat → Nat → Prop) (σ : St) (a0 : Nat) : Prop := wla_Cw_least_2 mc ms Post a0 y σ 0 0 0
set_option maxHeartbeats 4000000 in
set_option maxRecDepth 100000 in
theorem ca_Cw_least (l : Launch) (D : va_G) (g : Nat → ClassId) (F : Nat → SL) (sl : List SL) (hF : SOK F sl) (ad : Nat → Nat) (mc ms : Nat) (y : Ly) (Post : Ly → St → Int32 → Nat → Nat → Prop) (σ : St) (a0 : Nat) (sz uz : Nat) (h_a0 : cl a0 = 11) (h : wa_Cw_least mc ms y Post σ a0) : Met l y_Cw_least (mw y_Cw_least b_Cw_least 2 (some .int)) (ra_Cw_least mc ms) (PCu g D sl [.ref (ad a0)] sz uz (ws g ad y σ)) (va_Qi (fun (r : Int32) (u : Ly × St × Nat × Nat) => Post u.1 u.2.1 r u.2.2.1 u.2.2.2) (QU D (va_A (ws g ad y σ) sz) (fun u => ws g ad u.1 u.2.1) sz uz (fun u => u.2.2.1) (fun u => u.2.2.2)) (va_A (ws g ad y σ) sz)) mc ms (va_A (ws g ad y σ) sz) := by
  refine ofIu (by decide +kernel) (Nat.le_of_ble_eq_true rfl) ?_
  intro p e s m args below meth c A Q ls H locs G hsz hP hD hS hl hret
  subst hsz
  have hl : lv_has ls 2 [(0, .ref (ad a0))] := hl
  have hd : 0 ≤ mc ∧ 0 ≤ ms := ⟨Nat.zero_le _, Nat.zero_le _⟩
  unfold wa_Cw_least at h
  refine lv_iconst (v := 0) G.1 G.2.1 d_Cw_least_0 (by decide) ?_
  refine lv_istore_n (lv' := [(1, .int 0), (0, .ref (ad a0))]) G.1 G.2.1 d_Cw_least_1 rfl hl (by decide) rfl (fun ls hl => ?_)
  unfold wla_Cw_least_2 at h
  obtain ⟨I_2, μ_2, hI_2, hB_2⟩ := h
  have L_2 : ∀ (n_2 : Nat) (y_h2 : Ly) (s_h2 : St) (d_h2 e_h2 : Nat) (x1h2 : Int32), μ_2 y_h2 s_h2 d_h2 e_h2 x1h2 < n_2 → I_2 y_h2 s_h2 d_h2 e_h2 x1h2 → ∀ (H : Heap) (locs : List Loc), va_P D CL (ws g ad y_h2 s_h2) H → va_D A (ws g ad y_h2 s_h2) → va_S A s.heap H locs → ∀ ls, lv_has ls 2 [(0, .ref (ad a0)), (1, .int x1h2)] → W p l e (ra_Cw_least mc ms) s m args below meth c H locs d_h2 e_h2 Q (F0 m 2 ls []) := by
    intro n_2
    induction n_2 with
    | zero => intro y_h2 s_h2 d_h2 e_h2 x1h2 hμ; exact absurd hμ (Nat.not_lt_zero _)
    | succ n_2 ih_2 =>
      intro y_h2 s_h2 d_h2 e_h2 x1h2 hμ_2 hJ H locs hP hD hS ls hl
      obtain ⟨K_2, hK_2, h⟩ : ∃ K : Ly → St → Nat → Nat → Int32 → Prop, (∀ z1 z2 z3 z4 (t0 : Int32), K z1 z2 z3 z4 t0 → I_2 z1 z2 z3 z4 t0 ∧ μ_2 z1 z2 z3 z4 t0 < μ_2 y_h2 s_h2 d_h2 e_h2 x1h2) ∧ wba_Cw_least_2 mc ms Post K a0 y_h2 s_h2 d_h2 e_h2 x1h2 := ⟨_, fun _ _ _ _ _ h => h, hB_2 y_h2 s_h2 d_h2 e_h2 x1h2 hJ⟩
      unfold wba_Cw_least_2 at h
      obtain ⟨hd, h⟩ := h
      refine lv_iload_n G.1 G.2.1 d_Cw_least_2 rfl (lv_at hl 1 rfl) ?_
      refine lv_aload_n G.1 G.2.1 d_Cw_least_3 rfl (lv_at hl 0 rfl) ?_
      refine ugf (v := .int (sV s_h2 a0 14)) G hP h_a0 iCw rfl 14 (by decide) rfl q1148 rfl rfl d_Cw_least_4 ?_
      refine lv_icmp_ge (tgt := 22) G.1 G.2.1 d_Cw_least_7 (by decide) (fun c7 => ?_) (fun c7 => ?_)
      · skip
        have h := h.1 c7
        refine lv_aload_n G.1 G.2.1 d_Cw_least_22 rfl (lv_at hl 0 rfl) ?_
        refine ugf (v := .int (sV s_h2 a0 14)) G hP h_a0 iCw rfl 14 (by decide) rfl q1148 rfl rfl d_Cw_least_23 ?_
        refine lv_iconst (v := 1) G.1 G.2.1 d_Cw_least_26 (by decide) ?_
        refine lv_isub G.1 G.2.1 d_Cw_least_27 ?_
        refine lv_istore_n (lv' := [(1, .int ((sV s_h2 a0 14) - 1)), (0, .ref (ad a0))]) G.1 G.2.1 d_Cw_least_28 rfl hl (by decide) rfl (fun ls hl => ?_)
        unfold wla_Cw_least_29 at h
        obtain ⟨I_29, μ_29, hI_29, hB_29⟩ := h
        have L_29 : ∀ (n_29 : Nat) (y_h29 : Ly) (s_h29 : St) (d_h29 e_h29 : Nat) (x1h29 : Int32), μ_29 y_h29 s_h29 d_h29 e_h29 x1h29 < n_29 → I_29 y_h29 s_h29 d_h29 e_h29 x1h29 → ∀ (H : Heap) (locs : List Loc), va_P D CL (ws g ad y_h29 s_h29) H → va_D A (ws g ad y_h29 s_h29) → va_S A s.heap H locs → ∀ ls, lv_has ls 2 [(0, .ref (ad a0)), (1, .int x1h29)] → W p l e (ra_Cw_least mc ms) s m args below meth c H locs d_h29 e_h29 Q (F0 m 29 ls []) := by
          intro n_29
          induction n_29 with
          | zero => intro y_h29 s_h29 d_h29 e_h29 x1h29 hμ; exact absurd hμ (Nat.not_lt_zero _)
          | succ n_29 ih_29 =>
            intro y_h29 s_h29 d_h29 e_h29 x1h29 hμ_29 hJ H locs hP hD hS ls hl
            obtain ⟨K_29, hK_29, h⟩ : ∃ K : Ly → St → Nat → Nat → Int32 → Prop, (∀ z1 z2 z3 z4 (t0 : Int32), K z1 z2 z3 z4 t0 → I_29 z1 z2 z3 z4 t0 ∧ μ_29 z1 z2 z3 z4 t0 < μ_29 y_h29 s_h29 d_h29 e_h29 x1h29) ∧ wba_Cw_least_29 mc ms Post K a0 y_h29 s_h29 d_h29 e_h29 x1h29 := ⟨_, fun _ _ _ _ _ h => h, hB_29 y_h29 s_h29 d_h29 e_h29 x1h29 hJ⟩
            unfold wba_Cw_least_29 at h
            obtain ⟨hd, h⟩ := h
            refine lv_iload_n G.1 G.2.1 d_Cw_least_29 rfl (lv_at hl 1 rfl) ?_
            refine lv_if_lt (tgt := 52) G.1 G.2.1 d_Cw_least_30 (by decide) (fun c30 => ?_) (fun c30 => ?_)
            · skip
              have h := h.1 c30
              refine lv_aload_n G.1 G.2.1 d_Cw_least_52 rfl (lv_at hl 0 rfl) ?_
              refine ugf (v := .int (sV s_h29 a0 14)) G hP h_a0 iCw rfl 14 (by decide) rfl q1148 rfl rfl d_Cw_least_53 ?_
              exact hret _ (y_h29, s_h29, d_h29, e_h29) _ _ _ _ _ ls h hP hD hS (Nat.le_refl _) (Nat.le_refl _) hd.1 hd.2 d_Cw_least_56
            · skip
              have h := h.2 c30
              refine lv_aload_n G.1 G.2.1 d_Cw_least_33 rfl (lv_at hl 0 rfl) ?_
              refine lv_iload_n G.1 G.2.1 d_Cw_least_34 rfl (lv_at hl 1 rfl) ?_
              refine ucVi (As := [.int x1h29]) (rest := []) G hP hD hS (cu_Cw_othersDo l D g ad y_h29 _ s_h29 a0 x1h29 H.size h_a0 h) w9_Cw_othersDo q2517 ⟨Nat.le_of_ble_eq_true rfl, Nat.le_of_ble_eq_true rfl⟩ rfl rfl h_a0 (q := (RCw, TCw, 20)) rfl rfl hl.1 rfl (Nat.le_of_ble_eq_true rfl) rfl hd d_Cw_least_35 (fun r_1 s_2 H locs h hP hD hS => ?_)
              have J_46 : ∀ (y_j46 : Ly) (s_j46 : St) (d_j46 e_j46 : Nat) (x1j46 : Int32) (H : Heap) (locs : List Loc), wja_Cw_least_46 mc ms Post K_29 a0 y_j46 s_j46 d_j46 e_j46 x1j46 → va_P D CL (ws g ad y_j46 s_j46) H → va_D A (ws g ad y_j46 s_j46) → va_S A s.heap H locs → ∀ ls, lv_has ls 2 [(0, .ref (ad a0)), (1, .int x1j46)] → W p l e (ra_Cw_least mc ms) s m args below meth c H locs d_j46 e_j46 Q (F0 m 46 ls []) := by
                intro y_j46 s_j46 d_j46 e_j46 x1j46 H locs h hP hD hS ls hl
                unfold wja_Cw_least_46 at h
                obtain ⟨hd, h⟩ := h
                refine lv_iinc (v := x1j46 + (-1)) (lv' := [(1, .int (x1j46 + (-1))), (0, .ref (ad a0))]) G.1 G.2.1 d_Cw_least_46 hl (k := 1) rfl rfl (by decide) rfl (fun ls hl => ?_)
                refine lv_goto (tgt := 29) G.1 G.2.1 d_Cw_least_49 (by decide) ?_
                have h := hK_29 y_j46 s_j46 d_j46 e_j46 (x1j46 + (-1)) h
                exact ih_29 y_j46 s_j46 d_j46 e_j46 (x1j46 + (-1)) (Nat.lt_of_lt_of_le h.2 (Nat.le_of_lt_succ hμ_29)) h.1 H locs hP hD hS ls (lv_sub hl [1, 0] rfl)
              refine lv_if_eq (tgt := 46) G.1 G.2.1 d_Cw_least_38 (by decide) (fun c38 => ?_) (fun c38 => ?_)
              · skip
                have h := h.1 c38
                exact J_46 y_h29 s_2 d_h29 e_h29 x1h29 H locs h hP hD hS ls (lv_sub hl [0, 1] rfl)
              · skip
                have h := h.2 c38
                refine lv_aload_n G.1 G.2.1 d_Cw_least_41 rfl (lv_at hl 0 rfl) ?_
                refine lv_iload_n G.1 G.2.1 d_Cw_least_42 rfl (lv_at hl 1 rfl) ?_
                refine ucVv (As := [.int x1h29]) (rest := []) G hP hD hS (cu_Cw_remove l D g ad y_h29 _ s_2 a0 x1h29 H.size h_a0 h) w9_Cw_remove q2521 ⟨Nat.le_of_ble_eq_true rfl, Nat.le_of_ble_eq_true rfl⟩ rfl rfl h_a0 (q := (RCw, TCw, 20)) rfl rfl hl.1 rfl (Nat.le_of_ble_eq_true rfl) rfl hd d_Cw_least_43 (fun s_4 H locs h hP hD hS => ?_)
                exact J_46 y_h29 s_4 d_h29 e_h29 x1h29 H locs h hP hD hS ls (lv_sub hl [0, 1] rfl)
        exact L_29 _ y_h2 s_h2 d_h2 e_h2 ((sV s_h2 a0 14) - 1) (Nat.lt_succ_self _) hI_29 H locs hP hD hS ls (lv_sub hl [1, 0] rfl)
      · skip
        have h := h.2 c7
        refine lv_aload_n G.1 G.2.1 d_Cw_least_10 rfl (lv_at hl 0 rfl) ?_
        refine lv_iload_n G.1 G.2.1 d_Cw_least_11 rfl (lv_at hl 1 rfl) ?_
        refine lv_iconst (v := 1) G.1 G.2.1 d_Cw_least_12 (by decide) ?_
        obtain ⟨mc_10, ms_11, hr_12, h⟩ := h
        refine utVv (As := [.int x1h2, .int 1]) (rest := []) G hP hD hS (ca_Cw_survey l D g F sl hF ad mc_10 ms_11 y_h2 _ s_h2 a0 x1h2 1 H.size (us H) h_a0 h) w9_Cw_survey q2494 ⟨Nat.le_of_ble_eq_true rfl, Nat.le_of_ble_eq_true rfl⟩ rfl rfl h_a0 (q := (RCw, TCw, 20)) rfl rfl hl.1 rfl (Nat.le_of_ble_eq_true rfl) rfl hr_12 d_Cw_least_13 (fun y_7 s_6 d_8 e_9 H locs h hP hD hS => ?_)
        obtain ⟨hd, h⟩ := h
        refine lv_iinc (v := x1h2 + 1) (lv' := [(1, .int (x1h2 + 1)), (0, .ref (ad a0))]) G.1 G.2.1 d_Cw_least_16 hl (k := 1) rfl rfl (by decide) rfl (fun ls hl => ?_)
        refine lv_goto (tgt := 2) G.1 G.2.1 d_Cw_least_19 (by decide) ?_
        have h := hK_2 y_7 s_6 (d_h2 + d_8) (e_h2 + e_9) (x1h2 + 1) h
        exact ih_2 y_7 s_6 (d_h2 + d_8) (e_h2 + e_9) (x1h2 + 1) (Nat.lt_of_lt_of_le h.2 (Nat.le_of_lt_succ hμ_2)) h.1 H locs hP hD hS ls (lv_sub hl [1, 0] rfl)
  exact L_2 _ y σ 0 0 0 (Nat.lt_succ_self _) hI_2 H locs hP hD hS ls (lv_sub hl [1, 0] rfl)
theorem q1153 : Cond.fieldLink "ClassWorks" 61 "ClassWorks" "fewestNext" "[I" ∈ lw_ok := lw_okmem (List.mem_of_getElem? (i := 1153) (by decide +kernel)) rfl
theorem q2529 : Cond.methodLink "ClassWorks" 493 y_Ja_fill_aIIV ∈ lw_ok := lw_okmem (List.mem_of_getElem? (i := 2529) (by decide +kernel)) rfl
theorem q2534 : Cond.methodLink "ClassWorks" 502 y_Cw_takeMore ∈ lw_ok := lw_okmem (List.mem_of_getElem? (i := 2534) (by decide +kernel)) rfl
theorem q2537 : Cond.code y_Cw_takeMore b_Cw_takeMore 5 (none) ∈ lw_ok := lw_okmem (List.mem_of_getElem? (i := 2537) (by decide +kernel)) rfl
theorem q2536 : Cond.instanceMethod y_Cw_takeMore ∈ lw_ok := lw_okmem (List.mem_of_getElem? (i := 2536) (by decide +kernel)) rfl
theorem q163 : Cond.selects y_Cw_takeMore.cls y_Cw_takeMore y_Cw_takeMore ∈ lw_ok := lw_okmem (List.mem_of_getElem? (i := 163) (by decide +kernel)) rfl
theorem w9_Cw_takeMore : CWv y_Cw_takeMore b_Cw_takeMore 5 (none) 2 ∧ Cond.instanceMethod y_Cw_takeMore ∈ lw_ok ∧ Cond.selects y_Cw_takeMore.cls y_Cw_takeMore y_Cw_takeMore ∈ lw_ok := ⟨⟨q2537, q329, by decide +kernel, by decide +kernel, by decide +kernel⟩, q2536, q163⟩
def y_Cw_takeOneOf : MethodName := ⟨"ClassWorks", "takeOneOf", "(I)V"⟩
abbrev b_Cw_takeOneOf : ByteArray := prog_1_method_66_code
theorem d_Cw_takeOneOf_0 : decode b_Cw_takeOneOf 0 = .ok (.aload_n 0, 1) := by decide +kernel
theorem d_Cw_takeOneOf_1 : decode b_Cw_takeOneOf 1 = .ok (.getfield 61, 3) := by decide +kernel
theorem d_Cw_takeOneOf_4 : decode b_Cw_takeOneOf 4 = .ok (.bipush 41, 2) := by decide +kernel
theorem d_Cw_takeOneOf_6 : decode b_Cw_takeOneOf 6 = .ok (.invokestatic 493, 3) := by decide +kernel
theorem d_Cw_takeOneOf_9 : decode b_Cw_takeOneOf 9 = .ok (.iconst 0, 1) := by decide +kernel
theorem d_Cw_takeOneOf_10 : decode b_Cw_takeOneOf 10 = .ok (.istore_n 2, 1) := by decide +kernel
theorem d_Cw_takeOneOf_11 : decode b_Cw_takeOneOf 11 = .ok (.iload_n 2, 1) := by decide +kernel
theorem d_Cw_takeOneOf_12 : decode b_Cw_takeOneOf 12 = .ok (.aload_n 0, 1) := by decide +kernel
theorem d_Cw_takeOneOf_13 : decode b_Cw_takeOneOf 13 = .ok (.getfield 46, 3) := by decide +kernel
theorem d_Cw_takeOneOf_16 : decode b_Cw_takeOneOf 16 = .ok (.if_icmp .ge 33, 3) := by decide +kernel
theorem d_Cw_takeOneOf_19 : decode b_Cw_takeOneOf 19 = .ok (.aload_n 0, 1) := by decide +kernel
theorem d_Cw_takeOneOf_20 : decode b_Cw_takeOneOf 20 = .ok (.getfield 40, 3) := by decide +kernel
theorem d_Cw_takeOneOf_23 : decode b_Cw_takeOneOf 23 = .ok (.iload_n 2, 1) := by decide +kernel
theorem d_Cw_takeOneOf_24 : decode b_Cw_takeOneOf 24 = .ok (.iaload, 1) := by decide +kernel
theorem d_Cw_takeOneOf_25 : decode b_Cw_takeOneOf 25 = .ok (.iload_n 1, 1) := by decide +kernel
theorem d_Cw_takeOneOf_26 : decode b_Cw_takeOneOf 26 = .ok (.if_icmp .ne 17, 3) := by decide +kernel
theorem d_Cw_takeOneOf_29 : decode b_Cw_takeOneOf 29 = .ok (.aload_n 0, 1) := by decide +kernel
theorem d_Cw_takeOneOf_30 : decode b_Cw_takeOneOf 30 = .ok (.aload_n 0, 1) := by decide +kernel
theorem d_Cw_takeOneOf_31 : decode b_Cw_takeOneOf 31 = .ok (.getfield 43, 3) := by decide +kernel
theorem d_Cw_takeOneOf_34 : decode b_Cw_takeOneOf 34 = .ok (.iload_n 2, 1) := by decide +kernel
theorem d_Cw_takeOneOf_35 : decode b_Cw_takeOneOf 35 = .ok (.iaload, 1) := by decide +kernel
theorem d_Cw_takeOneOf_36 : decode b_Cw_takeOneOf 36 = .ok (.aload_n 0, 1) := by decide +kernel
theorem d_Cw_takeOneOf_37 : decode b_Cw_takeOneOf 37 = .ok (.getfield 61, 3) := by decide +kernel
theorem d_Cw_takeOneOf_40 : decode b_Cw_takeOneOf 40 = .ok (.invokevirtual 502, 3) := by decide +kernel
theorem d_Cw_takeOneOf_43 : decode b_Cw_takeOneOf 43 = .ok (.iinc 2 1, 3) := by decide +kernel
theorem d_Cw_takeOneOf_46 : decode b_Cw_takeOneOf 46 = .ok (.goto (-35), 3) := by decide +kernel
theorem d_Cw_takeOneOf_49 : decode b_Cw_takeOneOf 49 = .ok (.aload_n 0, 1) := by decide +kernel
theorem d_Cw_takeOneOf_50 : decode b_Cw_takeOneOf 50 = .ok (.getfield 58, 3) := by decide +kernel
theorem d_Cw_takeOneOf_53 : decode b_Cw_takeOneOf 53 = .ok (.astore_n 2, 1) := by decide +kernel
theorem d_Cw_takeOneOf_54 : decode b_Cw_takeOneOf 54 = .ok (.aload_n 0, 1) := by decide +kernel
theorem d_Cw_takeOneOf_55 : decode b_Cw_takeOneOf 55 = .ok (.aload_n 0, 1) := by decide +kernel
theorem d_Cw_takeOneOf_56 : decode b_Cw_takeOneOf 56 = .ok (.getfield 61, 3) := by decide +kernel
theorem d_Cw_takeOneOf_59 : decode b_Cw_takeOneOf 59 = .ok (.putfield 58, 3) := by decide +kernel
theorem d_Cw_takeOneOf_62 : decode b_Cw_takeOneOf 62 = .ok (.aload_n 0, 1) := by decide +kernel
theorem d_Cw_takeOneOf_63 : decode b_Cw_takeOneOf 63 = .ok (.aload_n 2, 1) := by decide +kernel
theorem d_Cw_takeOneOf_64 : decode b_Cw_takeOneOf 64 = .ok (.putfield 61, 3) := by decide +kernel
theorem d_Cw_takeOneOf_67 : decode b_Cw_takeOneOf 67 = .ok (.return_, 1) := by decide +kernel
abbrev ra_Cw_takeOneOf (mc ms : Nat) : Room := { frames := 2, cells := mc, slots := ms, locals := 54 }
def wja_Cw_takeOneOf_43 (mc ms : Nat) (Post : Ly → St → Nat → Nat → Prop) (K_11 : Ly → St → Nat → Nat → Int32 → Int32 → Prop) (a0 : Nat) (y_j43 : Ly) (s_j43 : St) (d_j43 e_j43 : Nat) (x1j43 : Int32) (x2j43 : Int32) : Prop := (d_j43 ≤ mc ∧ e_j43 ≤ ms) ∧ K_11 y_j43 s_j43 d_j43 e_j43 x1j43 (x2j43 + 1)
def wba_Cw_takeOneOf_11 (mc ms : Nat) (Post : Ly → St → Nat → Nat → Prop) (K_11 : Ly → St → Nat → Nat → Int32 → Int32 → Prop) (a0 : Nat) (y_h11 : Ly) (s_h11 : St) (d_h11 e_h11 : Nat) (x1h11 : Int32) (x2h11 : Int32) : Prop := (d_h11 ≤ mc ∧ e_h11 ≤ ms) ∧ (((sV s_h11 a0 14) ≤ x2h11 → (∀ b j, kd (cl b) j = 7 → sX s_h11 b j ≠ (a0, 18) ∧ sX s_h11 b j ≠ (a0, 19)) ∧ xW (swL y_h11 a0 18 19) (swS s_h11 a0 18 19) (fun (y_5 : Ly) (s_6 : St) => Post y_5 s_6 d_h11 e_h11)) ∧ (¬ ((sV s_h11 a0 14) ≤ x2h11) → xA y_h11 s_h11 a0 12 x2h11 (fun x_7 : Int32 => ((¬ x_7 = x1h11 → wja_Cw_takeOneOf_43 mc ms Post K_11 a0 y_h11 s_h11 d_h11 e_h11 x1h11 x2h11) ∧ (x_7 = x1h11 → xA y_h11 s_h11 a0 13 x2h11 (fun x_8 : Int32 => wu_Cw_takeMore y_h11 (fun (s_10 : St) => wja_Cw_takeOneOf_43 mc ms Post K_11 a0 y_h11 s_10 d_h11 e_h11 x1h11 x2h11) s_h11 a0 x_8 a0 19))))))
def wla_Cw_takeOneOf_11 (mc ms : Nat) (Post : Ly → St → Nat → Nat → Prop) (a0 : Nat) (y_h11 : Ly) (s_h11 : St) (d_h11 e_h11 : Nat) (x1h11 : Int32) (x2h11 : Int32) : Prop := ∃ (I : Ly → St → Nat → Nat → Int32 → Int32 → Prop) (μ : Ly → St → Nat → Nat → Int32 → Int32 → Nat), I y_h11 s_h11 d_h11 e_h11 x1h11 x2h11 ∧ ∀ (u1 : Ly) (u2 : St) (u3 u4 : Nat) (t0 : Int32) (t1 : Int32), I u1 u2 u3 u4 t0 t1 → wba_Cw_takeOneOf_11 mc ms Post (fun z1 z2 z3 z4 t0q t1q => I z1 z2 z3 z4 t0q t1q ∧ μ z1 z2 z3 z4 t0q t1q < μ u1 u2 u3 u4 t0 t1) a0 u1 u2 u3 u4 t0 t1
def wa_Cw_takeOneOf (mc ms : Nat) (y : Ly) (Post : Ly → St → Nat → Nat → Prop) (σ : St) (a0 : Nat) (v1 : Int32) : Prop := wu_Ja_fill_aIIV y (fun (s_2 : St) => wla_Cw_takeOneOf_11 mc ms Post a0 y s_2 0 0 v1 0) σ a0 19 41
set_option maxHeartbeats 4000000 in
set_option maxRecDepth 100000 in
theorem ca_Cw_takeOneOf (l : Launch) (D : va_G) (g : Nat → ClassId) (ad : Nat → Nat) (mc ms : Nat) (y : Ly) (Post : Ly → St → Nat → Nat → Prop) (σ : St) (a0 : Nat) (v1 : Int32) (sz uz : Nat) (h_a0 : cl a0 = 11) (h : wa_Cw_takeOneOf mc ms y Post σ a0 v1) : Met l y_Cw_takeOneOf (mw y_Cw_takeOneOf b_Cw_takeOneOf 3 (none)) (ra_Cw_takeOneOf mc ms) (PCu g D [] [.ref (ad a0), .int v1] sz uz (ws g ad y σ)) (va_Qv (fun (u : Ly × St × Nat × Nat) => Post u.1 u.2.1 u.2.2.1 u.2.2.2) (QU D (va_A (ws g ad y σ) sz) (fun u => ws g ad u.1 u.2.1) sz uz (fun u => u.2.2.1) (fun u => u.2.2.2)) (va_A (ws g ad y σ) sz)) mc ms (va_A (ws g ad y σ) sz) := by
  refine ofVu (by decide +kernel) (Nat.le_of_ble_eq_true rfl) ?_
  intro p e s m args below meth c A Q ls H locs G hsz hP hD hS hl hret
  subst hsz
  have hl : lv_has ls 3 [(0, .ref (ad a0)), (1, .int v1)] := hl
  have hd : 0 ≤ mc ∧ 0 ≤ ms := ⟨Nat.zero_le _, Nat.zero_le _⟩
  unfold wa_Cw_takeOneOf at h
  refine lv_aload_n G.1 G.2.1 d_Cw_takeOneOf_0 rfl (lv_at hl 0 rfl) ?_
  refine ugf (v := .ref (yP y a0 19)) G hP h_a0 iCw rfl 19 (by decide) rfl q1153 rfl rfl d_Cw_takeOneOf_1 ?_
  refine lv_bipush (v := 41) G.1 G.2.1 d_Cw_takeOneOf_4 (by decide) ?_
  refine ucSv (As := [.ref (yP y a0 19), .int 41]) (rest := []) G hP hD hS (cu_Ja_fill_aIIV l D g ad y _ σ a0 19 41 H.size ⟨(kdp h_a0 rfl), (typ h_a0 rfl)⟩ h) w9_Ja_fill_aIIV q2529 ⟨Nat.le_of_ble_eq_true rfl, Nat.le_of_ble_eq_true rfl⟩ rfl rfl hl.1 rfl (Nat.le_of_ble_eq_true rfl) rfl hd d_Cw_takeOneOf_6 (fun s_2 H locs h hP hD hS => ?_)
  refine lv_iconst (v := 0) G.1 G.2.1 d_Cw_takeOneOf_9 (by decide) ?_
  refine lv_istore_n (lv' := [(2, .int 0), (0, .ref (ad a0)), (1, .int v1)]) G.1 G.2.1 d_Cw_takeOneOf_10 rfl hl (by decide) rfl (fun ls hl => ?_)
  unfold wla_Cw_takeOneOf_11 at h
  obtain ⟨I_11, μ_11, hI_11, hB_11⟩ := h
  have L_11 : ∀ (n_11 : Nat) (y_h11 : Ly) (s_h11 : St) (d_h11 e_h11 : Nat) (x1h11 : Int32) (x2h11 : Int32), μ_11 y_h11 s_h11 d_h11 e_h11 x1h11 x2h11 < n_11 → I_11 y_h11 s_h11 d_h11 e_h11 x1h11 x2h11 → ∀ (H : Heap) (locs : List Loc), va_P D CL (ws g ad y_h11 s_h11) H → va_D A (ws g ad y_h11 s_h11) → va_S A s.heap H locs → ∀ ls, lv_has ls 3 [(0, .ref (ad a0)), (1, .int x1h11), (2, .int x2h11)] → W p l e (ra_Cw_takeOneOf mc ms) s m args below meth c H locs d_h11 e_h11 Q (F0 m 11 ls []) := by
    intro n_11
    induction n_11 with
    | zero => intro y_h11 s_h11 d_h11 e_h11 x1h11 x2h11 hμ; exact absurd hμ (Nat.not_lt_zero _)
    | succ n_11 ih_11 =>
      intro y_h11 s_h11 d_h11 e_h11 x1h11 x2h11 hμ_11 hJ H locs hP hD hS ls hl
      obtain ⟨K_11, hK_11, h⟩ : ∃ K : Ly → St → Nat → Nat → Int32 → Int32 → Prop, (∀ z1 z2 z3 z4 (t0 : Int32) (t1 : Int32), K z1 z2 z3 z4 t0 t1 → I_11 z1 z2 z3 z4 t0 t1 ∧ μ_11 z1 z2 z3 z4 t0 t1 < μ_11 y_h11 s_h11 d_h11 e_h11 x1h11 x2h11) ∧ wba_Cw_takeOneOf_11 mc ms Post K a0 y_h11 s_h11 d_h11 e_h11 x1h11 x2h11 := ⟨_, fun _ _ _ _ _ _ h => h, hB_11 y_h11 s_h11 d_h11 e_h11 x1h11 x2h11 hJ⟩
      unfold wba_Cw_takeOneOf_11 at h
      obtain ⟨hd, h⟩ := h
      refine lv_iload_n G.1 G.2.1 d_Cw_takeOneOf_11 rfl (lv_at hl 2 rfl) ?_
      refine lv_aload_n G.1 G.2.1 d_Cw_takeOneOf_12 rfl (lv_at hl 0 rfl) ?_
      refine ugf (v := .int (sV s_h11 a0 14)) G hP h_a0 iCw rfl 14 (by decide) rfl q1148 rfl rfl d_Cw_takeOneOf_13 ?_
      refine lv_icmp_ge (tgt := 49) G.1 G.2.1 d_Cw_takeOneOf_16 (by decide) (fun c16 => ?_) (fun c16 => ?_)
      · skip
        have h := h.1 c16
        refine lv_aload_n G.1 G.2.1 d_Cw_takeOneOf_49 rfl (lv_at hl 0 rfl) ?_
        refine ugf (v := .ref (yP y_h11 a0 18)) G hP h_a0 iCw rfl 18 (by decide) rfl q1152 rfl rfl d_Cw_takeOneOf_50 ?_
        refine lv_astore_n (lv' := [(2, .ref (yP y_h11 a0 18)), (0, .ref (ad a0)), (1, .int x1h11)]) G.1 G.2.1 d_Cw_takeOneOf_53 rfl hl (by decide) rfl (fun ls hl => ?_)
        refine lv_aload_n G.1 G.2.1 d_Cw_takeOneOf_54 rfl (lv_at hl 1 rfl) ?_
        refine lv_aload_n G.1 G.2.1 d_Cw_takeOneOf_55 rfl (lv_at hl 1 rfl) ?_
        refine ugf (v := .ref (yP y_h11 a0 19)) G hP h_a0 iCw rfl 19 (by decide) rfl q1153 rfl rfl d_Cw_takeOneOf_56 ?_
        obtain ⟨n_3, h⟩ := h
        refine uswA (k1 := 18) (k2 := 19) G hP hD hS h_a0 iCw tCw tCw_ok nCw rfl (by decide) rfl q1152 rfl rfl rfl rfl d_Cw_takeOneOf_59 (fun q_4 H locs hq_q_4 hP hD hS => ?_)
        refine lv_aload_n G.1 G.2.1 d_Cw_takeOneOf_62 rfl (lv_at hl 1 rfl) ?_
        refine lv_aload_n G.1 G.2.1 d_Cw_takeOneOf_63 rfl (lv_at hl 0 rfl) ?_
        have he_q_4 : ((ws g ad y_h11 s_h11).set q_4 (ad a0, .inr (11, (fls ad y_h11 s_h11 a0).set 18 (.ref (yP y_h11 a0 19)))))[q_4]? = some (ad a0, .inr (11, (fls ad y_h11 s_h11 a0).set 18 (.ref (yP y_h11 a0 19)))) := by
          rw [List.getElem?_set_self]; show q_4 < (cL.map _).length; rw [List.length_map]; exact (List.getElem?_eq_some_iff.mp hq_q_4).1
        refine kp (v := .ref (yP y_h11 a0 18)) G iCw tCw tCw_ok nCw hP hD hS q_4 he_q_4 rfl 19 (by decide) q1153 rfl rfl rfl rfl ?_ d_Cw_takeOneOf_64 (fun H locs hP hD hS => ?_)
        · show 19 < ((List.map _ (List.range (nf (cl a0)))).set _ _).length
          rw [List.length_set, List.length_map, List.length_range, h_a0]; decide
        obtain ⟨hP, hD⟩ := sw_ws (t := 0) (by decide) (by decide) h_a0 hq_q_4 (by decide) rfl rfl rfl rfl n_3 hP hD
        obtain ⟨y_5, e_y_5⟩ : ∃ z, z = swL y_h11 a0 18 19 := ⟨_, rfl⟩
        obtain ⟨s_6, e_s_6⟩ : ∃ z, z = swS s_h11 a0 18 19 := ⟨_, rfl⟩
        have h : xW (swL y_h11 a0 18 19) (swS s_h11 a0 18 19) _ := h
        unfold xW at h
        rw [← e_y_5, ← e_s_6] at hP hD h
        have hl := lv_sub (l' := []) hl [] rfl
        refine W.eq (g2 := F0 m 67 ls []) rfl ?_
        exact hret (y_5, s_6, d_h11, e_h11) _ _ _ _ _ ls h hP hD hS (Nat.le_refl _) (Nat.le_refl _) hd.1 hd.2 d_Cw_takeOneOf_67
      · skip
        have h := h.2 c16
        refine lv_aload_n G.1 G.2.1 d_Cw_takeOneOf_19 rfl (lv_at hl 0 rfl) ?_
        refine ugf (v := .ref (yP y_h11 a0 12)) G hP h_a0 iCw rfl 12 (by decide) rfl q1146 rfl rfl d_Cw_takeOneOf_20 ?_
        refine lv_iload_n G.1 G.2.1 d_Cw_takeOneOf_23 rfl (lv_at hl 2 rfl) ?_
        refine uiald G hP (kdp h_a0 rfl) (typ h_a0 rfl) h d_Cw_takeOneOf_24 (fun x_7 h => ?_)
        refine lv_iload_n G.1 G.2.1 d_Cw_takeOneOf_25 rfl (lv_at hl 1 rfl) ?_
        have J_43 : ∀ (y_j43 : Ly) (s_j43 : St) (d_j43 e_j43 : Nat) (x1j43 : Int32) (x2j43 : Int32) (H : Heap) (locs : List Loc), wja_Cw_takeOneOf_43 mc ms Post K_11 a0 y_j43 s_j43 d_j43 e_j43 x1j43 x2j43 → va_P D CL (ws g ad y_j43 s_j43) H → va_D A (ws g ad y_j43 s_j43) → va_S A s.heap H locs → ∀ ls, lv_has ls 3 [(0, .ref (ad a0)), (1, .int x1j43), (2, .int x2j43)] → W p l e (ra_Cw_takeOneOf mc ms) s m args below meth c H locs d_j43 e_j43 Q (F0 m 43 ls []) := by
          intro y_j43 s_j43 d_j43 e_j43 x1j43 x2j43 H locs h hP hD hS ls hl
          unfold wja_Cw_takeOneOf_43 at h
          obtain ⟨hd, h⟩ := h
          refine lv_iinc (v := x2j43 + 1) (lv' := [(2, .int (x2j43 + 1)), (0, .ref (ad a0)), (1, .int x1j43)]) G.1 G.2.1 d_Cw_takeOneOf_43 hl (k := 2) rfl rfl (by decide) rfl (fun ls hl => ?_)
          refine lv_goto (tgt := 11) G.1 G.2.1 d_Cw_takeOneOf_46 (by decide) ?_
          have h := hK_11 y_j43 s_j43 d_j43 e_j43 x1j43 (x2j43 + 1) h
          exact ih_11 y_j43 s_j43 d_j43 e_j43 x1j43 (x2j43 + 1) (Nat.lt_of_lt_of_le h.2 (Nat.le_of_lt_succ hμ_11)) h.1 H locs hP hD hS ls (lv_sub hl [1, 2, 0] rfl)
        refine lv_icmp_ne (tgt := 43) G.1 G.2.1 d_Cw_takeOneOf_26 (by decide) (fun c26 => ?_) (fun c26 => ?_)
        · skip
          have h := h.1 c26
          exact J_43 y_h11 s_h11 d_h11 e_h11 x1h11 x2h11 H locs h hP hD hS ls (lv_sub hl [0, 1, 2] rfl)
        · skip
          have h := h.2 c26
          refine lv_aload_n G.1 G.2.1 d_Cw_takeOneOf_29 rfl (lv_at hl 0 rfl) ?_
          refine W.eq (g2 := F0 m 30 ls [.ref (ad a0)]) rfl ?_
          refine lv_aload_n G.1 G.2.1 d_Cw_takeOneOf_30 rfl (lv_at hl 0 rfl) ?_
          refine ugf (v := .ref (yP y_h11 a0 13)) G hP h_a0 iCw rfl 13 (by decide) rfl q1147 rfl rfl d_Cw_takeOneOf_31 ?_
          refine lv_iload_n G.1 G.2.1 d_Cw_takeOneOf_34 rfl (lv_at hl 2 rfl) ?_
          refine uiald G hP (kdp h_a0 rfl) (typ h_a0 rfl) h d_Cw_takeOneOf_35 (fun x_8 h => ?_)
          refine lv_aload_n G.1 G.2.1 d_Cw_takeOneOf_36 rfl (lv_at hl 0 rfl) ?_
          refine ugf (v := .ref (yP y_h11 a0 19)) G hP h_a0 iCw rfl 19 (by decide) rfl q1153 rfl rfl d_Cw_takeOneOf_37 ?_
          refine ucVv (As := [.int x_8, .ref (yP y_h11 a0 19)]) (rest := []) G hP hD hS (cu_Cw_takeMore l D g ad y_h11 _ s_h11 a0 x_8 a0 19 H.size h_a0 ⟨(kdp h_a0 rfl), (typ h_a0 rfl)⟩ h) w9_Cw_takeMore q2534 ⟨Nat.le_of_ble_eq_true rfl, Nat.le_of_ble_eq_true rfl⟩ rfl rfl h_a0 (q := (RCw, TCw, 20)) rfl rfl hl.1 rfl (Nat.le_of_ble_eq_true rfl) rfl hd d_Cw_takeOneOf_40 (fun s_10 H locs h hP hD hS => ?_)
          exact J_43 y_h11 s_10 d_h11 e_h11 x1h11 x2h11 H locs h hP hD hS ls (lv_sub hl [0, 1, 2] rfl)
  exact L_11 _ y s_2 0 0 v1 0 (Nat.lt_succ_self _) hI_11 H locs hP hD hS ls (lv_sub hl [1, 2, 0] rfl)
theorem q2530 : Cond.methodLink "ClassWorks" 499 y_Cw_takeOneOf ∈ lw_ok := lw_okmem (List.mem_of_getElem? (i := 2530) (by decide +kernel)) rfl
theorem q2533 : Cond.code y_Cw_takeOneOf b_Cw_takeOneOf 3 (none) ∈ lw_ok := lw_okmem (List.mem_of_getElem? (i := 2533) (by decide +kernel)) rfl
theorem q2532 : Cond.instanceMethod y_Cw_takeOneOf ∈ lw_ok := lw_okmem (List.mem_of_getElem? (i := 2532) (by decide +kernel)) rfl
theorem q162 : Cond.selects y_Cw_takeOneOf.cls y_Cw_takeOneOf y_Cw_takeOneOf ∈ lw_ok := lw_okmem (List.mem_of_getElem? (i := 162) (by decide +kernel)) rfl
theorem w9_Cw_takeOneOf : CWv y_Cw_takeOneOf b_Cw_takeOneOf 3 (none) 1 ∧ Cond.instanceMethod y_Cw_takeOneOf ∈ lw_ok ∧ Cond.selects y_Cw_takeOneOf.cls y_Cw_takeOneOf y_Cw_takeOneOf ∈ lw_ok := ⟨⟨q2533, q329, by decide +kernel, by decide +kernel, by decide +kernel⟩, q2532, q162⟩
def y_Cw_fewest : MethodName := ⟨"ClassWorks", "fewest", "()I"⟩
abbrev b_Cw_fewest : ByteArray := prog_1_method_65_code
theorem d_Cw_fewest_0 : decode b_Cw_fewest 0 = .ok (.iconst 0, 1) := by decide +kernel
theorem d_Cw_fewest_1 : decode b_Cw_fewest 1 = .ok (.istore_n 1, 1) := by decide +kernel
theorem d_Cw_fewest_2 : decode b_Cw_fewest 2 = .ok (.iload_n 1, 1) := by decide +kernel
theorem d_Cw_fewest_3 : decode b_Cw_fewest 3 = .ok (.aload_n 0, 1) := by decide +kernel
theorem d_Cw_fewest_4 : decode b_Cw_fewest 4 = .ok (.getfield 46, 3) := by decide +kernel
theorem d_Cw_fewest_7 : decode b_Cw_fewest 7 = .ok (.if_icmp .ge 15, 3) := by decide +kernel
theorem d_Cw_fewest_10 : decode b_Cw_fewest 10 = .ok (.aload_n 0, 1) := by decide +kernel
theorem d_Cw_fewest_11 : decode b_Cw_fewest 11 = .ok (.iload_n 1, 1) := by decide +kernel
theorem d_Cw_fewest_12 : decode b_Cw_fewest 12 = .ok (.iconst 1, 1) := by decide +kernel
theorem d_Cw_fewest_13 : decode b_Cw_fewest 13 = .ok (.invokevirtual 477, 3) := by decide +kernel
theorem d_Cw_fewest_16 : decode b_Cw_fewest 16 = .ok (.iinc 1 1, 3) := by decide +kernel
theorem d_Cw_fewest_19 : decode b_Cw_fewest 19 = .ok (.goto (-17), 3) := by decide +kernel
theorem d_Cw_fewest_22 : decode b_Cw_fewest 22 = .ok (.aload_n 0, 1) := by decide +kernel
theorem d_Cw_fewest_23 : decode b_Cw_fewest 23 = .ok (.getfield 58, 3) := by decide +kernel
theorem d_Cw_fewest_26 : decode b_Cw_fewest 26 = .ok (.bipush 41, 2) := by decide +kernel
theorem d_Cw_fewest_28 : decode b_Cw_fewest 28 = .ok (.invokestatic 493, 3) := by decide +kernel
theorem d_Cw_fewest_31 : decode b_Cw_fewest 31 = .ok (.aload_n 0, 1) := by decide +kernel
theorem d_Cw_fewest_32 : decode b_Cw_fewest 32 = .ok (.getfield 58, 3) := by decide +kernel
theorem d_Cw_fewest_35 : decode b_Cw_fewest 35 = .ok (.iconst 0, 1) := by decide +kernel
theorem d_Cw_fewest_36 : decode b_Cw_fewest 36 = .ok (.iconst 0, 1) := by decide +kernel
theorem d_Cw_fewest_37 : decode b_Cw_fewest 37 = .ok (.iastore, 1) := by decide +kernel
theorem d_Cw_fewest_38 : decode b_Cw_fewest 38 = .ok (.iconst 0, 1) := by decide +kernel
theorem d_Cw_fewest_39 : decode b_Cw_fewest 39 = .ok (.istore_n 1, 1) := by decide +kernel
theorem d_Cw_fewest_40 : decode b_Cw_fewest 40 = .ok (.iconst 1, 1) := by decide +kernel
theorem d_Cw_fewest_41 : decode b_Cw_fewest 41 = .ok (.istore_n 2, 1) := by decide +kernel
theorem d_Cw_fewest_42 : decode b_Cw_fewest 42 = .ok (.iload_n 2, 1) := by decide +kernel
theorem d_Cw_fewest_43 : decode b_Cw_fewest 43 = .ok (.bipush 60, 2) := by decide +kernel
theorem d_Cw_fewest_45 : decode b_Cw_fewest 45 = .ok (.if_icmp .ge 22, 3) := by decide +kernel
theorem d_Cw_fewest_48 : decode b_Cw_fewest 48 = .ok (.aload_n 0, 1) := by decide +kernel
theorem d_Cw_fewest_49 : decode b_Cw_fewest 49 = .ok (.iload_n 2, 1) := by decide +kernel
theorem d_Cw_fewest_50 : decode b_Cw_fewest 50 = .ok (.invokevirtual 484, 3) := by decide +kernel
theorem d_Cw_fewest_53 : decode b_Cw_fewest 53 = .ok (.ifCond .eq 8, 3) := by decide +kernel
theorem d_Cw_fewest_56 : decode b_Cw_fewest 56 = .ok (.aload_n 0, 1) := by decide +kernel
theorem d_Cw_fewest_57 : decode b_Cw_fewest 57 = .ok (.iload_n 2, 1) := by decide +kernel
theorem d_Cw_fewest_58 : decode b_Cw_fewest 58 = .ok (.invokevirtual 499, 3) := by decide +kernel
theorem d_Cw_fewest_61 : decode b_Cw_fewest 61 = .ok (.iinc 2 1, 3) := by decide +kernel
theorem d_Cw_fewest_64 : decode b_Cw_fewest 64 = .ok (.goto (-22), 3) := by decide +kernel
theorem d_Cw_fewest_67 : decode b_Cw_fewest 67 = .ok (.iconst 0, 1) := by decide +kernel
theorem d_Cw_fewest_68 : decode b_Cw_fewest 68 = .ok (.istore_n 2, 1) := by decide +kernel
theorem d_Cw_fewest_69 : decode b_Cw_fewest 69 = .ok (.iload_n 2, 1) := by decide +kernel
theorem d_Cw_fewest_70 : decode b_Cw_fewest 70 = .ok (.aload_n 0, 1) := by decide +kernel
theorem d_Cw_fewest_71 : decode b_Cw_fewest 71 = .ok (.getfield 46, 3) := by decide +kernel
theorem d_Cw_fewest_74 : decode b_Cw_fewest 74 = .ok (.if_icmp .ge 32, 3) := by decide +kernel
theorem d_Cw_fewest_77 : decode b_Cw_fewest 77 = .ok (.iload_n 1, 1) := by decide +kernel
theorem d_Cw_fewest_78 : decode b_Cw_fewest 78 = .ok (.aload_n 0, 1) := by decide +kernel
theorem d_Cw_fewest_79 : decode b_Cw_fewest 79 = .ok (.getfield 43, 3) := by decide +kernel
theorem d_Cw_fewest_82 : decode b_Cw_fewest 82 = .ok (.iload_n 2, 1) := by decide +kernel
theorem d_Cw_fewest_83 : decode b_Cw_fewest 83 = .ok (.iaload, 1) := by decide +kernel
theorem d_Cw_fewest_84 : decode b_Cw_fewest 84 = .ok (.ior, 1) := by decide +kernel
theorem d_Cw_fewest_85 : decode b_Cw_fewest 85 = .ok (.istore_n 1, 1) := by decide +kernel
theorem d_Cw_fewest_86 : decode b_Cw_fewest 86 = .ok (.aload_n 0, 1) := by decide +kernel
theorem d_Cw_fewest_87 : decode b_Cw_fewest 87 = .ok (.aload_n 0, 1) := by decide +kernel
theorem d_Cw_fewest_88 : decode b_Cw_fewest 88 = .ok (.getfield 43, 3) := by decide +kernel
theorem d_Cw_fewest_91 : decode b_Cw_fewest 91 = .ok (.iload_n 2, 1) := by decide +kernel
theorem d_Cw_fewest_92 : decode b_Cw_fewest 92 = .ok (.iaload, 1) := by decide +kernel
theorem d_Cw_fewest_93 : decode b_Cw_fewest 93 = .ok (.aload_n 0, 1) := by decide +kernel
theorem d_Cw_fewest_94 : decode b_Cw_fewest 94 = .ok (.getfield 58, 3) := by decide +kernel
theorem d_Cw_fewest_97 : decode b_Cw_fewest 97 = .ok (.invokevirtual 502, 3) := by decide +kernel
theorem d_Cw_fewest_100 : decode b_Cw_fewest 100 = .ok (.iinc 2 1, 3) := by decide +kernel
theorem d_Cw_fewest_103 : decode b_Cw_fewest 103 = .ok (.goto (-34), 3) := by decide +kernel
theorem d_Cw_fewest_106 : decode b_Cw_fewest 106 = .ok (.aload_n 0, 1) := by decide +kernel
theorem d_Cw_fewest_107 : decode b_Cw_fewest 107 = .ok (.getfield 58, 3) := by decide +kernel
theorem d_Cw_fewest_110 : decode b_Cw_fewest 110 = .ok (.iload_n 1, 1) := by decide +kernel
theorem d_Cw_fewest_111 : decode b_Cw_fewest 111 = .ok (.iaload, 1) := by decide +kernel
theorem d_Cw_fewest_112 : decode b_Cw_fewest 112 = .ok (.ireturn, 1) := by decide +kernel
abbrev ra_Cw_fewest (mc ms : Nat) : Room := { frames := 12, cells := mc, slots := ms, locals := 597 }
def wba_Cw_fewest_69 (mc ms : Nat) (Post : Ly → St → Int32 → Nat → Nat → Prop) (K_69 : Ly → St → Nat → Nat → Int32 → Int32 → Prop) (a0 : Nat) (y_h69 : Ly) (s_h69 : St) (d_h69 e_h69 : Nat) (x1h69 : Int32) (x2h69 : Int32) : Prop := (d_h69 ≤ mc ∧ e_h69 ≤ ms) ∧ (((sV s_h69 a0 14) ≤ x2h69 → xA y_h69 s_h69 a0 18 x1h69 (fun x_4 : Int32 => Post y_h69 s_h69 x_4 d_h69 e_h69)) ∧ (¬ ((sV s_h69 a0 14) ≤ x2h69) → xA y_h69 s_h69 a0 13 x2h69 (fun x_5 : Int32 => xA y_h69 s_h69 a0 13 x2h69 (fun x_6 : Int32 => wu_Cw_takeMore y_h69 (fun (s_8 : St) => K_69 y_h69 s_8 d_h69 e_h69 (x1h69 ||| x_5) (x2h69 + 1)) s_h69 a0 x_6 a0 18))))
def wla_Cw_fewest_69 (mc ms : Nat) (Post : Ly → St → Int32 → Nat → Nat → Prop) (a0 : Nat) (y_h69 : Ly) (s_h69 : St) (d_h69 e_h69 : Nat) (x1h69 : Int32) (x2h69 : Int32) : Prop := ∃ (I : Ly → St → Nat → Nat → Int32 → Int32 → Prop) (μ : Ly → St → Nat → Nat → Int32 → Int32 → Nat), I y_h69 s_h69 d_h69 e_h69 x1h69 x2h69 ∧ ∀ (u1 : Ly) (u2 : St) (u3 u4 : Nat) (t0 : Int32) (t1 : Int32), I u1 u2 u3 u4 t0 t1 → wba_Cw_fewest_69 mc ms Post (fun z1 z2 z3 z4 t0q t1q => I z1 z2 z3 z4 t0q t1q ∧ μ z1 z2 z3 z4 t0q t1q < μ u1 u2 u3 u4 t0 t1) a0 u1 u2 u3 u4 t0 t1
def wja_Cw_fewest_61 (mc ms : Nat) (Post : Ly → St → Int32 → Nat → Nat → Prop) (K_42 : Ly → St → Nat → Nat → Int32 → Int32 → Prop) (a0 : Nat) (y_j61 : Ly) (s_j61 : St) (d_j61 e_j61 : Nat) (x1j61 : Int32) (x2j61 : Int32) : Prop := (d_j61 ≤ mc ∧ e_j61 ≤ ms) ∧ K_42 y_j61 s_j61 d_j61 e_j61 x1j61 (x2j61 + 1)
def wba_Cw_fewest_42 (mc ms : Nat) (Post : Ly → St → Int32 → Nat → Nat → Prop) (K_42 : Ly → St → Nat → Nat → Int32 → Int32 → Prop) (a0 : Nat) (y_h42 : Ly) (s_h42 : St) (d_h42 e_h42 : Nat) (x1h42 : Int32) (x2h42 : Int32) : Prop := (d_h42 ≤ mc ∧ e_h42 ≤ ms) ∧ ((60 ≤ x2h42 → wla_Cw_fewest_69 mc ms Post a0 y_h42 s_h42 d_h42 e_h42 x1h42 0) ∧ (¬ (60 ≤ x2h42) → wu_Cw_isMet y_h42 (fun (s_10 : St) (r_9 : Int32) => ((r_9 = 0 → wja_Cw_fewest_61 mc ms Post K_42 a0 y_h42 s_10 d_h42 e_h42 x1h42 x2h42) ∧ (¬ (r_9 = 0) → ∃ mc_16 ms_17 : Nat, (d_h42 + mc_16 ≤ mc ∧ e_h42 + ms_17 ≤ ms) ∧ wa_Cw_takeOneOf mc_16 ms_17 y_h42 (fun (y_13 : Ly) (s_12 : St) (d_14 e_15 : Nat) => (d_h42 + d_14 ≤ mc ∧ e_h42 + e_15 ≤ ms) ∧ wja_Cw_fewest_61 mc ms Post K_42 a0 y_13 s_12 (d_h42 + d_14) (e_h42 + e_15) x1h42 x2h42) s_10 a0 x2h42))) s_h42 a0 x2h42))
def wla_Cw_fewest_42 (mc ms : Nat) (Post : Ly → St → Int32 → Nat → Nat → Prop) (a0 : Nat) (y_h42 : Ly) (s_h42 : St) (d_h42 e_h42 : Nat) (x1h42 : Int32) (x2h42 : Int32) : Prop := ∃ (I : Ly → St → Nat → Nat → Int32 → Int32 → Prop) (μ : Ly → St → Nat → Nat → Int32 → Int32 → Nat), I y_h42 s_h42 d_h42 e_h42 x1h42 x2h42 ∧ ∀ (u1 : Ly) (u2 : St) (u3 u4 : Nat) (t0 : Int32) (t1 : Int32), I u1 u2 u3 u4 t0 t1 → wba_Cw_fewest_42 mc ms Post (fun z1 z2 z3 z4 t0q t1q => I z1 z2 z3 z4 t0q t1q ∧ μ z1 z2 z3 z4 t0q t1q < μ u1 u2 u3 u4 t0 t1) a0 u1 u2 u3 u4 t0 t1
def wba_Cw_fewest_2 (mc ms : Nat) (Post : Ly → St → Int32 → Nat → Nat → Prop) (K_2 : Ly → St → Nat → Nat → Int32 → Prop) (a0 : Nat) (y_h2 : Ly) (s_h2 : St) (d_h2 e_h2 : Nat) (x1h2 : Int32) : Prop := (d_h2 ≤ mc ∧ e_h2 ≤ ms) ∧ (((sV s_h2 a0 14) ≤ x1h2 → wu_Ja_fill_aIIV y_h2 (fun (s_2 : St) => xS y_h2 s_2 a0 18 0 0 (fun s_3 : St => wla_Cw_fewest_42 mc ms Post a0 y_h2 s_3 d_h2 e_h2 0 1)) s_h2 a0 18 41) ∧ (¬ ((sV s_h2 a0 14) ≤ x1h2) → ∃ mc_24 ms_25 : Nat, (d_h2 + mc_24 ≤ mc ∧ e_h2 + ms_25 ≤ ms) ∧ wa_Cw_survey mc_24 ms_25 y_h2 (fun (y_21 : Ly) (s_20 : St) (d_22 e_23 : Nat) => (d_h2 + d_22 ≤ mc ∧ e_h2 + e_23 ≤ ms) ∧ K_2 y_21 s_20 (d_h2 + d_22) (e_h2 + e_23) (x1h2 + 1)) s_h2 a0 x1h2 1))
def wla_Cw_fewest_2 (mc ms : Nat) (Post : Ly → St → Int32 → Nat → Nat → Prop) (a0 : Nat) (y_h2 : Ly) (s_h2 : St) (d_h2 e_h2 : Nat) (x1h2 : Int32) : Prop := ∃ (I : Ly → St → Nat → Nat → Int32 → Prop) (μ : Ly → St → Nat → Nat → Int32 → Nat), I y_h2 s_h2 d_h2 e_h2 x1h2 ∧ ∀ (u1 : Ly) (u2 : St) (u3 u4 : Nat) (t0 : Int32), I u1 u2 u3 u4 t0 → wba_Cw_fewest_2 mc ms Post (fun z1 z2 z3 z4 t0q => I z1 z2 z3 z4 t0q ∧ μ z1 z2 z3 z4 t0q < μ u1 u2 u3 u4 t0) a0 u1 u2 u3 u4 t0
def wa_Cw_fewest (mc ms : Nat) (y : Ly) (Post : Ly → St → Int32 → Nat → Nat → Prop) (σ : St) (a0 : Nat) : Prop := wla_Cw_fewest_2 mc ms Post a0 y σ 0 0 0
set_option maxHeartbeats 4000000 in
set_option maxRecDepth 100000 in
theorem ca_Cw_fewest (l : Launch) (D : va_G) (g : Nat → ClassId) (F : Nat → SL) (sl : List SL) (hF : SOK F sl) (ad : Nat → Nat) (mc ms : Nat) (y : Ly) (Post : Ly → St → Int32 → Nat → Nat → Prop) (σ : St) (a0 : Nat) (sz uz : Nat) (h_a0 : cl a0 = 11) (h : wa_Cw_fewest mc ms y Post σ a0) : Met l y_Cw_fewest (mw y_Cw_fewest b_Cw_fewest 3 (some .int)) (ra_Cw_fewest mc ms) (PCu g D sl [.ref (ad a0)] sz uz (ws g ad y σ)) (va_Qi (fun (r : Int32) (u : Ly × St × Nat × Nat) => Post u.1 u.2.1 r u.2.2.1 u.2.2.2) (QU D (va_A (ws g ad y σ) sz) (fun u => ws g ad u.1 u.2.1) sz uz (fun u => u.2.2.1) (fun u => u.2.2.2)) (va_A (ws g ad y σ) sz)) mc ms (va_A (ws g ad y σ) sz) := by
  refine ofIu (by decide +kernel) (Nat.le_of_ble_eq_true rfl) ?_
  intro p e s m args below meth c A Q ls H locs G hsz hP hD hS hl hret
  subst hsz
  have hl : lv_has ls 3 [(0, .ref (ad a0))] := hl
  have hd : 0 ≤ mc ∧ 0 ≤ ms := ⟨Nat.zero_le _, Nat.zero_le _⟩
  unfold wa_Cw_fewest at h
  refine lv_iconst (v := 0) G.1 G.2.1 d_Cw_fewest_0 (by decide) ?_
  refine lv_istore_n (lv' := [(1, .int 0), (0, .ref (ad a0))]) G.1 G.2.1 d_Cw_fewest_1 rfl hl (by decide) rfl (fun ls hl => ?_)
  unfold wla_Cw_fewest_2 at h
  obtain ⟨I_2, μ_2, hI_2, hB_2⟩ := h
  have L_2 : ∀ (n_2 : Nat) (y_h2 : Ly) (s_h2 : St) (d_h2 e_h2 : Nat) (x1h2 : Int32), μ_2 y_h2 s_h2 d_h2 e_h2 x1h2 < n_2 → I_2 y_h2 s_h2 d_h2 e_h2 x1h2 → ∀ (H : Heap) (locs : List Loc), va_P D CL (ws g ad y_h2 s_h2) H → va_D A (ws g ad y_h2 s_h2) → va_S A s.heap H locs → ∀ ls, lv_has ls 3 [(0, .ref (ad a0)), (1, .int x1h2)] → W p l e (ra_Cw_fewest mc ms) s m args below meth c H locs d_h2 e_h2 Q (F0 m 2 ls []) := by
    intro n_2
    induction n_2 with
    | zero => intro y_h2 s_h2 d_h2 e_h2 x1h2 hμ; exact absurd hμ (Nat.not_lt_zero _)
    | succ n_2 ih_2 =>
      intro y_h2 s_h2 d_h2 e_h2 x1h2 hμ_2 hJ H locs hP hD hS ls hl
      obtain ⟨K_2, hK_2, h⟩ : ∃ K : Ly → St → Nat → Nat → Int32 → Prop, (∀ z1 z2 z3 z4 (t0 : Int32), K z1 z2 z3 z4 t0 → I_2 z1 z2 z3 z4 t0 ∧ μ_2 z1 z2 z3 z4 t0 < μ_2 y_h2 s_h2 d_h2 e_h2 x1h2) ∧ wba_Cw_fewest_2 mc ms Post K a0 y_h2 s_h2 d_h2 e_h2 x1h2 := ⟨_, fun _ _ _ _ _ h => h, hB_2 y_h2 s_h2 d_h2 e_h2 x1h2 hJ⟩
      unfold wba_Cw_fewest_2 at h
      obtain ⟨hd, h⟩ := h
      refine lv_iload_n G.1 G.2.1 d_Cw_fewest_2 rfl (lv_at hl 1 rfl) ?_
      refine lv_aload_n G.1 G.2.1 d_Cw_fewest_3 rfl (lv_at hl 0 rfl) ?_
      refine ugf (v := .int (sV s_h2 a0 14)) G hP h_a0 iCw rfl 14 (by decide) rfl q1148 rfl rfl d_Cw_fewest_4 ?_
      refine lv_icmp_ge (tgt := 22) G.1 G.2.1 d_Cw_fewest_7 (by decide) (fun c7 => ?_) (fun c7 => ?_)
      · skip
        have h := h.1 c7
        refine lv_aload_n G.1 G.2.1 d_Cw_fewest_22 rfl (lv_at hl 0 rfl) ?_
        refine ugf (v := .ref (yP y_h2 a0 18)) G hP h_a0 iCw rfl 18 (by decide) rfl q1152 rfl rfl d_Cw_fewest_23 ?_
        refine lv_bipush (v := 41) G.1 G.2.1 d_Cw_fewest_26 (by decide) ?_
        refine ucSv (As := [.ref (yP y_h2 a0 18), .int 41]) (rest := []) G hP hD hS (cu_Ja_fill_aIIV l D g ad y_h2 _ s_h2 a0 18 41 H.size ⟨(kdp h_a0 rfl), (typ h_a0 rfl)⟩ h) w9_Ja_fill_aIIV q2529 ⟨Nat.le_of_ble_eq_true rfl, Nat.le_of_ble_eq_true rfl⟩ rfl rfl hl.1 rfl (Nat.le_of_ble_eq_true rfl) rfl hd d_Cw_fewest_28 (fun s_2 H locs h hP hD hS => ?_)
        refine lv_aload_n G.1 G.2.1 d_Cw_fewest_31 rfl (lv_at hl 0 rfl) ?_
        refine ugf (v := .ref (yP y_h2 a0 18)) G hP h_a0 iCw rfl 18 (by decide) rfl q1152 rfl rfl d_Cw_fewest_32 ?_
        refine lv_iconst (v := 0) G.1 G.2.1 d_Cw_fewest_35 (by decide) ?_
        refine W.eq (g2 := F0 m 36 ls [.int 0, .ref (yP y_h2 a0 18)]) rfl ?_
        refine lv_iconst (v := 0) G.1 G.2.1 d_Cw_fewest_36 (by decide) ?_
        refine uiast G hP hD hS (kdp h_a0 rfl) (typ h_a0 rfl) h d_Cw_fewest_37 (fun s_3 H locs h hP hD hS => ?_)
        refine lv_iconst (v := 0) G.1 G.2.1 d_Cw_fewest_38 (by decide) ?_
        refine lv_istore_n (lv' := [(1, .int 0), (0, .ref (ad a0))]) G.1 G.2.1 d_Cw_fewest_39 rfl hl (by decide) rfl (fun ls hl => ?_)
        refine lv_iconst (v := 1) G.1 G.2.1 d_Cw_fewest_40 (by decide) ?_
        refine lv_istore_n (lv' := [(2, .int 1), (1, .int 0), (0, .ref (ad a0))]) G.1 G.2.1 d_Cw_fewest_41 rfl hl (by decide) rfl (fun ls hl => ?_)
        unfold wla_Cw_fewest_42 at h
        obtain ⟨I_42, μ_42, hI_42, hB_42⟩ := h
        have L_42 : ∀ (n_42 : Nat) (y_h42 : Ly) (s_h42 : St) (d_h42 e_h42 : Nat) (x1h42 : Int32) (x2h42 : Int32), μ_42 y_h42 s_h42 d_h42 e_h42 x1h42 x2h42 < n_42 → I_42 y_h42 s_h42 d_h42 e_h42 x1h42 x2h42 → ∀ (H : Heap) (locs : List Loc), va_P D CL (ws g ad y_h42 s_h42) H → va_D A (ws g ad y_h42 s_h42) → va_S A s.heap H locs → ∀ ls, lv_has ls 3 [(0, .ref (ad a0)), (1, .int x1h42), (2, .int x2h42)] → W p l e (ra_Cw_fewest mc ms) s m args below meth c H locs d_h42 e_h42 Q (F0 m 42 ls []) := by
          intro n_42
          induction n_42 with
          | zero => intro y_h42 s_h42 d_h42 e_h42 x1h42 x2h42 hμ; exact absurd hμ (Nat.not_lt_zero _)
          | succ n_42 ih_42 =>
            intro y_h42 s_h42 d_h42 e_h42 x1h42 x2h42 hμ_42 hJ H locs hP hD hS ls hl
            obtain ⟨K_42, hK_42, h⟩ : ∃ K : Ly → St → Nat → Nat → Int32 → Int32 → Prop, (∀ z1 z2 z3 z4 (t0 : Int32) (t1 : Int32), K z1 z2 z3 z4 t0 t1 → I_42 z1 z2 z3 z4 t0 t1 ∧ μ_42 z1 z2 z3 z4 t0 t1 < μ_42 y_h42 s_h42 d_h42 e_h42 x1h42 x2h42) ∧ wba_Cw_fewest_42 mc ms Post K a0 y_h42 s_h42 d_h42 e_h42 x1h42 x2h42 := ⟨_, fun _ _ _ _ _ _ h => h, hB_42 y_h42 s_h42 d_h42 e_h42 x1h42 x2h42 hJ⟩
            unfold wba_Cw_fewest_42 at h
            obtain ⟨hd, h⟩ := h
            refine lv_iload_n G.1 G.2.1 d_Cw_fewest_42 rfl (lv_at hl 2 rfl) ?_
            refine lv_bipush (v := 60) G.1 G.2.1 d_Cw_fewest_43 (by decide) ?_
            refine lv_icmp_ge (tgt := 67) G.1 G.2.1 d_Cw_fewest_45 (by decide) (fun c45 => ?_) (fun c45 => ?_)
            · skip
              have h := h.1 c45
              refine lv_iconst (v := 0) G.1 G.2.1 d_Cw_fewest_67 (by decide) ?_
              refine lv_istore_n (lv' := [(2, .int 0), (0, .ref (ad a0)), (1, .int x1h42)]) G.1 G.2.1 d_Cw_fewest_68 rfl hl (by decide) rfl (fun ls hl => ?_)
              unfold wla_Cw_fewest_69 at h
              obtain ⟨I_69, μ_69, hI_69, hB_69⟩ := h
              have L_69 : ∀ (n_69 : Nat) (y_h69 : Ly) (s_h69 : St) (d_h69 e_h69 : Nat) (x1h69 : Int32) (x2h69 : Int32), μ_69 y_h69 s_h69 d_h69 e_h69 x1h69 x2h69 < n_69 → I_69 y_h69 s_h69 d_h69 e_h69 x1h69 x2h69 → ∀ (H : Heap) (locs : List Loc), va_P D CL (ws g ad y_h69 s_h69) H → va_D A (ws g ad y_h69 s_h69) → va_S A s.heap H locs → ∀ ls, lv_has ls 3 [(0, .ref (ad a0)), (1, .int x1h69), (2, .int x2h69)] → W p l e (ra_Cw_fewest mc ms) s m args below meth c H locs d_h69 e_h69 Q (F0 m 69 ls []) := by
                intro n_69
                induction n_69 with
                | zero => intro y_h69 s_h69 d_h69 e_h69 x1h69 x2h69 hμ; exact absurd hμ (Nat.not_lt_zero _)
                | succ n_69 ih_69 =>
                  intro y_h69 s_h69 d_h69 e_h69 x1h69 x2h69 hμ_69 hJ H locs hP hD hS ls hl
                  obtain ⟨K_69, hK_69, h⟩ : ∃ K : Ly → St → Nat → Nat → Int32 → Int32 → Prop, (∀ z1 z2 z3 z4 (t0 : Int32) (t1 : Int32), K z1 z2 z3 z4 t0 t1 → I_69 z1 z2 z3 z4 t0 t1 ∧ μ_69 z1 z2 z3 z4 t0 t1 < μ_69 y_h69 s_h69 d_h69 e_h69 x1h69 x2h69) ∧ wba_Cw_fewest_69 mc ms Post K a0 y_h69 s_h69 d_h69 e_h69 x1h69 x2h69 := ⟨_, fun _ _ _ _ _ _ h => h, hB_69 y_h69 s_h69 d_h69 e_h69 x1h69 x2h69 hJ⟩
                  unfold wba_Cw_fewest_69 at h
                  obtain ⟨hd, h⟩ := h
                  refine lv_iload_n G.1 G.2.1 d_Cw_fewest_69 rfl (lv_at hl 2 rfl) ?_
                  refine lv_aload_n G.1 G.2.1 d_Cw_fewest_70 rfl (lv_at hl 0 rfl) ?_
                  refine ugf (v := .int (sV s_h69 a0 14)) G hP h_a0 iCw rfl 14 (by decide) rfl q1148 rfl rfl d_Cw_fewest_71 ?_
                  refine lv_icmp_ge (tgt := 106) G.1 G.2.1 d_Cw_fewest_74 (by decide) (fun c74 => ?_) (fun c74 => ?_)
                  · skip
                    have h := h.1 c74
                    refine lv_aload_n G.1 G.2.1 d_Cw_fewest_106 rfl (lv_at hl 0 rfl) ?_
                    refine ugf (v := .ref (yP y_h69 a0 18)) G hP h_a0 iCw rfl 18 (by decide) rfl q1152 rfl rfl d_Cw_fewest_107 ?_
                    refine lv_iload_n G.1 G.2.1 d_Cw_fewest_110 rfl (lv_at hl 1 rfl) ?_
                    refine uiald G hP (kdp h_a0 rfl) (typ h_a0 rfl) h d_Cw_fewest_111 (fun x_4 h => ?_)
                    exact hret _ (y_h69, s_h69, d_h69, e_h69) _ _ _ _ _ ls h hP hD hS (Nat.le_refl _) (Nat.le_refl _) hd.1 hd.2 d_Cw_fewest_112
                  · skip
                    have h := h.2 c74
                    refine lv_iload_n G.1 G.2.1 d_Cw_fewest_77 rfl (lv_at hl 1 rfl) ?_
                    refine lv_aload_n G.1 G.2.1 d_Cw_fewest_78 rfl (lv_at hl 0 rfl) ?_
                    refine ugf (v := .ref (yP y_h69 a0 13)) G hP h_a0 iCw rfl 13 (by decide) rfl q1147 rfl rfl d_Cw_fewest_79 ?_
                    refine lv_iload_n G.1 G.2.1 d_Cw_fewest_82 rfl (lv_at hl 2 rfl) ?_
                    refine uiald G hP (kdp h_a0 rfl) (typ h_a0 rfl) h d_Cw_fewest_83 (fun x_5 h => ?_)
                    refine lv_ior G.1 G.2.1 d_Cw_fewest_84 ?_
                    refine lv_istore_n (lv' := [(1, .int (x1h69 ||| x_5)), (0, .ref (ad a0)), (2, .int x2h69)]) G.1 G.2.1 d_Cw_fewest_85 rfl hl (by decide) rfl (fun ls hl => ?_)
                    refine W.eq (g2 := F0 m 86 ls []) rfl ?_
                    refine lv_aload_n G.1 G.2.1 d_Cw_fewest_86 rfl (lv_at hl 1 rfl) ?_
                    refine lv_aload_n G.1 G.2.1 d_Cw_fewest_87 rfl (lv_at hl 1 rfl) ?_
                    refine ugf (v := .ref (yP y_h69 a0 13)) G hP h_a0 iCw rfl 13 (by decide) rfl q1147 rfl rfl d_Cw_fewest_88 ?_
                    refine lv_iload_n G.1 G.2.1 d_Cw_fewest_91 rfl (lv_at hl 2 rfl) ?_
                    refine uiald G hP (kdp h_a0 rfl) (typ h_a0 rfl) h d_Cw_fewest_92 (fun x_6 h => ?_)
                    refine lv_aload_n G.1 G.2.1 d_Cw_fewest_93 rfl (lv_at hl 1 rfl) ?_
                    refine ugf (v := .ref (yP y_h69 a0 18)) G hP h_a0 iCw rfl 18 (by decide) rfl q1152 rfl rfl d_Cw_fewest_94 ?_
                    refine ucVv (As := [.int x_6, .ref (yP y_h69 a0 18)]) (rest := []) G hP hD hS (cu_Cw_takeMore l D g ad y_h69 _ s_h69 a0 x_6 a0 18 H.size h_a0 ⟨(kdp h_a0 rfl), (typ h_a0 rfl)⟩ h) w9_Cw_takeMore q2534 ⟨Nat.le_of_ble_eq_true rfl, Nat.le_of_ble_eq_true rfl⟩ rfl rfl h_a0 (q := (RCw, TCw, 20)) rfl rfl hl.1 rfl (Nat.le_of_ble_eq_true rfl) rfl hd d_Cw_fewest_97 (fun s_8 H locs h hP hD hS => ?_)
                    refine lv_iinc (v := x2h69 + 1) (lv' := [(2, .int (x2h69 + 1)), (1, .int (x1h69 ||| x_5)), (0, .ref (ad a0))]) G.1 G.2.1 d_Cw_fewest_100 hl (k := 2) rfl rfl (by decide) rfl (fun ls hl => ?_)
                    refine lv_goto (tgt := 69) G.1 G.2.1 d_Cw_fewest_103 (by decide) ?_
                    have h := hK_69 y_h69 s_8 d_h69 e_h69 (x1h69 ||| x_5) (x2h69 + 1) h
                    exact ih_69 y_h69 s_8 d_h69 e_h69 (x1h69 ||| x_5) (x2h69 + 1) (Nat.lt_of_lt_of_le h.2 (Nat.le_of_lt_succ hμ_69)) h.1 H locs hP hD hS ls (lv_sub hl [2, 1, 0] rfl)
              exact L_69 _ y_h42 s_h42 d_h42 e_h42 x1h42 0 (Nat.lt_succ_self _) hI_69 H locs hP hD hS ls (lv_sub hl [1, 2, 0] rfl)
            · skip
              have h := h.2 c45
              refine lv_aload_n G.1 G.2.1 d_Cw_fewest_48 rfl (lv_at hl 0 rfl) ?_
              refine lv_iload_n G.1 G.2.1 d_Cw_fewest_49 rfl (lv_at hl 2 rfl) ?_
              refine ucVi (As := [.int x2h42]) (rest := []) G hP hD hS (cu_Cw_isMet l D g ad y_h42 _ s_h42 a0 x2h42 H.size h_a0 h) w9_Cw_isMet q2509 ⟨Nat.le_of_ble_eq_true rfl, Nat.le_of_ble_eq_true rfl⟩ rfl rfl h_a0 (q := (RCw, TCw, 20)) rfl rfl hl.1 rfl (Nat.le_of_ble_eq_true rfl) rfl hd d_Cw_fewest_50 (fun r_9 s_10 H locs h hP hD hS => ?_)
              have J_61 : ∀ (y_j61 : Ly) (s_j61 : St) (d_j61 e_j61 : Nat) (x1j61 : Int32) (x2j61 : Int32) (H : Heap) (locs : List Loc), wja_Cw_fewest_61 mc ms Post K_42 a0 y_j61 s_j61 d_j61 e_j61 x1j61 x2j61 → va_P D CL (ws g ad y_j61 s_j61) H → va_D A (ws g ad y_j61 s_j61) → va_S A s.heap H locs → ∀ ls, lv_has ls 3 [(0, .ref (ad a0)), (1, .int x1j61), (2, .int x2j61)] → W p l e (ra_Cw_fewest mc ms) s m args below meth c H locs d_j61 e_j61 Q (F0 m 61 ls []) := by
                intro y_j61 s_j61 d_j61 e_j61 x1j61 x2j61 H locs h hP hD hS ls hl
                unfold wja_Cw_fewest_61 at h
                obtain ⟨hd, h⟩ := h
                refine lv_iinc (v := x2j61 + 1) (lv' := [(2, .int (x2j61 + 1)), (0, .ref (ad a0)), (1, .int x1j61)]) G.1 G.2.1 d_Cw_fewest_61 hl (k := 2) rfl rfl (by decide) rfl (fun ls hl => ?_)
                refine lv_goto (tgt := 42) G.1 G.2.1 d_Cw_fewest_64 (by decide) ?_
                have h := hK_42 y_j61 s_j61 d_j61 e_j61 x1j61 (x2j61 + 1) h
                exact ih_42 y_j61 s_j61 d_j61 e_j61 x1j61 (x2j61 + 1) (Nat.lt_of_lt_of_le h.2 (Nat.le_of_lt_succ hμ_42)) h.1 H locs hP hD hS ls (lv_sub hl [1, 2, 0] rfl)
              refine lv_if_eq (tgt := 61) G.1 G.2.1 d_Cw_fewest_53 (by decide) (fun c53 => ?_) (fun c53 => ?_)
              · skip
                have h := h.1 c53
                exact J_61 y_h42 s_10 d_h42 e_h42 x1h42 x2h42 H locs h hP hD hS ls (lv_sub hl [0, 1, 2] rfl)
              · skip
                have h := h.2 c53
                refine lv_aload_n G.1 G.2.1 d_Cw_fewest_56 rfl (lv_at hl 0 rfl) ?_
                refine lv_iload_n G.1 G.2.1 d_Cw_fewest_57 rfl (lv_at hl 2 rfl) ?_
                obtain ⟨mc_16, ms_17, hr_18, h⟩ := h
                refine uaVv (As := [.int x2h42]) (rest := []) G hP hD hS (ca_Cw_takeOneOf l D g ad mc_16 ms_17 y_h42 _ s_10 a0 x2h42 H.size (us H) h_a0 h) w9_Cw_takeOneOf q2530 ⟨Nat.le_of_ble_eq_true rfl, Nat.le_of_ble_eq_true rfl⟩ rfl rfl h_a0 (q := (RCw, TCw, 20)) rfl rfl hl.1 rfl (Nat.le_of_ble_eq_true rfl) rfl hr_18 d_Cw_fewest_58 (fun y_13 s_12 d_14 e_15 H locs h hP hD hS => ?_)
                obtain ⟨hd, h⟩ := h
                exact J_61 y_13 s_12 (d_h42 + d_14) (e_h42 + e_15) x1h42 x2h42 H locs h hP hD hS ls (lv_sub hl [0, 1, 2] rfl)
        exact L_42 _ y_h2 s_3 d_h2 e_h2 0 1 (Nat.lt_succ_self _) hI_42 H locs hP hD hS ls (lv_sub hl [2, 1, 0] rfl)
      · skip
        have h := h.2 c7
        refine lv_aload_n G.1 G.2.1 d_Cw_fewest_10 rfl (lv_at hl 0 rfl) ?_
        refine lv_iload_n G.1 G.2.1 d_Cw_fewest_11 rfl (lv_at hl 1 rfl) ?_
        refine lv_iconst (v := 1) G.1 G.2.1 d_Cw_fewest_12 (by decide) ?_
        obtain ⟨mc_24, ms_25, hr_26, h⟩ := h
        refine utVv (As := [.int x1h2, .int 1]) (rest := []) G hP hD hS (ca_Cw_survey l D g F sl hF ad mc_24 ms_25 y_h2 _ s_h2 a0 x1h2 1 H.size (us H) h_a0 h) w9_Cw_survey q2494 ⟨Nat.le_of_ble_eq_true rfl, Nat.le_of_ble_eq_true rfl⟩ rfl rfl h_a0 (q := (RCw, TCw, 20)) rfl rfl hl.1 rfl (Nat.le_of_ble_eq_true rfl) rfl hr_26 d_Cw_fewest_13 (fun y_21 s_20 d_22 e_23 H locs h hP hD hS => ?_)
        obtain ⟨hd, h⟩ := h
        refine lv_iinc (v := x1h2 + 1) (lv' := [(1, .int (x1h2 + 1)), (0, .ref (ad a0))]) G.1 G.2.1 d_Cw_fewest_16 hl (k := 1) rfl rfl (by decide) rfl (fun ls hl => ?_)
        refine lv_goto (tgt := 2) G.1 G.2.1 d_Cw_fewest_19 (by decide) ?_
        have h := hK_2 y_21 s_20 (d_h2 + d_22) (e_h2 + e_23) (x1h2 + 1) h
        exact ih_2 y_21 s_20 (d_h2 + d_22) (e_h2 + e_23) (x1h2 + 1) (Nat.lt_of_lt_of_le h.2 (Nat.le_of_lt_succ hμ_2)) h.1 H locs hP hD hS ls (lv_sub hl [1, 0] rfl)
  exact L_2 _ y σ 0 0 0 (Nat.lt_succ_self _) hI_2 H locs hP hD hS ls (lv_sub hl [1, 0] rfl)
theorem q2546 : Cond.methodLink "ClassWorks" 509 y_Cw_draftWithout ∈ lw_ok := lw_okmem (List.mem_of_getElem? (i := 2546) (by decide +kernel)) rfl
theorem q2549 : Cond.code y_Cw_draftWithout b_Cw_draftWithout 7 (some .int) ∈ lw_ok := lw_okmem (List.mem_of_getElem? (i := 2549) (by decide +kernel)) rfl
theorem q2548 : Cond.instanceMethod y_Cw_draftWithout ∈ lw_ok := lw_okmem (List.mem_of_getElem? (i := 2548) (by decide +kernel)) rfl
theorem q165 : Cond.selects y_Cw_draftWithout.cls y_Cw_draftWithout y_Cw_draftWithout ∈ lw_ok := lw_okmem (List.mem_of_getElem? (i := 165) (by decide +kernel)) rfl
theorem w9_Cw_draftWithout : CWv y_Cw_draftWithout b_Cw_draftWithout 7 (some .int) 2 ∧ Cond.instanceMethod y_Cw_draftWithout ∈ lw_ok ∧ Cond.selects y_Cw_draftWithout.cls y_Cw_draftWithout y_Cw_draftWithout ∈ lw_ok := ⟨⟨q2549, q329, by decide +kernel, by decide +kernel, by decide +kernel⟩, q2548, q165⟩
def y_Cw_shrink : MethodName := ⟨"ClassWorks", "shrink", "(II)I"⟩
abbrev b_Cw_shrink : ByteArray := prog_1_method_68_code
theorem d_Cw_shrink_0 : decode b_Cw_shrink 0 = .ok (.aload_n 0, 1) := by decide +kernel
theorem d_Cw_shrink_1 : decode b_Cw_shrink 1 = .ok (.iload_n 1, 1) := by decide +kernel
theorem d_Cw_shrink_2 : decode b_Cw_shrink 2 = .ok (.invokevirtual 470, 3) := by decide +kernel
theorem d_Cw_shrink_5 : decode b_Cw_shrink 5 = .ok (.ifCond .eq 11, 3) := by decide +kernel
theorem d_Cw_shrink_8 : decode b_Cw_shrink 8 = .ok (.iload_n 2, 1) := by decide +kernel
theorem d_Cw_shrink_9 : decode b_Cw_shrink 9 = .ok (.sipush (-256), 3) := by decide +kernel
theorem d_Cw_shrink_12 : decode b_Cw_shrink 12 = .ok (.iand, 1) := by decide +kernel
theorem d_Cw_shrink_13 : decode b_Cw_shrink 13 = .ok (.ifCond .eq 5, 3) := by decide +kernel
theorem d_Cw_shrink_16 : decode b_Cw_shrink 16 = .ok (.iconst (-1), 1) := by decide +kernel
theorem d_Cw_shrink_17 : decode b_Cw_shrink 17 = .ok (.ireturn, 1) := by decide +kernel
theorem d_Cw_shrink_18 : decode b_Cw_shrink 18 = .ok (.aload_n 0, 1) := by decide +kernel
theorem d_Cw_shrink_19 : decode b_Cw_shrink 19 = .ok (.iload_n 1, 1) := by decide +kernel
theorem d_Cw_shrink_20 : decode b_Cw_shrink 20 = .ok (.iconst 0, 1) := by decide +kernel
theorem d_Cw_shrink_21 : decode b_Cw_shrink 21 = .ok (.invokevirtual 473, 3) := by decide +kernel
theorem d_Cw_shrink_24 : decode b_Cw_shrink 24 = .ok (.aload_n 0, 1) := by decide +kernel
theorem d_Cw_shrink_25 : decode b_Cw_shrink 25 = .ok (.getfield 52, 3) := by decide +kernel
theorem d_Cw_shrink_28 : decode b_Cw_shrink 28 = .ok (.istore_n 3, 1) := by decide +kernel
theorem d_Cw_shrink_29 : decode b_Cw_shrink 29 = .ok (.aload_n 0, 1) := by decide +kernel
theorem d_Cw_shrink_30 : decode b_Cw_shrink 30 = .ok (.getfield 55, 3) := by decide +kernel
theorem d_Cw_shrink_33 : decode b_Cw_shrink 33 = .ok (.istore 4, 2) := by decide +kernel
theorem d_Cw_shrink_35 : decode b_Cw_shrink 35 = .ok (.aload_n 0, 1) := by decide +kernel
theorem d_Cw_shrink_36 : decode b_Cw_shrink 36 = .ok (.iload_n 1, 1) := by decide +kernel
theorem d_Cw_shrink_37 : decode b_Cw_shrink 37 = .ok (.iload_n 2, 1) := by decide +kernel
theorem d_Cw_shrink_38 : decode b_Cw_shrink 38 = .ok (.invokevirtual 473, 3) := by decide +kernel
theorem d_Cw_shrink_41 : decode b_Cw_shrink 41 = .ok (.aload_n 0, 1) := by decide +kernel
theorem d_Cw_shrink_42 : decode b_Cw_shrink 42 = .ok (.getfield 52, 3) := by decide +kernel
theorem d_Cw_shrink_45 : decode b_Cw_shrink 45 = .ok (.istore 5, 2) := by decide +kernel
theorem d_Cw_shrink_47 : decode b_Cw_shrink 47 = .ok (.aload_n 0, 1) := by decide +kernel
theorem d_Cw_shrink_48 : decode b_Cw_shrink 48 = .ok (.getfield 55, 3) := by decide +kernel
theorem d_Cw_shrink_51 : decode b_Cw_shrink 51 = .ok (.istore 6, 2) := by decide +kernel
theorem d_Cw_shrink_53 : decode b_Cw_shrink 53 = .ok (.aload_n 0, 1) := by decide +kernel
theorem d_Cw_shrink_54 : decode b_Cw_shrink 54 = .ok (.iload_n 1, 1) := by decide +kernel
theorem d_Cw_shrink_55 : decode b_Cw_shrink 55 = .ok (.invokevirtual 506, 3) := by decide +kernel
theorem d_Cw_shrink_58 : decode b_Cw_shrink 58 = .ok (.iconst 2, 1) := by decide +kernel
theorem d_Cw_shrink_59 : decode b_Cw_shrink 59 = .ok (.isub, 1) := by decide +kernel
theorem d_Cw_shrink_60 : decode b_Cw_shrink 60 = .ok (.istore 7, 2) := by decide +kernel
theorem d_Cw_shrink_62 : decode b_Cw_shrink 62 = .ok (.iload 7, 2) := by decide +kernel
theorem d_Cw_shrink_64 : decode b_Cw_shrink 64 = .ok (.ifCond .lt 104, 3) := by decide +kernel
theorem d_Cw_shrink_67 : decode b_Cw_shrink 67 = .ok (.aload_n 0, 1) := by decide +kernel
theorem d_Cw_shrink_68 : decode b_Cw_shrink 68 = .ok (.iload_n 1, 1) := by decide +kernel
theorem d_Cw_shrink_69 : decode b_Cw_shrink 69 = .ok (.iload 7, 2) := by decide +kernel
theorem d_Cw_shrink_71 : decode b_Cw_shrink 71 = .ok (.invokevirtual 509, 3) := by decide +kernel
theorem d_Cw_shrink_74 : decode b_Cw_shrink 74 = .ok (.istore 8, 2) := by decide +kernel
theorem d_Cw_shrink_76 : decode b_Cw_shrink 76 = .ok (.aload_n 0, 1) := by decide +kernel
theorem d_Cw_shrink_77 : decode b_Cw_shrink 77 = .ok (.aload_n 0, 1) := by decide +kernel
theorem d_Cw_shrink_78 : decode b_Cw_shrink 78 = .ok (.getfield 49, 3) := by decide +kernel
theorem d_Cw_shrink_81 : decode b_Cw_shrink 81 = .ok (.iconst 0, 1) := by decide +kernel
theorem d_Cw_shrink_82 : decode b_Cw_shrink 82 = .ok (.iload 8, 2) := by decide +kernel
theorem d_Cw_shrink_84 : decode b_Cw_shrink 84 = .ok (.iconst 0, 1) := by decide +kernel
theorem d_Cw_shrink_85 : decode b_Cw_shrink 85 = .ok (.invokevirtual 466, 3) := by decide +kernel
theorem d_Cw_shrink_88 : decode b_Cw_shrink 88 = .ok (.aload_n 0, 1) := by decide +kernel
theorem d_Cw_shrink_89 : decode b_Cw_shrink 89 = .ok (.getfield 52, 3) := by decide +kernel
theorem d_Cw_shrink_92 : decode b_Cw_shrink 92 = .ok (.iload_n 3, 1) := by decide +kernel
theorem d_Cw_shrink_93 : decode b_Cw_shrink 93 = .ok (.if_icmp .ne 69, 3) := by decide +kernel
theorem d_Cw_shrink_96 : decode b_Cw_shrink 96 = .ok (.aload_n 0, 1) := by decide +kernel
theorem d_Cw_shrink_97 : decode b_Cw_shrink 97 = .ok (.getfield 55, 3) := by decide +kernel
theorem d_Cw_shrink_100 : decode b_Cw_shrink 100 = .ok (.iload 4, 2) := by decide +kernel
theorem d_Cw_shrink_102 : decode b_Cw_shrink 102 = .ok (.if_icmp .ne 60, 3) := by decide +kernel
theorem d_Cw_shrink_105 : decode b_Cw_shrink 105 = .ok (.aload_n 0, 1) := by decide +kernel
theorem d_Cw_shrink_106 : decode b_Cw_shrink 106 = .ok (.aload_n 0, 1) := by decide +kernel
theorem d_Cw_shrink_107 : decode b_Cw_shrink 107 = .ok (.getfield 49, 3) := by decide +kernel
theorem d_Cw_shrink_110 : decode b_Cw_shrink 110 = .ok (.iconst 0, 1) := by decide +kernel
theorem d_Cw_shrink_111 : decode b_Cw_shrink 111 = .ok (.iload 8, 2) := by decide +kernel
theorem d_Cw_shrink_113 : decode b_Cw_shrink 113 = .ok (.iload_n 2, 1) := by decide +kernel
theorem d_Cw_shrink_114 : decode b_Cw_shrink 114 = .ok (.invokevirtual 466, 3) := by decide +kernel
theorem d_Cw_shrink_117 : decode b_Cw_shrink 117 = .ok (.aload_n 0, 1) := by decide +kernel
theorem d_Cw_shrink_118 : decode b_Cw_shrink 118 = .ok (.getfield 52, 3) := by decide +kernel
theorem d_Cw_shrink_121 : decode b_Cw_shrink 121 = .ok (.iload 5, 2) := by decide +kernel
theorem d_Cw_shrink_123 : decode b_Cw_shrink 123 = .ok (.if_icmp .ne 39, 3) := by decide +kernel
theorem d_Cw_shrink_126 : decode b_Cw_shrink 126 = .ok (.aload_n 0, 1) := by decide +kernel
theorem d_Cw_shrink_127 : decode b_Cw_shrink 127 = .ok (.getfield 55, 3) := by decide +kernel
theorem d_Cw_shrink_130 : decode b_Cw_shrink 130 = .ok (.iload 6, 2) := by decide +kernel
theorem d_Cw_shrink_132 : decode b_Cw_shrink 132 = .ok (.if_icmp .ne 30, 3) := by decide +kernel
theorem d_Cw_shrink_135 : decode b_Cw_shrink 135 = .ok (.aload_n 0, 1) := by decide +kernel
theorem d_Cw_shrink_136 : decode b_Cw_shrink 136 = .ok (.getfield 49, 3) := by decide +kernel
theorem d_Cw_shrink_139 : decode b_Cw_shrink 139 = .ok (.iconst 0, 1) := by decide +kernel
theorem d_Cw_shrink_140 : decode b_Cw_shrink 140 = .ok (.aload_n 0, 1) := by decide +kernel
theorem d_Cw_shrink_141 : decode b_Cw_shrink 141 = .ok (.getfield 33, 3) := by decide +kernel
theorem d_Cw_shrink_144 : decode b_Cw_shrink 144 = .ok (.iload_n 1, 1) := by decide +kernel
theorem d_Cw_shrink_145 : decode b_Cw_shrink 145 = .ok (.sipush 1204, 3) := by decide +kernel
theorem d_Cw_shrink_148 : decode b_Cw_shrink 148 = .ok (.imul, 1) := by decide +kernel
theorem d_Cw_shrink_149 : decode b_Cw_shrink 149 = .ok (.iload 8, 2) := by decide +kernel
theorem d_Cw_shrink_151 : decode b_Cw_shrink 151 = .ok (.invokestatic 450, 3) := by decide +kernel
theorem d_Cw_shrink_154 : decode b_Cw_shrink 154 = .ok (.aload_n 0, 1) := by decide +kernel
theorem d_Cw_shrink_155 : decode b_Cw_shrink 155 = .ok (.getfield 36, 3) := by decide +kernel
theorem d_Cw_shrink_158 : decode b_Cw_shrink 158 = .ok (.iload_n 1, 1) := by decide +kernel
theorem d_Cw_shrink_159 : decode b_Cw_shrink 159 = .ok (.iload 8, 2) := by decide +kernel
theorem d_Cw_shrink_161 : decode b_Cw_shrink 161 = .ok (.iastore, 1) := by decide +kernel
theorem d_Cw_shrink_162 : decode b_Cw_shrink 162 = .ok (.iinc 7 (-1), 3) := by decide +kernel
theorem d_Cw_shrink_165 : decode b_Cw_shrink 165 = .ok (.goto (-103), 3) := by decide +kernel
theorem d_Cw_shrink_168 : decode b_Cw_shrink 168 = .ok (.aload_n 0, 1) := by decide +kernel
theorem d_Cw_shrink_169 : decode b_Cw_shrink 169 = .ok (.getfield 43, 3) := by decide +kernel
theorem d_Cw_shrink_172 : decode b_Cw_shrink 172 = .ok (.iload_n 1, 1) := by decide +kernel
theorem d_Cw_shrink_173 : decode b_Cw_shrink 173 = .ok (.iconst (-1), 1) := by decide +kernel
theorem d_Cw_shrink_174 : decode b_Cw_shrink 174 = .ok (.iastore, 1) := by decide +kernel
theorem d_Cw_shrink_175 : decode b_Cw_shrink 175 = .ok (.aload_n 0, 1) := by decide +kernel
theorem d_Cw_shrink_176 : decode b_Cw_shrink 176 = .ok (.iload_n 1, 1) := by decide +kernel
theorem d_Cw_shrink_177 : decode b_Cw_shrink 177 = .ok (.invokevirtual 506, 3) := by decide +kernel
theorem d_Cw_shrink_180 : decode b_Cw_shrink 180 = .ok (.ireturn, 1) := by decide +kernel
abbrev ra_Cw_shrink (mc ms : Nat) : Room := { frames := 12, cells := mc, slots := ms, locals := 592 }
def wja_Cw_shrink_16 (mc ms : Nat) (Post : Ly → St → Int32 → Nat → Nat → Prop) (a0 : Nat) (y_j16 : Ly) (s_j16 : St) (d_j16 e_j16 : Nat) : Prop := (d_j16 ≤ mc ∧ e_j16 ≤ ms) ∧ Post y_j16 s_j16 (-1) d_j16 e_j16
def wja_Cw_shrink_162 (mc ms : Nat) (Post : Ly → St → Int32 → Nat → Nat → Prop) (K_62 : Ly → St → Nat → Nat → Int32 → Int32 → Int32 → Int32 → Int32 → Int32 → Int32 → Prop) (a0 : Nat) (y_j162 : Ly) (s_j162 : St) (d_j162 e_j162 : Nat) (x1j162 : Int32) (x2j162 : Int32) (x3j162 : Int32) (x4j162 : Int32) (x5j162 : Int32) (x6j162 : Int32) (x7j162 : Int32) : Prop := (d_j162 ≤ mc ∧ e_j162 ≤ ms) ∧ K_62 y_j162 s_j162 d_j162 e_j162 x1j162 x2j162 x3j162 x4j162 x5j162 x6j162 (x7j162 + (-1))
def wba_Cw_shrink_62 (mc ms : Nat) (Post : Ly → St → Int32 → Nat → Nat → Prop) (K_62 : Ly → St → Nat → Nat → Int32 → Int32 → Int32 → Int32 → Int32 → Int32 → Int32 → Prop) (a0 : Nat) (y_h62 : Ly) (s_h62 : St) (d_h62 e_h62 : Nat) (x1h62 : Int32) (x2h62 : Int32) (x3h62 : Int32) (x4h62 : Int32) (x5h62 : Int32) (x6h62 : Int32) (x7h62 : Int32) : Prop := (d_h62 ≤ mc ∧ e_h62 ≤ ms) ∧ ((x7h62 < 0 → xS y_h62 s_h62 a0 13 x1h62 (-1) (fun s_21 : St => wu_Cw_lineCount y_h62 (fun (s_23 : St) (r_22 : Int32) => Post y_h62 s_23 r_22 d_h62 e_h62) s_21 a0 x1h62)) ∧ (¬ (x7h62 < 0) → wu_Cw_draftWithout y_h62 (fun (s_25 : St) (r_24 : Int32) => ∃ mc_31 ms_32 : Nat, (d_h62 + mc_31 ≤ mc ∧ e_h62 + ms_32 ≤ ms) ∧ wa_Cw_judge mc_31 ms_32 y_h62 (fun (y_28 : Ly) (s_27 : St) (d_29 e_30 : Nat) => (d_h62 + d_29 ≤ mc ∧ e_h62 + e_30 ≤ ms) ∧ ((¬ (sV s_27 a0 16) = x3h62 → wja_Cw_shrink_162 mc ms Post K_62 a0 y_28 s_27 (d_h62 + d_29) (e_h62 + e_30) x1h62 x2h62 x3h62 x4h62 x5h62 x6h62 x7h62) ∧ ((sV s_27 a0 16) = x3h62 → ((¬ (sV s_27 a0 17) = x4h62 → wja_Cw_shrink_162 mc ms Post K_62 a0 y_28 s_27 (d_h62 + d_29) (e_h62 + e_30) x1h62 x2h62 x3h62 x4h62 x5h62 x6h62 x7h62) ∧ ((sV s_27 a0 17) = x4h62 → ∃ mc_39 ms_40 : Nat, (d_h62 + d_29 + mc_39 ≤ mc ∧ e_h62 + e_30 + ms_40 ≤ ms) ∧ wa_Cw_judge mc_39 ms_40 y_28 (fun (y_36 : Ly) (s_35 : St) (d_37 e_38 : Nat) => (d_h62 + d_29 + d_37 ≤ mc ∧ e_h62 + e_30 + e_38 ≤ ms) ∧ ((¬ (sV s_35 a0 16) = x5h62 → wja_Cw_shrink_162 mc ms Post K_62 a0 y_36 s_35 (d_h62 + d_29 + d_37) (e_h62 + e_30 + e_38) x1h62 x2h62 x3h62 x4h62 x5h62 x6h62 x7h62) ∧ ((sV s_35 a0 16) = x5h62 → ((¬ (sV s_35 a0 17) = x6h62 → wja_Cw_shrink_162 mc ms Post K_62 a0 y_36 s_35 (d_h62 + d_29 + d_37) (e_h62 + e_30 + e_38) x1h62 x2h62 x3h62 x4h62 x5h62 x6h62 x7h62) ∧ ((sV s_35 a0 17) = x6h62 → xC y_36 s_35 a0 15 a0 10 .byte 0 (x1h62 * 1204) r_24 (fun s_42 : St => xS y_36 s_42 a0 11 x1h62 r_24 (fun s_43 : St => wja_Cw_shrink_162 mc ms Post K_62 a0 y_36 s_43 (d_h62 + d_29 + d_37) (e_h62 + e_30 + e_38) x1h62 x2h62 x3h62 x4h62 x5h62 x6h62 x7h62))))))) s_27 a0 a0 15 0 r_24 x2h62))))) s_25 a0 a0 15 0 r_24 0) s_h62 a0 x1h62 x7h62))
def wla_Cw_shrink_62 (mc ms : Nat) (Post : Ly → St → Int32 → Nat → Nat → Prop) (a0 : Nat) (y_h62 : Ly) (s_h62 : St) (d_h62 e_h62 : Nat) (x1h62 : Int32) (x2h62 : Int32) (x3h62 : Int32) (x4h62 : Int32) (x5h62 : Int32) (x6h62 : Int32) (x7h62 : Int32) : Prop := ∃ (I : Ly → St → Nat → Nat → Int32 → Int32 → Int32 → Int32 → Int32 → Int32 → Int32 → Prop) (μ : Ly → St → Nat → Nat → Int32 → Int32 → Int32 → Int32 → Int32 → Int32 → Int32 → Nat), I y_h62 s_h62 d_h62 e_h62 x1h62 x2h62 x3h62 x4h62 x5h62 x6h62 x7h62 ∧ ∀ (u1 : Ly) (u2 : St) (u3 u4 : Nat) (t0 : Int32) (t1 : Int32) (t2 : Int32) (t3 : Int32) (t4 : Int32) (t5 : Int32) (t6 : Int32), I u1 u2 u3 u4 t0 t1 t2 t3 t4 t5 t6 → wba_Cw_shrink_62 mc ms Post (fun z1 z2 z3 z4 t0q t1q t2q t3q t4q t5q t6q => I z1 z2 z3 z4 t0q t1q t2q t3q t4q t5q t6q ∧ μ z1 z2 z3 z4 t0q t1q t2q t3q t4q t5q t6q < μ u1 u2 u3 u4 t0 t1 t2 t3 t4 t5 t6) a0 u1 u2 u3 u4 t0 t1 t2 t3 t4 t5 t6
def wa_Cw_shrink (mc ms : Nat) (y : Ly) (Post : Ly → St → Int32 → Nat → Nat → Prop) (σ : St) (a0 : Nat) (v1 : Int32) (v2 : Int32) : Prop := wu_Cw_isTrial y (fun (s_2 : St) (r_1 : Int32) => ((r_1 = 0 → wja_Cw_shrink_16 mc ms Post a0 y s_2 0 0) ∧ (¬ (r_1 = 0) → (((v2 &&& (-256)) = 0 → ∃ mc_8 ms_9 : Nat, (0 + mc_8 ≤ mc ∧ 0 + ms_9 ≤ ms) ∧ wa_Cw_judgeTrial mc_8 ms_9 y (fun (y_5 : Ly) (s_4 : St) (d_6 e_7 : Nat) => (0 + d_6 ≤ mc ∧ 0 + e_7 ≤ ms) ∧ ∃ mc_16 ms_17 : Nat, (0 + d_6 + mc_16 ≤ mc ∧ 0 + e_7 + ms_17 ≤ ms) ∧ wa_Cw_judgeTrial mc_16 ms_17 y_5 (fun (y_13 : Ly) (s_12 : St) (d_14 e_15 : Nat) => (0 + d_6 + d_14 ≤ mc ∧ 0 + e_7 + e_15 ≤ ms) ∧ wu_Cw_lineCount y_13 (fun (s_20 : St) (r_19 : Int32) => wla_Cw_shrink_62 mc ms Post a0 y_13 s_20 (0 + d_6 + d_14) (0 + e_7 + e_15) v1 v2 (sV s_4 a0 16) (sV s_4 a0 17) (sV s_12 a0 16) (sV s_12 a0 17) (r_19 - 2)) s_12 a0 v1) s_4 a0 v1 v2) s_2 a0 v1 0) ∧ (¬ ((v2 &&& (-256)) = 0) → wja_Cw_shrink_16 mc ms Post a0 y s_2 0 0))))) σ a0 v1
set_option maxHeartbeats 4000000 in
set_option maxRecDepth 100000 in
theorem ca_Cw_shrink (l : Launch) (D : va_G) (g : Nat → ClassId) (F : Nat → SL) (sl : List SL) (hF : SOK F sl) (ad : Nat → Nat) (mc ms : Nat) (y : Ly) (Post : Ly → St → Int32 → Nat → Nat → Prop) (σ : St) (a0 : Nat) (v1 : Int32) (v2 : Int32) (sz uz : Nat) (h_a0 : cl a0 = 11) (h : wa_Cw_shrink mc ms y Post σ a0 v1 v2) : Met l y_Cw_shrink (mw y_Cw_shrink b_Cw_shrink 9 (some .int)) (ra_Cw_shrink mc ms) (PCu g D sl [.ref (ad a0), .int v1, .int v2] sz uz (ws g ad y σ)) (va_Qi (fun (r : Int32) (u : Ly × St × Nat × Nat) => Post u.1 u.2.1 r u.2.2.1 u.2.2.2) (QU D (va_A (ws g ad y σ) sz) (fun u => ws g ad u.1 u.2.1) sz uz (fun u => u.2.2.1) (fun u => u.2.2.2)) (va_A (ws g ad y σ) sz)) mc ms (va_A (ws g ad y σ) sz) := by
  refine ofIu (by decide +kernel) (Nat.le_of_ble_eq_true rfl) ?_
  intro p e s m args below meth c A Q ls H locs G hsz hP hD hS hl hret
  subst hsz
  have hl : lv_has ls 9 [(0, .ref (ad a0)), (1, .int v1), (2, .int v2)] := hl
  have hd : 0 ≤ mc ∧ 0 ≤ ms := ⟨Nat.zero_le _, Nat.zero_le _⟩
  unfold wa_Cw_shrink at h
  refine lv_aload_n G.1 G.2.1 d_Cw_shrink_0 rfl (lv_at hl 0 rfl) ?_
  refine lv_iload_n G.1 G.2.1 d_Cw_shrink_1 rfl (lv_at hl 1 rfl) ?_
  refine ucVi (As := [.int v1]) (rest := []) G hP hD hS (cu_Cw_isTrial l D g ad y _ σ a0 v1 H.size h_a0 h) w9_Cw_isTrial q2473 ⟨Nat.le_of_ble_eq_true rfl, Nat.le_of_ble_eq_true rfl⟩ rfl rfl h_a0 (q := (RCw, TCw, 20)) rfl rfl hl.1 rfl (Nat.le_of_ble_eq_true rfl) rfl hd d_Cw_shrink_2 (fun r_1 s_2 H locs h hP hD hS => ?_)
  have J_16 : ∀ (y_j16 : Ly) (s_j16 : St) (d_j16 e_j16 : Nat) (H : Heap) (locs : List Loc), wja_Cw_shrink_16 mc ms Post a0 y_j16 s_j16 d_j16 e_j16 → va_P D CL (ws g ad y_j16 s_j16) H → va_D A (ws g ad y_j16 s_j16) → va_S A s.heap H locs → ∀ ls, lv_has ls 9 [] → W p l e (ra_Cw_shrink mc ms) s m args below meth c H locs d_j16 e_j16 Q (F0 m 16 ls []) := by
    intro y_j16 s_j16 d_j16 e_j16 H locs h hP hD hS ls hl
    unfold wja_Cw_shrink_16 at h
    obtain ⟨hd, h⟩ := h
    refine lv_iconst (v := (-1)) G.1 G.2.1 d_Cw_shrink_16 (by decide) ?_
    exact hret _ (y_j16, s_j16, d_j16, e_j16) _ _ _ _ _ ls h hP hD hS (Nat.le_refl _) (Nat.le_refl _) hd.1 hd.2 d_Cw_shrink_17
  refine lv_if_eq (tgt := 16) G.1 G.2.1 d_Cw_shrink_5 (by decide) (fun c5 => ?_) (fun c5 => ?_)
  · skip
    have h := h.1 c5
    exact J_16 y s_2 0 0 H locs h hP hD hS ls (lv_sub hl [] rfl)
  · skip
    have h := h.2 c5
    refine lv_iload_n G.1 G.2.1 d_Cw_shrink_8 rfl (lv_at hl 2 rfl) ?_
    refine lv_sipush (v := (-256)) G.1 G.2.1 d_Cw_shrink_9 (by decide) ?_
    refine lv_iand G.1 G.2.1 d_Cw_shrink_12 ?_
    refine lv_if_eq (tgt := 18) G.1 G.2.1 d_Cw_shrink_13 (by decide) (fun c13 => ?_) (fun c13 => ?_)
    · skip
      have h := h.1 c13
      refine lv_aload_n G.1 G.2.1 d_Cw_shrink_18 rfl (lv_at hl 0 rfl) ?_
      refine lv_iload_n G.1 G.2.1 d_Cw_shrink_19 rfl (lv_at hl 1 rfl) ?_
      refine lv_iconst (v := 0) G.1 G.2.1 d_Cw_shrink_20 (by decide) ?_
      refine W.eq (g2 := F0 m 21 ls [.int 0, .int v1, .ref (ad a0)]) rfl ?_
      obtain ⟨mc_8, ms_9, hr_10, h⟩ := h
      refine utVv (As := [.int v1, .int 0]) (rest := []) G hP hD hS (ca_Cw_judgeTrial l D g F sl hF ad mc_8 ms_9 y _ s_2 a0 v1 0 H.size (us H) h_a0 h) w9_Cw_judgeTrial q2477 ⟨Nat.le_of_ble_eq_true rfl, Nat.le_of_ble_eq_true rfl⟩ rfl rfl h_a0 (q := (RCw, TCw, 20)) rfl rfl hl.1 rfl (Nat.le_of_ble_eq_true rfl) rfl hr_10 d_Cw_shrink_21 (fun y_5 s_4 d_6 e_7 H locs h hP hD hS => ?_)
      obtain ⟨hd, h⟩ := h
      refine lv_aload_n G.1 G.2.1 d_Cw_shrink_24 rfl (lv_at hl 0 rfl) ?_
      refine ugf (v := .int (sV s_4 a0 16)) G hP h_a0 iCw rfl 16 (by decide) rfl q1150 rfl rfl d_Cw_shrink_25 ?_
      refine lv_istore_n (lv' := [(3, .int (sV s_4 a0 16)), (0, .ref (ad a0)), (1, .int v1), (2, .int v2)]) G.1 G.2.1 d_Cw_shrink_28 rfl hl (by decide) rfl (fun ls hl => ?_)
      refine lv_aload_n G.1 G.2.1 d_Cw_shrink_29 rfl (lv_at hl 1 rfl) ?_
      refine ugf (v := .int (sV s_4 a0 17)) G hP h_a0 iCw rfl 17 (by decide) rfl q1151 rfl rfl d_Cw_shrink_30 ?_
      refine lv_istore (lv' := [(4, .int (sV s_4 a0 17)), (3, .int (sV s_4 a0 16)), (0, .ref (ad a0)), (1, .int v1), (2, .int v2)]) G.1 G.2.1 d_Cw_shrink_33 hl (by decide) rfl (fun ls hl => ?_)
      refine lv_aload_n G.1 G.2.1 d_Cw_shrink_35 rfl (lv_at hl 2 rfl) ?_
      refine lv_iload_n G.1 G.2.1 d_Cw_shrink_36 rfl (lv_at hl 3 rfl) ?_
      refine lv_iload_n G.1 G.2.1 d_Cw_shrink_37 rfl (lv_at hl 4 rfl) ?_
      obtain ⟨mc_16, ms_17, hr_18, h⟩ := h
      refine utVv (As := [.int v1, .int v2]) (rest := []) G hP hD hS (ca_Cw_judgeTrial l D g F sl hF ad mc_16 ms_17 y_5 _ s_4 a0 v1 v2 H.size (us H) h_a0 h) w9_Cw_judgeTrial q2477 ⟨Nat.le_of_ble_eq_true rfl, Nat.le_of_ble_eq_true rfl⟩ rfl rfl h_a0 (q := (RCw, TCw, 20)) rfl rfl hl.1 rfl (Nat.le_of_ble_eq_true rfl) rfl hr_18 d_Cw_shrink_38 (fun y_13 s_12 d_14 e_15 H locs h hP hD hS => ?_)
      obtain ⟨hd, h⟩ := h
      refine lv_aload_n G.1 G.2.1 d_Cw_shrink_41 rfl (lv_at hl 2 rfl) ?_
      refine W.eq (g2 := F0 m 42 ls [.ref (ad a0)]) rfl ?_
      refine ugf (v := .int (sV s_12 a0 16)) G hP h_a0 iCw rfl 16 (by decide) rfl q1150 rfl rfl d_Cw_shrink_42 ?_
      refine lv_istore (lv' := [(5, .int (sV s_12 a0 16)), (4, .int (sV s_4 a0 17)), (3, .int (sV s_4 a0 16)), (0, .ref (ad a0)), (1, .int v1), (2, .int v2)]) G.1 G.2.1 d_Cw_shrink_45 hl (by decide) rfl (fun ls hl => ?_)
      refine lv_aload_n G.1 G.2.1 d_Cw_shrink_47 rfl (lv_at hl 3 rfl) ?_
      refine ugf (v := .int (sV s_12 a0 17)) G hP h_a0 iCw rfl 17 (by decide) rfl q1151 rfl rfl d_Cw_shrink_48 ?_
      refine lv_istore (lv' := [(6, .int (sV s_12 a0 17)), (5, .int (sV s_12 a0 16)), (4, .int (sV s_4 a0 17)), (3, .int (sV s_4 a0 16)), (0, .ref (ad a0)), (1, .int v1), (2, .int v2)]) G.1 G.2.1 d_Cw_shrink_51 hl (by decide) rfl (fun ls hl => ?_)
      refine lv_aload_n G.1 G.2.1 d_Cw_shrink_53 rfl (lv_at hl 4 rfl) ?_
      refine lv_iload_n G.1 G.2.1 d_Cw_shrink_54 rfl (lv_at hl 5 rfl) ?_
      refine ucVi (As := [.int v1]) (rest := []) G hP hD hS (cu_Cw_lineCount l D g ad y_13 _ s_12 a0 v1 H.size h_a0 h) w9_Cw_lineCount q2542 ⟨Nat.le_of_ble_eq_true rfl, Nat.le_of_ble_eq_true rfl⟩ rfl rfl h_a0 (q := (RCw, TCw, 20)) rfl rfl hl.1 rfl (Nat.le_of_ble_eq_true rfl) rfl hd d_Cw_shrink_55 (fun r_19 s_20 H locs h hP hD hS => ?_)
      refine lv_iconst (v := 2) G.1 G.2.1 d_Cw_shrink_58 (by decide) ?_
      refine lv_isub G.1 G.2.1 d_Cw_shrink_59 ?_
      refine lv_istore (lv' := [(7, .int (r_19 - 2)), (6, .int (sV s_12 a0 17)), (5, .int (sV s_12 a0 16)), (4, .int (sV s_4 a0 17)), (3, .int (sV s_4 a0 16)), (0, .ref (ad a0)), (1, .int v1), (2, .int v2)]) G.1 G.2.1 d_Cw_shrink_60 hl (by decide) rfl (fun ls hl => ?_)
      unfold wla_Cw_shrink_62 at h
      obtain ⟨I_62, μ_62, hI_62, hB_62⟩ := h
      have L_62 : ∀ (n_62 : Nat) (y_h62 : Ly) (s_h62 : St) (d_h62 e_h62 : Nat) (x1h62 : Int32) (x2h62 : Int32) (x3h62 : Int32) (x4h62 : Int32) (x5h62 : Int32) (x6h62 : Int32) (x7h62 : Int32), μ_62 y_h62 s_h62 d_h62 e_h62 x1h62 x2h62 x3h62 x4h62 x5h62 x6h62 x7h62 < n_62 → I_62 y_h62 s_h62 d_h62 e_h62 x1h62 x2h62 x3h62 x4h62 x5h62 x6h62 x7h62 → ∀ (H : Heap) (locs : List Loc), va_P D CL (ws g ad y_h62 s_h62) H → va_D A (ws g ad y_h62 s_h62) → va_S A s.heap H locs → ∀ ls, lv_has ls 9 [(0, .ref (ad a0)), (1, .int x1h62), (2, .int x2h62), (3, .int x3h62), (4, .int x4h62), (5, .int x5h62), (6, .int x6h62), (7, .int x7h62)] → W p l e (ra_Cw_shrink mc ms) s m args below meth c H locs d_h62 e_h62 Q (F0 m 62 ls []) := by
        intro n_62
        induction n_62 with
        | zero => intro y_h62 s_h62 d_h62 e_h62 x1h62 x2h62 x3h62 x4h62 x5h62 x6h62 x7h62 hμ; exact absurd hμ (Nat.not_lt_zero _)
        | succ n_62 ih_62 =>
          intro y_h62 s_h62 d_h62 e_h62 x1h62 x2h62 x3h62 x4h62 x5h62 x6h62 x7h62 hμ_62 hJ H locs hP hD hS ls hl
          obtain ⟨K_62, hK_62, h⟩ : ∃ K : Ly → St → Nat → Nat → Int32 → Int32 → Int32 → Int32 → Int32 → Int32 → Int32 → Prop, (∀ z1 z2 z3 z4 (t0 : Int32) (t1 : Int32) (t2 : Int32) (t3 : Int32) (t4 : Int32) (t5 : Int32) (t6 : Int32), K z1 z2 z3 z4 t0 t1 t2 t3 t4 t5 t6 → I_62 z1 z2 z3 z4 t0 t1 t2 t3 t4 t5 t6 ∧ μ_62 z1 z2 z3 z4 t0 t1 t2 t3 t4 t5 t6 < μ_62 y_h62 s_h62 d_h62 e_h62 x1h62 x2h62 x3h62 x4h62 x5h62 x6h62 x7h62) ∧ wba_Cw_shrink_62 mc ms Post K a0 y_h62 s_h62 d_h62 e_h62 x1h62 x2h62 x3h62 x4h62 x5h62 x6h62 x7h62 := ⟨_, fun _ _ _ _ _ _ _ _ _ _ _ h => h, hB_62 y_h62 s_h62 d_h62 e_h62 x1h62 x2h62 x3h62 x4h62 x5h62 x6h62 x7h62 hJ⟩
          unfold wba_Cw_shrink_62 at h
          obtain ⟨hd, h⟩ := h
          refine lv_iload G.1 G.2.1 d_Cw_shrink_62 (lv_at hl 7 rfl) ?_
          refine lv_if_lt (tgt := 168) G.1 G.2.1 d_Cw_shrink_64 (by decide) (fun c64 => ?_) (fun c64 => ?_)
          · skip
            have h := h.1 c64
            refine lv_aload_n G.1 G.2.1 d_Cw_shrink_168 rfl (lv_at hl 0 rfl) ?_
            refine ugf (v := .ref (yP y_h62 a0 13)) G hP h_a0 iCw rfl 13 (by decide) rfl q1147 rfl rfl d_Cw_shrink_169 ?_
            refine lv_iload_n G.1 G.2.1 d_Cw_shrink_172 rfl (lv_at hl 1 rfl) ?_
            refine lv_iconst (v := (-1)) G.1 G.2.1 d_Cw_shrink_173 (by decide) ?_
            refine uiast G hP hD hS (kdp h_a0 rfl) (typ h_a0 rfl) h d_Cw_shrink_174 (fun s_21 H locs h hP hD hS => ?_)
            refine lv_aload_n G.1 G.2.1 d_Cw_shrink_175 rfl (lv_at hl 0 rfl) ?_
            refine lv_iload_n G.1 G.2.1 d_Cw_shrink_176 rfl (lv_at hl 1 rfl) ?_
            refine ucVi (As := [.int x1h62]) (rest := []) G hP hD hS (cu_Cw_lineCount l D g ad y_h62 _ s_21 a0 x1h62 H.size h_a0 h) w9_Cw_lineCount q2542 ⟨Nat.le_of_ble_eq_true rfl, Nat.le_of_ble_eq_true rfl⟩ rfl rfl h_a0 (q := (RCw, TCw, 20)) rfl rfl hl.1 rfl (Nat.le_of_ble_eq_true rfl) rfl hd d_Cw_shrink_177 (fun r_22 s_23 H locs h hP hD hS => ?_)
            exact hret _ (y_h62, s_23, d_h62, e_h62) _ _ _ _ _ ls h hP hD hS (Nat.le_refl _) (Nat.le_refl _) hd.1 hd.2 d_Cw_shrink_180
          · skip
            have h := h.2 c64
            refine lv_aload_n G.1 G.2.1 d_Cw_shrink_67 rfl (lv_at hl 0 rfl) ?_
            refine lv_iload_n G.1 G.2.1 d_Cw_shrink_68 rfl (lv_at hl 1 rfl) ?_
            refine lv_iload G.1 G.2.1 d_Cw_shrink_69 (lv_at hl 7 rfl) ?_
            refine ucVi (As := [.int x1h62, .int x7h62]) (rest := []) G hP hD hS (cu_Cw_draftWithout l D g ad y_h62 _ s_h62 a0 x1h62 x7h62 H.size h_a0 h) w9_Cw_draftWithout q2546 ⟨Nat.le_of_ble_eq_true rfl, Nat.le_of_ble_eq_true rfl⟩ rfl rfl h_a0 (q := (RCw, TCw, 20)) rfl rfl hl.1 rfl (Nat.le_of_ble_eq_true rfl) rfl hd d_Cw_shrink_71 (fun r_24 s_25 H locs h hP hD hS => ?_)
            refine lv_istore (lv' := [(8, .int r_24), (0, .ref (ad a0)), (1, .int x1h62), (2, .int x2h62), (3, .int x3h62), (4, .int x4h62), (5, .int x5h62), (6, .int x6h62), (7, .int x7h62)]) G.1 G.2.1 d_Cw_shrink_74 hl (by decide) rfl (fun ls hl => ?_)
            refine lv_aload_n G.1 G.2.1 d_Cw_shrink_76 rfl (lv_at hl 1 rfl) ?_
            refine lv_aload_n G.1 G.2.1 d_Cw_shrink_77 rfl (lv_at hl 1 rfl) ?_
            refine ugf (v := .ref (yP y_h62 a0 15)) G hP h_a0 iCw rfl 15 (by decide) rfl q1149 rfl rfl d_Cw_shrink_78 ?_
            refine lv_iconst (v := 0) G.1 G.2.1 d_Cw_shrink_81 (by decide) ?_
            refine W.eq (g2 := F0 m 82 ls [.int 0, .ref (yP y_h62 a0 15), .ref (ad a0)]) rfl ?_
            refine lv_iload G.1 G.2.1 d_Cw_shrink_82 (lv_at hl 0 rfl) ?_
            refine lv_iconst (v := 0) G.1 G.2.1 d_Cw_shrink_84 (by decide) ?_
            obtain ⟨mc_31, ms_32, hr_33, h⟩ := h
            refine utVv (As := [.ref (yP y_h62 a0 15), .int 0, .int r_24, .int 0]) (rest := []) G hP hD hS (ca_Cw_judge l D g F sl hF ad mc_31 ms_32 y_h62 _ s_25 a0 a0 15 0 r_24 0 H.size (us H) h_a0 ⟨(kdp h_a0 rfl), (typ h_a0 rfl)⟩ h) w9_Cw_judge q2481 ⟨Nat.le_of_ble_eq_true rfl, Nat.le_of_ble_eq_true rfl⟩ rfl rfl h_a0 (q := (RCw, TCw, 20)) rfl rfl hl.1 rfl (Nat.le_of_ble_eq_true rfl) rfl hr_33 d_Cw_shrink_85 (fun y_28 s_27 d_29 e_30 H locs h hP hD hS => ?_)
            obtain ⟨hd, h⟩ := h
            refine lv_aload_n G.1 G.2.1 d_Cw_shrink_88 rfl (lv_at hl 1 rfl) ?_
            refine ugf (v := .int (sV s_27 a0 16)) G hP h_a0 iCw rfl 16 (by decide) rfl q1150 rfl rfl d_Cw_shrink_89 ?_
            refine lv_iload_n G.1 G.2.1 d_Cw_shrink_92 rfl (lv_at hl 4 rfl) ?_
            have J_162 : ∀ (y_j162 : Ly) (s_j162 : St) (d_j162 e_j162 : Nat) (x1j162 : Int32) (x2j162 : Int32) (x3j162 : Int32) (x4j162 : Int32) (x5j162 : Int32) (x6j162 : Int32) (x7j162 : Int32) (H : Heap) (locs : List Loc), wja_Cw_shrink_162 mc ms Post K_62 a0 y_j162 s_j162 d_j162 e_j162 x1j162 x2j162 x3j162 x4j162 x5j162 x6j162 x7j162 → va_P D CL (ws g ad y_j162 s_j162) H → va_D A (ws g ad y_j162 s_j162) → va_S A s.heap H locs → ∀ ls, lv_has ls 9 [(0, .ref (ad a0)), (1, .int x1j162), (2, .int x2j162), (3, .int x3j162), (4, .int x4j162), (5, .int x5j162), (6, .int x6j162), (7, .int x7j162)] → W p l e (ra_Cw_shrink mc ms) s m args below meth c H locs d_j162 e_j162 Q (F0 m 162 ls []) := by
              intro y_j162 s_j162 d_j162 e_j162 x1j162 x2j162 x3j162 x4j162 x5j162 x6j162 x7j162 H locs h hP hD hS ls hl
              unfold wja_Cw_shrink_162 at h
              obtain ⟨hd, h⟩ := h
              refine lv_iinc (v := x7j162 + (-1)) (lv' := [(7, .int (x7j162 + (-1))), (0, .ref (ad a0)), (1, .int x1j162), (2, .int x2j162), (3, .int x3j162), (4, .int x4j162), (5, .int x5j162), (6, .int x6j162)]) G.1 G.2.1 d_Cw_shrink_162 hl (k := 7) rfl rfl (by decide) rfl (fun ls hl => ?_)
              refine lv_goto (tgt := 62) G.1 G.2.1 d_Cw_shrink_165 (by decide) ?_
              have h := hK_62 y_j162 s_j162 d_j162 e_j162 x1j162 x2j162 x3j162 x4j162 x5j162 x6j162 (x7j162 + (-1)) h
              exact ih_62 y_j162 s_j162 d_j162 e_j162 x1j162 x2j162 x3j162 x4j162 x5j162 x6j162 (x7j162 + (-1)) (Nat.lt_of_lt_of_le h.2 (Nat.le_of_lt_succ hμ_62)) h.1 H locs hP hD hS ls (lv_sub hl [1, 2, 3, 4, 5, 6, 7, 0] rfl)
            refine lv_icmp_ne (tgt := 162) G.1 G.2.1 d_Cw_shrink_93 (by decide) (fun c93 => ?_) (fun c93 => ?_)
            · skip
              have h := h.1 c93
              exact J_162 y_28 s_27 (d_h62 + d_29) (e_h62 + e_30) x1h62 x2h62 x3h62 x4h62 x5h62 x6h62 x7h62 H locs h hP hD hS ls (lv_sub hl [1, 2, 3, 4, 5, 6, 7, 8] rfl)
            · skip
              have h := h.2 c93
              refine lv_aload_n G.1 G.2.1 d_Cw_shrink_96 rfl (lv_at hl 1 rfl) ?_
              refine ugf (v := .int (sV s_27 a0 17)) G hP h_a0 iCw rfl 17 (by decide) rfl q1151 rfl rfl d_Cw_shrink_97 ?_
              refine lv_iload G.1 G.2.1 d_Cw_shrink_100 (lv_at hl 5 rfl) ?_
              refine lv_icmp_ne (tgt := 162) G.1 G.2.1 d_Cw_shrink_102 (by decide) (fun c102 => ?_) (fun c102 => ?_)
              · skip
                have h := h.1 c102
                exact J_162 y_28 s_27 (d_h62 + d_29) (e_h62 + e_30) x1h62 x2h62 x3h62 x4h62 x5h62 x6h62 x7h62 H locs h hP hD hS ls (lv_sub hl [1, 2, 3, 4, 5, 6, 7, 8] rfl)
              · skip
                have h := h.2 c102
                refine lv_aload_n G.1 G.2.1 d_Cw_shrink_105 rfl (lv_at hl 1 rfl) ?_
                refine W.eq (g2 := F0 m 106 ls [.ref (ad a0)]) rfl ?_
                refine lv_aload_n G.1 G.2.1 d_Cw_shrink_106 rfl (lv_at hl 1 rfl) ?_
                refine ugf (v := .ref (yP y_28 a0 15)) G hP h_a0 iCw rfl 15 (by decide) rfl q1149 rfl rfl d_Cw_shrink_107 ?_
                refine lv_iconst (v := 0) G.1 G.2.1 d_Cw_shrink_110 (by decide) ?_
                refine lv_iload G.1 G.2.1 d_Cw_shrink_111 (lv_at hl 0 rfl) ?_
                refine lv_iload_n G.1 G.2.1 d_Cw_shrink_113 rfl (lv_at hl 3 rfl) ?_
                obtain ⟨mc_39, ms_40, hr_41, h⟩ := h
                refine utVv (As := [.ref (yP y_28 a0 15), .int 0, .int r_24, .int x2h62]) (rest := []) G hP hD hS (ca_Cw_judge l D g F sl hF ad mc_39 ms_40 y_28 _ s_27 a0 a0 15 0 r_24 x2h62 H.size (us H) h_a0 ⟨(kdp h_a0 rfl), (typ h_a0 rfl)⟩ h) w9_Cw_judge q2481 ⟨Nat.le_of_ble_eq_true rfl, Nat.le_of_ble_eq_true rfl⟩ rfl rfl h_a0 (q := (RCw, TCw, 20)) rfl rfl hl.1 rfl (Nat.le_of_ble_eq_true rfl) rfl hr_41 d_Cw_shrink_114 (fun y_36 s_35 d_37 e_38 H locs h hP hD hS => ?_)
                obtain ⟨hd, h⟩ := h
                refine lv_aload_n G.1 G.2.1 d_Cw_shrink_117 rfl (lv_at hl 1 rfl) ?_
                refine ugf (v := .int (sV s_35 a0 16)) G hP h_a0 iCw rfl 16 (by decide) rfl q1150 rfl rfl d_Cw_shrink_118 ?_
                refine lv_iload G.1 G.2.1 d_Cw_shrink_121 (lv_at hl 6 rfl) ?_
                refine lv_icmp_ne (tgt := 162) G.1 G.2.1 d_Cw_shrink_123 (by decide) (fun c123 => ?_) (fun c123 => ?_)
                · skip
                  have h := h.1 c123
                  exact J_162 y_36 s_35 (d_h62 + d_29 + d_37) (e_h62 + e_30 + e_38) x1h62 x2h62 x3h62 x4h62 x5h62 x6h62 x7h62 H locs h hP hD hS ls (lv_sub hl [1, 2, 3, 4, 5, 6, 7, 8] rfl)
                · skip
                  have h := h.2 c123
                  refine lv_aload_n G.1 G.2.1 d_Cw_shrink_126 rfl (lv_at hl 1 rfl) ?_
                  refine ugf (v := .int (sV s_35 a0 17)) G hP h_a0 iCw rfl 17 (by decide) rfl q1151 rfl rfl d_Cw_shrink_127 ?_
                  refine W.eq (g2 := F0 m 130 ls [.int (sV s_35 a0 17)]) rfl ?_
                  refine lv_iload G.1 G.2.1 d_Cw_shrink_130 (lv_at hl 7 rfl) ?_
                  refine lv_icmp_ne (tgt := 162) G.1 G.2.1 d_Cw_shrink_132 (by decide) (fun c132 => ?_) (fun c132 => ?_)
                  · skip
                    have h := h.1 c132
                    exact J_162 y_36 s_35 (d_h62 + d_29 + d_37) (e_h62 + e_30 + e_38) x1h62 x2h62 x3h62 x4h62 x5h62 x6h62 x7h62 H locs h hP hD hS ls (lv_sub hl [1, 2, 3, 4, 5, 6, 7, 8] rfl)
                  · skip
                    have h := h.2 c132
                    refine lv_aload_n G.1 G.2.1 d_Cw_shrink_135 rfl (lv_at hl 1 rfl) ?_
                    refine ugf (v := .ref (yP y_36 a0 15)) G hP h_a0 iCw rfl 15 (by decide) rfl q1149 rfl rfl d_Cw_shrink_136 ?_
                    refine lv_iconst (v := 0) G.1 G.2.1 d_Cw_shrink_139 (by decide) ?_
                    refine lv_aload_n G.1 G.2.1 d_Cw_shrink_140 rfl (lv_at hl 1 rfl) ?_
                    refine ugf (v := .ref (yP y_36 a0 10)) G hP h_a0 iCw rfl 10 (by decide) rfl q1144 rfl rfl d_Cw_shrink_141 ?_
                    refine lv_iload_n G.1 G.2.1 d_Cw_shrink_144 rfl (lv_at hl 2 rfl) ?_
                    refine lv_sipush (v := 1204) G.1 G.2.1 d_Cw_shrink_145 (by decide) ?_
                    refine lv_imul G.1 G.2.1 d_Cw_shrink_148 ?_
                    refine lv_iload G.1 G.2.1 d_Cw_shrink_149 (lv_at hl 0 rfl) ?_
                    refine ucpy G hP hD hS (kdp h_a0 rfl) (typ h_a0 rfl) (kdp h_a0 rfl) (typ h_a0 rfl) rfl rfl h hl.1 q2468 q488 q487 q338 (Nat.le_of_ble_eq_true rfl) (Nat.le_of_ble_eq_true rfl) d_Cw_shrink_151 (fun s_42 H locs h hP hD hS => ?_)
                    refine W.eq (g2 := F0 m 154 ls []) rfl ?_
                    refine lv_aload_n G.1 G.2.1 d_Cw_shrink_154 rfl (lv_at hl 1 rfl) ?_
                    refine ugf (v := .ref (yP y_36 a0 11)) G hP h_a0 iCw rfl 11 (by decide) rfl q1145 rfl rfl d_Cw_shrink_155 ?_
                    refine lv_iload_n G.1 G.2.1 d_Cw_shrink_158 rfl (lv_at hl 2 rfl) ?_
                    refine lv_iload G.1 G.2.1 d_Cw_shrink_159 (lv_at hl 0 rfl) ?_
                    refine uiast G hP hD hS (kdp h_a0 rfl) (typ h_a0 rfl) h d_Cw_shrink_161 (fun s_43 H locs h hP hD hS => ?_)
                    exact J_162 y_36 s_43 (d_h62 + d_29 + d_37) (e_h62 + e_30 + e_38) x1h62 x2h62 x3h62 x4h62 x5h62 x6h62 x7h62 H locs h hP hD hS ls (lv_sub hl [1, 2, 3, 4, 5, 6, 7, 8] rfl)
      exact L_62 _ y_13 s_20 (0 + d_6 + d_14) (0 + e_7 + e_15) v1 v2 (sV s_4 a0 16) (sV s_4 a0 17) (sV s_12 a0 16) (sV s_12 a0 17) (r_19 - 2) (Nat.lt_succ_self _) hI_62 H locs hP hD hS ls (lv_sub hl [5, 6, 7, 4, 3, 2, 1, 0] rfl)
    · skip
      have h := h.2 c13
      exact J_16 y s_2 0 0 H locs h hP hD hS ls (lv_sub hl [] rfl)
