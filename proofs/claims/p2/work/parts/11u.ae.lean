def y_Wr_beforeWord : MethodName := ⟨"ClassWorks$Writer", "beforeWord", "()V"⟩
abbrev b_Wr_beforeWord : ByteArray := prog_12_method_5_code
theorem d_Wr_beforeWord_0 : decode b_Wr_beforeWord 0 = .ok (.aload_n 0, 1) := by decide +kernel
theorem d_Wr_beforeWord_1 : decode b_Wr_beforeWord 1 = .ok (.getfield 27, 3) := by decide +kernel
theorem d_Wr_beforeWord_4 : decode b_Wr_beforeWord 4 = .ok (.ifCond .eq 13, 3) := by decide +kernel
theorem d_Wr_beforeWord_7 : decode b_Wr_beforeWord 7 = .ok (.aload_n 0, 1) := by decide +kernel
theorem d_Wr_beforeWord_8 : decode b_Wr_beforeWord 8 = .ok (.getfield 14, 3) := by decide +kernel
theorem d_Wr_beforeWord_11 : decode b_Wr_beforeWord 11 = .ok (.bipush 32, 2) := by decide +kernel
theorem d_Wr_beforeWord_13 : decode b_Wr_beforeWord 13 = .ok (.invokevirtual 70, 3) := by decide +kernel
theorem d_Wr_beforeWord_16 : decode b_Wr_beforeWord 16 = .ok (.pop, 1) := by decide +kernel
theorem d_Wr_beforeWord_17 : decode b_Wr_beforeWord 17 = .ok (.aload_n 0, 1) := by decide +kernel
theorem d_Wr_beforeWord_18 : decode b_Wr_beforeWord 18 = .ok (.iconst 1, 1) := by decide +kernel
theorem d_Wr_beforeWord_19 : decode b_Wr_beforeWord 19 = .ok (.putfield 27, 3) := by decide +kernel
theorem d_Wr_beforeWord_22 : decode b_Wr_beforeWord 22 = .ok (.return_, 1) := by decide +kernel
abbrev ra_Wr_beforeWord (mc ms : Nat) : Room := { frames := 5, cells := mc, slots := ms, locals := 421 }
def wja_Wr_beforeWord_17 (mc ms : Nat) (Post : Ly → St → Nat → Nat → Prop) (a0 : Nat) (y_j17 : Ly) (s_j17 : St) (d_j17 e_j17 : Nat) : Prop := (d_j17 ≤ mc ∧ e_j17 ≤ ms) ∧ nb 1 ∧ xP (uV s_j17 a0 5 1) (fun s_2 : St => Post y_j17 s_2 d_j17 e_j17)
def wa_Wr_beforeWord (mc ms : Nat) (y : Ly) (Post : Ly → St → Nat → Nat → Prop) (σ : St) (a0 : Nat) : Prop := (((sV σ a0 5) = 0 → wja_Wr_beforeWord_17 mc ms Post a0 y σ 0 0) ∧ (¬ ((sV σ a0 5) = 0) → ∃ mc_8 ms_9 : Nat, (0 + mc_8 ≤ mc ∧ 0 + ms_9 ≤ ms) ∧ wa_In_add mc_8 ms_9 y (fun (y_5 : Ly) (s_4 : St) (r_3 : Int32) (d_6 e_7 : Nat) => (0 + d_6 ≤ mc ∧ 0 + e_7 ≤ ms) ∧ wja_Wr_beforeWord_17 mc ms Post a0 y_5 s_4 (0 + d_6) (0 + e_7)) σ (lk a0 0) 32))
set_option maxHeartbeats 4000000 in
set_option maxRecDepth 100000 in
theorem ca_Wr_beforeWord (l : Launch) (D : va_G) (g : Nat → ClassId) (ad : Nat → Nat) (mc ms : Nat) (y : Ly) (Post : Ly → St → Nat → Nat → Prop) (σ : St) (a0 : Nat) (sz uz : Nat) (h_a0 : cl a0 = 10) (h : wa_Wr_beforeWord mc ms y Post σ a0) : Met l y_Wr_beforeWord (mw y_Wr_beforeWord b_Wr_beforeWord 1 (none)) (ra_Wr_beforeWord mc ms) (PCu g D [] [.ref (ad a0)] sz uz (ws g ad y σ)) (va_Qv (fun (u : Ly × St × Nat × Nat) => Post u.1 u.2.1 u.2.2.1 u.2.2.2) (QU D (va_A (ws g ad y σ) sz) (fun u => ws g ad u.1 u.2.1) sz uz (fun u => u.2.2.1) (fun u => u.2.2.2)) (va_A (ws g ad y σ) sz)) mc ms (va_A (ws g ad y σ) sz) := by
  refine ofVu (by decide +kernel) (Nat.le_of_ble_eq_true rfl) ?_
  intro p e s m args below meth c A Q ls H locs G hsz hP hD hS hl hret
  subst hsz
  have hl : lv_has ls 1 [(0, .ref (ad a0))] := hl
  have hd : 0 ≤ mc ∧ 0 ≤ ms := ⟨Nat.zero_le _, Nat.zero_le _⟩
  unfold wa_Wr_beforeWord at h
  refine lv_aload_n G.1 G.2.1 d_Wr_beforeWord_0 rfl (lv_at hl 0 rfl) ?_
  refine ugf (v := .int (sV σ a0 5)) G hP h_a0 iWr rfl 5 (by decide) rfl q777 rfl rfl d_Wr_beforeWord_1 ?_
  have J_17 : ∀ (y_j17 : Ly) (s_j17 : St) (d_j17 e_j17 : Nat) (H : Heap) (locs : List Loc), wja_Wr_beforeWord_17 mc ms Post a0 y_j17 s_j17 d_j17 e_j17 → va_P D CL (ws g ad y_j17 s_j17) H → va_D A (ws g ad y_j17 s_j17) → va_S A s.heap H locs → ∀ ls, lv_has ls 1 [(0, .ref (ad a0))] → W p l e (ra_Wr_beforeWord mc ms) s m args below meth c H locs d_j17 e_j17 Q (F0 m 17 ls []) := by
    intro y_j17 s_j17 d_j17 e_j17 H locs h hP hD hS ls hl
    unfold wja_Wr_beforeWord_17 at h
    obtain ⟨hd, h⟩ := h
    refine lv_aload_n G.1 G.2.1 d_Wr_beforeWord_17 rfl (lv_at hl 0 rfl) ?_
    refine lv_iconst (v := 1) G.1 G.2.1 d_Wr_beforeWord_18 (by decide) ?_
    obtain ⟨n_1, h⟩ := h
    refine upf G hP hD hS h 5 putV h_a0 iWr tWr tWr_ok nWr rfl (by decide) rfl q777 rfl rfl fV (nb_n n_1) (nb_f n_1) d_Wr_beforeWord_19 (fun s_2 H locs h hP hD hS => ?_)
    exact hret (y_j17, s_2, d_j17, e_j17) _ _ _ _ _ ls h hP hD hS (Nat.le_refl _) (Nat.le_refl _) hd.1 hd.2 d_Wr_beforeWord_22
  refine lv_if_eq (tgt := 17) G.1 G.2.1 d_Wr_beforeWord_4 (by decide) (fun c4 => ?_) (fun c4 => ?_)
  · skip
    have h := h.1 c4
    exact J_17 y σ 0 0 H locs h hP hD hS ls (lv_sub hl [0] rfl)
  · skip
    have h := h.2 c4
    refine lv_aload_n G.1 G.2.1 d_Wr_beforeWord_7 rfl (lv_at hl 0 rfl) ?_
    refine ugf (v := .ref (ad (lk a0 0))) G hP h_a0 iWr rfl 0 (by decide) rfl q771 rfl rfl d_Wr_beforeWord_8 ?_
    refine lv_bipush (v := 32) G.1 G.2.1 d_Wr_beforeWord_11 (by decide) ?_
    obtain ⟨mc_8, ms_9, hr_10, h⟩ := h
    refine uaVi (As := [.int 32]) (rest := []) G hP hD hS (ca_In_add l D g [] ad mc_8 ms_9 y _ σ (lk a0 0) 32 H.size (us H) (lk_10_0 h_a0) h) w9_In_add q2159 ⟨Nat.le_of_ble_eq_true rfl, Nat.le_of_ble_eq_true rfl⟩ rfl rfl (lk_10_0 h_a0) (q := (RIn, TIn, 2)) rfl rfl hl.1 rfl (Nat.le_of_ble_eq_true rfl) rfl hr_10 d_Wr_beforeWord_13 (fun r_3 y_5 s_4 d_6 e_7 H locs h hP hD hS => ?_)
    obtain ⟨hd, h⟩ := h
    refine lv_pop G.1 G.2.1 d_Wr_beforeWord_16 rfl ?_
    exact J_17 y_5 s_4 (0 + d_6) (0 + e_7) H locs h hP hD hS ls (lv_sub hl [0] rfl)
theorem q2168 : Cond.methodLink "ClassWorks$Writer" 74 y_Wr_beforeWord ∈ lw_ok := lw_okmem (List.mem_of_getElem? (i := 2168) (by decide +kernel)) rfl
theorem q2171 : Cond.code y_Wr_beforeWord b_Wr_beforeWord 1 (none) ∈ lw_ok := lw_okmem (List.mem_of_getElem? (i := 2171) (by decide +kernel)) rfl
theorem q2170 : Cond.instanceMethod y_Wr_beforeWord ∈ lw_ok := lw_okmem (List.mem_of_getElem? (i := 2170) (by decide +kernel)) rfl
theorem q122 : Cond.selects y_Wr_beforeWord.cls y_Wr_beforeWord y_Wr_beforeWord ∈ lw_ok := lw_okmem (List.mem_of_getElem? (i := 122) (by decide +kernel)) rfl
theorem w9_Wr_beforeWord : CWv y_Wr_beforeWord b_Wr_beforeWord 1 (none) 0 ∧ Cond.instanceMethod y_Wr_beforeWord ∈ lw_ok ∧ Cond.selects y_Wr_beforeWord.cls y_Wr_beforeWord y_Wr_beforeWord ∈ lw_ok := ⟨⟨q2171, q343, by decide +kernel, by decide +kernel, by decide +kernel⟩, q2170, q122⟩
def y_Wr_word : MethodName := ⟨"ClassWorks$Writer", "word", "(I)V"⟩
abbrev b_Wr_word : ByteArray := prog_12_method_6_code
theorem q773 : Cond.fieldLink "ClassWorks$Writer" 35 "ClassWorks$Writer" "names" "LClassWorks$Names;" ∈ lw_ok := lw_okmem (List.mem_of_getElem? (i := 773) (by decide +kernel)) rfl
theorem q2172 : Cond.methodLink "ClassWorks$Writer" 77 y_Na_length ∈ lw_ok := lw_okmem (List.mem_of_getElem? (i := 2172) (by decide +kernel)) rfl
theorem q2173 : Cond.methodLink "ClassWorks$Writer" 82 y_Na_letter ∈ lw_ok := lw_okmem (List.mem_of_getElem? (i := 2173) (by decide +kernel)) rfl
theorem d_Wr_word_0 : decode b_Wr_word 0 = .ok (.aload_n 0, 1) := by decide +kernel
theorem d_Wr_word_1 : decode b_Wr_word 1 = .ok (.invokevirtual 74, 3) := by decide +kernel
theorem d_Wr_word_4 : decode b_Wr_word 4 = .ok (.iconst 0, 1) := by decide +kernel
theorem d_Wr_word_5 : decode b_Wr_word 5 = .ok (.istore_n 2, 1) := by decide +kernel
theorem d_Wr_word_6 : decode b_Wr_word 6 = .ok (.iload_n 2, 1) := by decide +kernel
theorem d_Wr_word_7 : decode b_Wr_word 7 = .ok (.aload_n 0, 1) := by decide +kernel
theorem d_Wr_word_8 : decode b_Wr_word 8 = .ok (.getfield 35, 3) := by decide +kernel
theorem d_Wr_word_11 : decode b_Wr_word 11 = .ok (.iload_n 1, 1) := by decide +kernel
theorem d_Wr_word_12 : decode b_Wr_word 12 = .ok (.invokevirtual 77, 3) := by decide +kernel
theorem d_Wr_word_15 : decode b_Wr_word 15 = .ok (.if_icmp .ge 26, 3) := by decide +kernel
theorem d_Wr_word_18 : decode b_Wr_word 18 = .ok (.aload_n 0, 1) := by decide +kernel
theorem d_Wr_word_19 : decode b_Wr_word 19 = .ok (.getfield 14, 3) := by decide +kernel
theorem d_Wr_word_22 : decode b_Wr_word 22 = .ok (.aload_n 0, 1) := by decide +kernel
theorem d_Wr_word_23 : decode b_Wr_word 23 = .ok (.getfield 35, 3) := by decide +kernel
theorem d_Wr_word_26 : decode b_Wr_word 26 = .ok (.iload_n 1, 1) := by decide +kernel
theorem d_Wr_word_27 : decode b_Wr_word 27 = .ok (.iload_n 2, 1) := by decide +kernel
theorem d_Wr_word_28 : decode b_Wr_word 28 = .ok (.invokevirtual 82, 3) := by decide +kernel
theorem d_Wr_word_31 : decode b_Wr_word 31 = .ok (.invokevirtual 70, 3) := by decide +kernel
theorem d_Wr_word_34 : decode b_Wr_word 34 = .ok (.pop, 1) := by decide +kernel
theorem d_Wr_word_35 : decode b_Wr_word 35 = .ok (.iinc 2 1, 3) := by decide +kernel
theorem d_Wr_word_38 : decode b_Wr_word 38 = .ok (.goto (-32), 3) := by decide +kernel
theorem d_Wr_word_41 : decode b_Wr_word 41 = .ok (.return_, 1) := by decide +kernel
abbrev ra_Wr_word (mc ms : Nat) : Room := { frames := 6, cells := mc, slots := ms, locals := 441 }
def wba_Wr_word_6 (mc ms : Nat) (Post : Ly → St → Nat → Nat → Prop) (K_6 : Ly → St → Nat → Nat → Int32 → Int32 → Prop) (a0 : Nat) (y_h6 : Ly) (s_h6 : St) (d_h6 e_h6 : Nat) (x1h6 : Int32) (x2h6 : Int32) : Prop := (d_h6 ≤ mc ∧ e_h6 ≤ ms) ∧ wu_Na_length y_h6 (fun (s_10 : St) (r_9 : Int32) => ((r_9 ≤ x2h6 → Post y_h6 s_10 d_h6 e_h6) ∧ (¬ (r_9 ≤ x2h6) → wu_Na_letter y_h6 (fun (s_12 : St) (r_11 : Int32) => ∃ mc_18 ms_19 : Nat, (d_h6 + mc_18 ≤ mc ∧ e_h6 + ms_19 ≤ ms) ∧ wa_In_add mc_18 ms_19 y_h6 (fun (y_15 : Ly) (s_14 : St) (r_13 : Int32) (d_16 e_17 : Nat) => (d_h6 + d_16 ≤ mc ∧ e_h6 + e_17 ≤ ms) ∧ K_6 y_15 s_14 (d_h6 + d_16) (e_h6 + e_17) x1h6 (x2h6 + 1)) s_12 (lk a0 0) r_11) s_10 (lk a0 1) x1h6 x2h6))) s_h6 (lk a0 1) x1h6
def wla_Wr_word_6 (mc ms : Nat) (Post : Ly → St → Nat → Nat → Prop) (a0 : Nat) (y_h6 : Ly) (s_h6 : St) (d_h6 e_h6 : Nat) (x1h6 : Int32) (x2h6 : Int32) : Prop := ∃ (I : Ly → St → Nat → Nat → Int32 → Int32 → Prop) (μ : Ly → St → Nat → Nat → Int32 → Int32 → Nat), I y_h6 s_h6 d_h6 e_h6 x1h6 x2h6 ∧ ∀ (u1 : Ly) (u2 : St) (u3 u4 : Nat) (t0 : Int32) (t1 : Int32), I u1 u2 u3 u4 t0 t1 → wba_Wr_word_6 mc ms Post (fun z1 z2 z3 z4 t0q t1q => I z1 z2 z3 z4 t0q t1q ∧ μ z1 z2 z3 z4 t0q t1q < μ u1 u2 u3 u4 t0 t1) a0 u1 u2 u3 u4 t0 t1
def wa_Wr_word (mc ms : Nat) (y : Ly) (Post : Ly → St → Nat → Nat → Prop) (σ : St) (a0 : Nat) (v1 : Int32) : Prop := ∃ mc_6 ms_7 : Nat, (0 + mc_6 ≤ mc ∧ 0 + ms_7 ≤ ms) ∧ wa_Wr_beforeWord mc_6 ms_7 y (fun (y_3 : Ly) (s_2 : St) (d_4 e_5 : Nat) => (0 + d_4 ≤ mc ∧ 0 + e_5 ≤ ms) ∧ wla_Wr_word_6 mc ms Post a0 y_3 s_2 (0 + d_4) (0 + e_5) v1 0) σ a0
set_option maxHeartbeats 4000000 in
set_option maxRecDepth 100000 in
theorem ca_Wr_word (l : Launch) (D : va_G) (g : Nat → ClassId) (ad : Nat → Nat) (mc ms : Nat) (y : Ly) (Post : Ly → St → Nat → Nat → Prop) (σ : St) (a0 : Nat) (v1 : Int32) (sz uz : Nat) (h_a0 : cl a0 = 10) (h : wa_Wr_word mc ms y Post σ a0 v1) : Met l y_Wr_word (mw y_Wr_word b_Wr_word 3 (none)) (ra_Wr_word mc ms) (PCu g D [] [.ref (ad a0), .int v1] sz uz (ws g ad y σ)) (va_Qv (fun (u : Ly × St × Nat × Nat) => Post u.1 u.2.1 u.2.2.1 u.2.2.2) (QU D (va_A (ws g ad y σ) sz) (fun u => ws g ad u.1 u.2.1) sz uz (fun u => u.2.2.1) (fun u => u.2.2.2)) (va_A (ws g ad y σ) sz)) mc ms (va_A (ws g ad y σ) sz) := by
  refine ofVu (by decide +kernel) (Nat.le_of_ble_eq_true rfl) ?_
  intro p e s m args below meth c A Q ls H locs G hsz hP hD hS hl hret
  subst hsz
  have hl : lv_has ls 3 [(0, .ref (ad a0)), (1, .int v1)] := hl
  have hd : 0 ≤ mc ∧ 0 ≤ ms := ⟨Nat.zero_le _, Nat.zero_le _⟩
  unfold wa_Wr_word at h
  refine lv_aload_n G.1 G.2.1 d_Wr_word_0 rfl (lv_at hl 0 rfl) ?_
  obtain ⟨mc_6, ms_7, hr_8, h⟩ := h
  refine uaVv (As := []) (rest := []) G hP hD hS (ca_Wr_beforeWord l D g ad mc_6 ms_7 y _ σ a0 H.size (us H) h_a0 h) w9_Wr_beforeWord q2168 ⟨Nat.le_of_ble_eq_true rfl, Nat.le_of_ble_eq_true rfl⟩ rfl rfl h_a0 (q := (RWr, TWr, 7)) rfl rfl hl.1 rfl (Nat.le_of_ble_eq_true rfl) rfl hr_8 d_Wr_word_1 (fun y_3 s_2 d_4 e_5 H locs h hP hD hS => ?_)
  obtain ⟨hd, h⟩ := h
  refine lv_iconst (v := 0) G.1 G.2.1 d_Wr_word_4 (by decide) ?_
  refine lv_istore_n (lv' := [(2, .int 0), (0, .ref (ad a0)), (1, .int v1)]) G.1 G.2.1 d_Wr_word_5 rfl hl (by decide) rfl (fun ls hl => ?_)
  unfold wla_Wr_word_6 at h
  obtain ⟨I_6, μ_6, hI_6, hB_6⟩ := h
  have L_6 : ∀ (n_6 : Nat) (y_h6 : Ly) (s_h6 : St) (d_h6 e_h6 : Nat) (x1h6 : Int32) (x2h6 : Int32), μ_6 y_h6 s_h6 d_h6 e_h6 x1h6 x2h6 < n_6 → I_6 y_h6 s_h6 d_h6 e_h6 x1h6 x2h6 → ∀ (H : Heap) (locs : List Loc), va_P D CL (ws g ad y_h6 s_h6) H → va_D A (ws g ad y_h6 s_h6) → va_S A s.heap H locs → ∀ ls, lv_has ls 3 [(0, .ref (ad a0)), (1, .int x1h6), (2, .int x2h6)] → W p l e (ra_Wr_word mc ms) s m args below meth c H locs d_h6 e_h6 Q (F0 m 6 ls []) := by
    intro n_6
    induction n_6 with
    | zero => intro y_h6 s_h6 d_h6 e_h6 x1h6 x2h6 hμ; exact absurd hμ (Nat.not_lt_zero _)
    | succ n_6 ih_6 =>
      intro y_h6 s_h6 d_h6 e_h6 x1h6 x2h6 hμ_6 hJ H locs hP hD hS ls hl
      obtain ⟨K_6, hK_6, h⟩ : ∃ K : Ly → St → Nat → Nat → Int32 → Int32 → Prop, (∀ z1 z2 z3 z4 (t0 : Int32) (t1 : Int32), K z1 z2 z3 z4 t0 t1 → I_6 z1 z2 z3 z4 t0 t1 ∧ μ_6 z1 z2 z3 z4 t0 t1 < μ_6 y_h6 s_h6 d_h6 e_h6 x1h6 x2h6) ∧ wba_Wr_word_6 mc ms Post K a0 y_h6 s_h6 d_h6 e_h6 x1h6 x2h6 := ⟨_, fun _ _ _ _ _ _ h => h, hB_6 y_h6 s_h6 d_h6 e_h6 x1h6 x2h6 hJ⟩
      unfold wba_Wr_word_6 at h
      obtain ⟨hd, h⟩ := h
      refine lv_iload_n G.1 G.2.1 d_Wr_word_6 rfl (lv_at hl 2 rfl) ?_
      refine lv_aload_n G.1 G.2.1 d_Wr_word_7 rfl (lv_at hl 0 rfl) ?_
      refine ugf (v := .ref (ad (lk a0 1))) G hP h_a0 iWr rfl 1 (by decide) rfl q773 rfl rfl d_Wr_word_8 ?_
      refine lv_iload_n G.1 G.2.1 d_Wr_word_11 rfl (lv_at hl 1 rfl) ?_
      refine ucVi (As := [.int x1h6]) (rest := [.int x2h6]) G hP hD hS (cu_Na_length l D g ad y_h6 _ s_h6 (lk a0 1) x1h6 H.size (lk_10_1 h_a0) h) w9_Na_length q2172 ⟨Nat.le_of_ble_eq_true rfl, Nat.le_of_ble_eq_true rfl⟩ rfl rfl (lk_10_1 h_a0) (q := (RNa, TNa, 11)) rfl rfl hl.1 rfl (Nat.le_of_ble_eq_true rfl) rfl hd d_Wr_word_12 (fun r_9 s_10 H locs h hP hD hS => ?_)
      refine lv_icmp_ge (tgt := 41) G.1 G.2.1 d_Wr_word_15 (by decide) (fun c15 => ?_) (fun c15 => ?_)
      · skip
        have h := h.1 c15
        exact hret (y_h6, s_10, d_h6, e_h6) _ _ _ _ _ ls h hP hD hS (Nat.le_refl _) (Nat.le_refl _) hd.1 hd.2 d_Wr_word_41
      · skip
        have h := h.2 c15
        refine lv_aload_n G.1 G.2.1 d_Wr_word_18 rfl (lv_at hl 0 rfl) ?_
        refine ugf (v := .ref (ad (lk a0 0))) G hP h_a0 iWr rfl 0 (by decide) rfl q771 rfl rfl d_Wr_word_19 ?_
        refine lv_aload_n G.1 G.2.1 d_Wr_word_22 rfl (lv_at hl 0 rfl) ?_
        refine ugf (v := .ref (ad (lk a0 1))) G hP h_a0 iWr rfl 1 (by decide) rfl q773 rfl rfl d_Wr_word_23 ?_
        refine lv_iload_n G.1 G.2.1 d_Wr_word_26 rfl (lv_at hl 1 rfl) ?_
        refine W.eq (g2 := F0 m 27 ls [.int x1h6, .ref (ad (lk a0 1)), .ref (ad (lk a0 0))]) rfl ?_
        refine lv_iload_n G.1 G.2.1 d_Wr_word_27 rfl (lv_at hl 2 rfl) ?_
        refine ucVi (As := [.int x1h6, .int x2h6]) (rest := [.ref (ad (lk a0 0))]) G hP hD hS (cu_Na_letter l D g ad y_h6 _ s_10 (lk a0 1) x1h6 x2h6 H.size (lk_10_1 h_a0) h) w9_Na_letter q2173 ⟨Nat.le_of_ble_eq_true rfl, Nat.le_of_ble_eq_true rfl⟩ rfl rfl (lk_10_1 h_a0) (q := (RNa, TNa, 11)) rfl rfl hl.1 rfl (Nat.le_of_ble_eq_true rfl) rfl hd d_Wr_word_28 (fun r_11 s_12 H locs h hP hD hS => ?_)
        obtain ⟨mc_18, ms_19, hr_20, h⟩ := h
        refine uaVi (As := [.int r_11]) (rest := []) G hP hD hS (ca_In_add l D g [] ad mc_18 ms_19 y_h6 _ s_12 (lk a0 0) r_11 H.size (us H) (lk_10_0 h_a0) h) w9_In_add q2159 ⟨Nat.le_of_ble_eq_true rfl, Nat.le_of_ble_eq_true rfl⟩ rfl rfl (lk_10_0 h_a0) (q := (RIn, TIn, 2)) rfl rfl hl.1 rfl (Nat.le_of_ble_eq_true rfl) rfl hr_20 d_Wr_word_31 (fun r_13 y_15 s_14 d_16 e_17 H locs h hP hD hS => ?_)
        obtain ⟨hd, h⟩ := h
        refine lv_pop G.1 G.2.1 d_Wr_word_34 rfl ?_
        refine lv_iinc (v := x2h6 + 1) (lv' := [(2, .int (x2h6 + 1)), (0, .ref (ad a0)), (1, .int x1h6)]) G.1 G.2.1 d_Wr_word_35 hl (k := 2) rfl rfl (by decide) rfl (fun ls hl => ?_)
        refine lv_goto (tgt := 6) G.1 G.2.1 d_Wr_word_38 (by decide) ?_
        have h := hK_6 y_15 s_14 (d_h6 + d_16) (e_h6 + e_17) x1h6 (x2h6 + 1) h
        exact ih_6 y_15 s_14 (d_h6 + d_16) (e_h6 + e_17) x1h6 (x2h6 + 1) (Nat.lt_of_lt_of_le h.2 (Nat.le_of_lt_succ hμ_6)) h.1 H locs hP hD hS ls (lv_sub hl [1, 2, 0] rfl)
  exact L_6 _ y_3 s_2 (0 + d_4) (0 + e_5) v1 0 (Nat.lt_succ_self _) hI_6 H locs hP hD hS ls (lv_sub hl [1, 2, 0] rfl)
theorem q2164 : Cond.methodLink "ClassWorks$Writer" 64 y_Wr_word ∈ lw_ok := lw_okmem (List.mem_of_getElem? (i := 2164) (by decide +kernel)) rfl
theorem q2167 : Cond.code y_Wr_word b_Wr_word 3 (none) ∈ lw_ok := lw_okmem (List.mem_of_getElem? (i := 2167) (by decide +kernel)) rfl
theorem q2166 : Cond.instanceMethod y_Wr_word ∈ lw_ok := lw_okmem (List.mem_of_getElem? (i := 2166) (by decide +kernel)) rfl
theorem q121 : Cond.selects y_Wr_word.cls y_Wr_word y_Wr_word ∈ lw_ok := lw_okmem (List.mem_of_getElem? (i := 121) (by decide +kernel)) rfl
theorem w9_Wr_word : CWv y_Wr_word b_Wr_word 3 (none) 1 ∧ Cond.instanceMethod y_Wr_word ∈ lw_ok ∧ Cond.selects y_Wr_word.cls y_Wr_word y_Wr_word ∈ lw_ok := ⟨⟨q2167, q343, by decide +kernel, by decide +kernel, by decide +kernel⟩, q2166, q121⟩
def y_Wr_flag : MethodName := ⟨"ClassWorks$Writer", "flag", "(III)V"⟩
abbrev b_Wr_flag : ByteArray := prog_12_method_10_code
theorem d_Wr_flag_0 : decode b_Wr_flag 0 = .ok (.iload_n 1, 1) := by decide +kernel
theorem d_Wr_flag_1 : decode b_Wr_flag 1 = .ok (.iload_n 2, 1) := by decide +kernel
theorem d_Wr_flag_2 : decode b_Wr_flag 2 = .ok (.iand, 1) := by decide +kernel
theorem d_Wr_flag_3 : decode b_Wr_flag 3 = .ok (.ifCond .eq 8, 3) := by decide +kernel
theorem d_Wr_flag_6 : decode b_Wr_flag 6 = .ok (.aload_n 0, 1) := by decide +kernel
theorem d_Wr_flag_7 : decode b_Wr_flag 7 = .ok (.iload_n 3, 1) := by decide +kernel
theorem d_Wr_flag_8 : decode b_Wr_flag 8 = .ok (.invokevirtual 64, 3) := by decide +kernel
theorem d_Wr_flag_11 : decode b_Wr_flag 11 = .ok (.return_, 1) := by decide +kernel
abbrev ra_Wr_flag (mc ms : Nat) : Room := { frames := 7, cells := mc, slots := ms, locals := 463 }
def wja_Wr_flag_11 (mc ms : Nat) (Post : Ly → St → Nat → Nat → Prop) (a0 : Nat) (y_j11 : Ly) (s_j11 : St) (d_j11 e_j11 : Nat) : Prop := (d_j11 ≤ mc ∧ e_j11 ≤ ms) ∧ Post y_j11 s_j11 d_j11 e_j11
def wa_Wr_flag (mc ms : Nat) (y : Ly) (Post : Ly → St → Nat → Nat → Prop) (σ : St) (a0 : Nat) (v1 : Int32) (v2 : Int32) (v3 : Int32) : Prop := (((v1 &&& v2) = 0 → wja_Wr_flag_11 mc ms Post a0 y σ 0 0) ∧ (¬ ((v1 &&& v2) = 0) → ∃ mc_6 ms_7 : Nat, (0 + mc_6 ≤ mc ∧ 0 + ms_7 ≤ ms) ∧ wa_Wr_word mc_6 ms_7 y (fun (y_3 : Ly) (s_2 : St) (d_4 e_5 : Nat) => (0 + d_4 ≤ mc ∧ 0 + e_5 ≤ ms) ∧ wja_Wr_flag_11 mc ms Post a0 y_3 s_2 (0 + d_4) (0 + e_5)) σ a0 v3))
set_option maxHeartbeats 4000000 in
set_option maxRecDepth 100000 in
theorem ca_Wr_flag (l : Launch) (D : va_G) (g : Nat → ClassId) (ad : Nat → Nat) (mc ms : Nat) (y : Ly) (Post : Ly → St → Nat → Nat → Prop) (σ : St) (a0 : Nat) (v1 : Int32) (v2 : Int32) (v3 : Int32) (sz uz : Nat) (h_a0 : cl a0 = 10) (h : wa_Wr_flag mc ms y Post σ a0 v1 v2 v3) : Met l y_Wr_flag (mw y_Wr_flag b_Wr_flag 4 (none)) (ra_Wr_flag mc ms) (PCu g D [] [.ref (ad a0), .int v1, .int v2, .int v3] sz uz (ws g ad y σ)) (va_Qv (fun (u : Ly × St × Nat × Nat) => Post u.1 u.2.1 u.2.2.1 u.2.2.2) (QU D (va_A (ws g ad y σ) sz) (fun u => ws g ad u.1 u.2.1) sz uz (fun u => u.2.2.1) (fun u => u.2.2.2)) (va_A (ws g ad y σ) sz)) mc ms (va_A (ws g ad y σ) sz) := by
  refine ofVu (by decide +kernel) (Nat.le_of_ble_eq_true rfl) ?_
  intro p e s m args below meth c A Q ls H locs G hsz hP hD hS hl hret
  subst hsz
  have hl : lv_has ls 4 [(0, .ref (ad a0)), (1, .int v1), (2, .int v2), (3, .int v3)] := hl
  have hd : 0 ≤ mc ∧ 0 ≤ ms := ⟨Nat.zero_le _, Nat.zero_le _⟩
  unfold wa_Wr_flag at h
  refine lv_iload_n G.1 G.2.1 d_Wr_flag_0 rfl (lv_at hl 1 rfl) ?_
  refine lv_iload_n G.1 G.2.1 d_Wr_flag_1 rfl (lv_at hl 2 rfl) ?_
  refine lv_iand G.1 G.2.1 d_Wr_flag_2 ?_
  have J_11 : ∀ (y_j11 : Ly) (s_j11 : St) (d_j11 e_j11 : Nat) (H : Heap) (locs : List Loc), wja_Wr_flag_11 mc ms Post a0 y_j11 s_j11 d_j11 e_j11 → va_P D CL (ws g ad y_j11 s_j11) H → va_D A (ws g ad y_j11 s_j11) → va_S A s.heap H locs → ∀ ls, lv_has ls 4 [] → W p l e (ra_Wr_flag mc ms) s m args below meth c H locs d_j11 e_j11 Q (F0 m 11 ls []) := by
    intro y_j11 s_j11 d_j11 e_j11 H locs h hP hD hS ls hl
    unfold wja_Wr_flag_11 at h
    obtain ⟨hd, h⟩ := h
    exact hret (y_j11, s_j11, d_j11, e_j11) _ _ _ _ _ ls h hP hD hS (Nat.le_refl _) (Nat.le_refl _) hd.1 hd.2 d_Wr_flag_11
  refine lv_if_eq (tgt := 11) G.1 G.2.1 d_Wr_flag_3 (by decide) (fun c3 => ?_) (fun c3 => ?_)
  · skip
    have h := h.1 c3
    exact J_11 y σ 0 0 H locs h hP hD hS ls (lv_sub hl [] rfl)
  · skip
    have h := h.2 c3
    refine lv_aload_n G.1 G.2.1 d_Wr_flag_6 rfl (lv_at hl 0 rfl) ?_
    refine lv_iload_n G.1 G.2.1 d_Wr_flag_7 rfl (lv_at hl 3 rfl) ?_
    obtain ⟨mc_6, ms_7, hr_8, h⟩ := h
    refine uaVv (As := [.int v3]) (rest := []) G hP hD hS (ca_Wr_word l D g ad mc_6 ms_7 y _ σ a0 v3 H.size (us H) h_a0 h) w9_Wr_word q2164 ⟨Nat.le_of_ble_eq_true rfl, Nat.le_of_ble_eq_true rfl⟩ rfl rfl h_a0 (q := (RWr, TWr, 7)) rfl rfl hl.1 rfl (Nat.le_of_ble_eq_true rfl) rfl hr_8 d_Wr_flag_8 (fun y_3 s_2 d_4 e_5 H locs h hP hD hS => ?_)
    have hl := lv_sub (l' := []) hl [] rfl
    obtain ⟨hd, h⟩ := h
    exact J_11 y_3 s_2 (0 + d_4) (0 + e_5) H locs h hP hD hS ls (lv_sub hl [] rfl)
def y_Wr_sign : MethodName := ⟨"ClassWorks$Writer", "sign", "(C)V"⟩
abbrev b_Wr_sign : ByteArray := prog_12_method_7_code
theorem d_Wr_sign_0 : decode b_Wr_sign 0 = .ok (.iload_n 1, 1) := by decide +kernel
theorem d_Wr_sign_1 : decode b_Wr_sign 1 = .ok (.bipush 61, 2) := by decide +kernel
theorem d_Wr_sign_3 : decode b_Wr_sign 3 = .ok (.if_icmp .ne 7, 3) := by decide +kernel
theorem d_Wr_sign_6 : decode b_Wr_sign 6 = .ok (.aload_n 0, 1) := by decide +kernel
theorem d_Wr_sign_7 : decode b_Wr_sign 7 = .ok (.invokevirtual 74, 3) := by decide +kernel
theorem d_Wr_sign_10 : decode b_Wr_sign 10 = .ok (.aload_n 0, 1) := by decide +kernel
theorem d_Wr_sign_11 : decode b_Wr_sign 11 = .ok (.getfield 14, 3) := by decide +kernel
theorem d_Wr_sign_14 : decode b_Wr_sign 14 = .ok (.iload_n 1, 1) := by decide +kernel
theorem d_Wr_sign_15 : decode b_Wr_sign 15 = .ok (.invokevirtual 70, 3) := by decide +kernel
theorem d_Wr_sign_18 : decode b_Wr_sign 18 = .ok (.pop, 1) := by decide +kernel
theorem d_Wr_sign_19 : decode b_Wr_sign 19 = .ok (.aload_n 0, 1) := by decide +kernel
theorem d_Wr_sign_20 : decode b_Wr_sign 20 = .ok (.iload_n 1, 1) := by decide +kernel
theorem d_Wr_sign_21 : decode b_Wr_sign 21 = .ok (.bipush 40, 2) := by decide +kernel
theorem d_Wr_sign_23 : decode b_Wr_sign 23 = .ok (.if_icmp .eq 13, 3) := by decide +kernel
theorem d_Wr_sign_26 : decode b_Wr_sign 26 = .ok (.iload_n 1, 1) := by decide +kernel
theorem d_Wr_sign_27 : decode b_Wr_sign 27 = .ok (.bipush 46, 2) := by decide +kernel
theorem d_Wr_sign_29 : decode b_Wr_sign 29 = .ok (.if_icmp .eq 7, 3) := by decide +kernel
theorem d_Wr_sign_32 : decode b_Wr_sign 32 = .ok (.iconst 1, 1) := by decide +kernel
theorem d_Wr_sign_33 : decode b_Wr_sign 33 = .ok (.goto 4, 3) := by decide +kernel
theorem d_Wr_sign_36 : decode b_Wr_sign 36 = .ok (.iconst 0, 1) := by decide +kernel
theorem d_Wr_sign_37 : decode b_Wr_sign 37 = .ok (.putfield 27, 3) := by decide +kernel
theorem d_Wr_sign_40 : decode b_Wr_sign 40 = .ok (.return_, 1) := by decide +kernel
abbrev ra_Wr_sign (mc ms : Nat) : Room := { frames := 6, cells := mc, slots := ms, locals := 441 }
def wja_Wr_sign_37 (mc ms : Nat) (Post : Ly → St → Nat → Nat → Prop) (a0 : Nat) (y_j37 : Ly) (s_j37 : St) (d_j37 e_j37 : Nat) (z1j37 : Int32) : Prop := (d_j37 ≤ mc ∧ e_j37 ≤ ms) ∧ nb z1j37 ∧ xP (uV s_j37 a0 5 z1j37) (fun s_10 : St => Post y_j37 s_10 d_j37 e_j37)
def wja_Wr_sign_36 (mc ms : Nat) (Post : Ly → St → Nat → Nat → Prop) (a0 : Nat) (y_j36 : Ly) (s_j36 : St) (d_j36 e_j36 : Nat) : Prop := (d_j36 ≤ mc ∧ e_j36 ≤ ms) ∧ wja_Wr_sign_37 mc ms Post a0 y_j36 s_j36 d_j36 e_j36 0
def wja_Wr_sign_10 (mc ms : Nat) (Post : Ly → St → Nat → Nat → Prop) (a0 : Nat) (y_j10 : Ly) (s_j10 : St) (d_j10 e_j10 : Nat) (x1j10 : Int32) : Prop := (d_j10 ≤ mc ∧ e_j10 ≤ ms) ∧ ∃ mc_6 ms_7 : Nat, (d_j10 + mc_6 ≤ mc ∧ e_j10 + ms_7 ≤ ms) ∧ wa_In_add mc_6 ms_7 y_j10 (fun (y_3 : Ly) (s_2 : St) (r_1 : Int32) (d_4 e_5 : Nat) => (d_j10 + d_4 ≤ mc ∧ e_j10 + e_5 ≤ ms) ∧ ((x1j10 = 40 → wja_Wr_sign_36 mc ms Post a0 y_3 s_2 (d_j10 + d_4) (e_j10 + e_5)) ∧ (¬ (x1j10 = 40) → ((x1j10 = 46 → wja_Wr_sign_36 mc ms Post a0 y_3 s_2 (d_j10 + d_4) (e_j10 + e_5)) ∧ (¬ (x1j10 = 46) → wja_Wr_sign_37 mc ms Post a0 y_3 s_2 (d_j10 + d_4) (e_j10 + e_5) 1))))) s_j10 (lk a0 0) x1j10
def wa_Wr_sign (mc ms : Nat) (y : Ly) (Post : Ly → St → Nat → Nat → Prop) (σ : St) (a0 : Nat) (v1 : Int32) : Prop := ((¬ v1 = 61 → wja_Wr_sign_10 mc ms Post a0 y σ 0 0 v1) ∧ (v1 = 61 → ∃ mc_16 ms_17 : Nat, (0 + mc_16 ≤ mc ∧ 0 + ms_17 ≤ ms) ∧ wa_Wr_beforeWord mc_16 ms_17 y (fun (y_13 : Ly) (s_12 : St) (d_14 e_15 : Nat) => (0 + d_14 ≤ mc ∧ 0 + e_15 ≤ ms) ∧ wja_Wr_sign_10 mc ms Post a0 y_13 s_12 (0 + d_14) (0 + e_15) v1) σ a0))
set_option maxHeartbeats 4000000 in
set_option maxRecDepth 100000 in
theorem ca_Wr_sign (l : Launch) (D : va_G) (g : Nat → ClassId) (ad : Nat → Nat) (mc ms : Nat) (y : Ly) (Post : Ly → St → Nat → Nat → Prop) (σ : St) (a0 : Nat) (v1 : Int32) (sz uz : Nat) (h_a0 : cl a0 = 10) (h : wa_Wr_sign mc ms y Post σ a0 v1) : Met l y_Wr_sign (mw y_Wr_sign b_Wr_sign 2 (none)) (ra_Wr_sign mc ms) (PCu g D [] [.ref (ad a0), .int v1] sz uz (ws g ad y σ)) (va_Qv (fun (u : Ly × St × Nat × Nat) => Post u.1 u.2.1 u.2.2.1 u.2.2.2) (QU D (va_A (ws g ad y σ) sz) (fun u => ws g ad u.1 u.2.1) sz uz (fun u => u.2.2.1) (fun u => u.2.2.2)) (va_A (ws g ad y σ) sz)) mc ms (va_A (ws g ad y σ) sz) := by
  refine ofVu (by decide +kernel) (Nat.le_of_ble_eq_true rfl) ?_
  intro p e s m args below meth c A Q ls H locs G hsz hP hD hS hl hret
  subst hsz
  have hl : lv_has ls 2 [(0, .ref (ad a0)), (1, .int v1)] := hl
  have hd : 0 ≤ mc ∧ 0 ≤ ms := ⟨Nat.zero_le _, Nat.zero_le _⟩
  unfold wa_Wr_sign at h
  refine lv_iload_n G.1 G.2.1 d_Wr_sign_0 rfl (lv_at hl 1 rfl) ?_
  refine lv_bipush (v := 61) G.1 G.2.1 d_Wr_sign_1 (by decide) ?_
  have J_10 : ∀ (y_j10 : Ly) (s_j10 : St) (d_j10 e_j10 : Nat) (x1j10 : Int32) (H : Heap) (locs : List Loc), wja_Wr_sign_10 mc ms Post a0 y_j10 s_j10 d_j10 e_j10 x1j10 → va_P D CL (ws g ad y_j10 s_j10) H → va_D A (ws g ad y_j10 s_j10) → va_S A s.heap H locs → ∀ ls, lv_has ls 2 [(0, .ref (ad a0)), (1, .int x1j10)] → W p l e (ra_Wr_sign mc ms) s m args below meth c H locs d_j10 e_j10 Q (F0 m 10 ls []) := by
    intro y_j10 s_j10 d_j10 e_j10 x1j10 H locs h hP hD hS ls hl
    unfold wja_Wr_sign_10 at h
    obtain ⟨hd, h⟩ := h
    refine lv_aload_n G.1 G.2.1 d_Wr_sign_10 rfl (lv_at hl 0 rfl) ?_
    refine ugf (v := .ref (ad (lk a0 0))) G hP h_a0 iWr rfl 0 (by decide) rfl q771 rfl rfl d_Wr_sign_11 ?_
    refine lv_iload_n G.1 G.2.1 d_Wr_sign_14 rfl (lv_at hl 1 rfl) ?_
    obtain ⟨mc_6, ms_7, hr_8, h⟩ := h
    refine uaVi (As := [.int x1j10]) (rest := []) G hP hD hS (ca_In_add l D g [] ad mc_6 ms_7 y_j10 _ s_j10 (lk a0 0) x1j10 H.size (us H) (lk_10_0 h_a0) h) w9_In_add q2159 ⟨Nat.le_of_ble_eq_true rfl, Nat.le_of_ble_eq_true rfl⟩ rfl rfl (lk_10_0 h_a0) (q := (RIn, TIn, 2)) rfl rfl hl.1 rfl (Nat.le_of_ble_eq_true rfl) rfl hr_8 d_Wr_sign_15 (fun r_1 y_3 s_2 d_4 e_5 H locs h hP hD hS => ?_)
    obtain ⟨hd, h⟩ := h
    refine lv_pop G.1 G.2.1 d_Wr_sign_18 rfl ?_
    refine lv_aload_n G.1 G.2.1 d_Wr_sign_19 rfl (lv_at hl 0 rfl) ?_
    refine lv_iload_n G.1 G.2.1 d_Wr_sign_20 rfl (lv_at hl 1 rfl) ?_
    refine lv_bipush (v := 40) G.1 G.2.1 d_Wr_sign_21 (by decide) ?_
    have J_37 : ∀ (y_j37 : Ly) (s_j37 : St) (d_j37 e_j37 : Nat) (z1j37 : Int32) (H : Heap) (locs : List Loc), wja_Wr_sign_37 mc ms Post a0 y_j37 s_j37 d_j37 e_j37 z1j37 → va_P D CL (ws g ad y_j37 s_j37) H → va_D A (ws g ad y_j37 s_j37) → va_S A s.heap H locs → ∀ ls, lv_has ls 2 [] → W p l e (ra_Wr_sign mc ms) s m args below meth c H locs d_j37 e_j37 Q (F0 m 37 ls [.int z1j37, .ref (ad a0)]) := by
      intro y_j37 s_j37 d_j37 e_j37 z1j37 H locs h hP hD hS ls hl
      unfold wja_Wr_sign_37 at h
      obtain ⟨hd, h⟩ := h
      obtain ⟨n_9, h⟩ := h
      refine upf G hP hD hS h 5 putV h_a0 iWr tWr tWr_ok nWr rfl (by decide) rfl q777 rfl rfl fV (nb_n n_9) (nb_f n_9) d_Wr_sign_37 (fun s_10 H locs h hP hD hS => ?_)
      exact hret (y_j37, s_10, d_j37, e_j37) _ _ _ _ _ ls h hP hD hS (Nat.le_refl _) (Nat.le_refl _) hd.1 hd.2 d_Wr_sign_40
    have J_36 : ∀ (y_j36 : Ly) (s_j36 : St) (d_j36 e_j36 : Nat) (H : Heap) (locs : List Loc), wja_Wr_sign_36 mc ms Post a0 y_j36 s_j36 d_j36 e_j36 → va_P D CL (ws g ad y_j36 s_j36) H → va_D A (ws g ad y_j36 s_j36) → va_S A s.heap H locs → ∀ ls, lv_has ls 2 [] → W p l e (ra_Wr_sign mc ms) s m args below meth c H locs d_j36 e_j36 Q (F0 m 36 ls [.ref (ad a0)]) := by
      intro y_j36 s_j36 d_j36 e_j36 H locs h hP hD hS ls hl
      unfold wja_Wr_sign_36 at h
      obtain ⟨hd, h⟩ := h
      refine lv_iconst (v := 0) G.1 G.2.1 d_Wr_sign_36 (by decide) ?_
      exact J_37 y_j36 s_j36 d_j36 e_j36 0 H locs h hP hD hS ls (lv_sub hl [] rfl)
    refine lv_icmp_eq (tgt := 36) G.1 G.2.1 d_Wr_sign_23 (by decide) (fun c23 => ?_) (fun c23 => ?_)
    · skip
      have h := h.1 c23
      exact J_36 y_3 s_2 (d_j10 + d_4) (e_j10 + e_5) H locs h hP hD hS ls (lv_sub hl [] rfl)
    · skip
      have h := h.2 c23
      refine lv_iload_n G.1 G.2.1 d_Wr_sign_26 rfl (lv_at hl 1 rfl) ?_
      refine lv_bipush (v := 46) G.1 G.2.1 d_Wr_sign_27 (by decide) ?_
      refine W.eq (g2 := F0 m 29 ls [.int 46, .int x1j10, .ref (ad a0)]) rfl ?_
      refine lv_icmp_eq (tgt := 36) G.1 G.2.1 d_Wr_sign_29 (by decide) (fun c29 => ?_) (fun c29 => ?_)
      · skip
        have h := h.1 c29
        exact J_36 y_3 s_2 (d_j10 + d_4) (e_j10 + e_5) H locs h hP hD hS ls (lv_sub hl [] rfl)
      · skip
        have h := h.2 c29
        refine lv_iconst (v := 1) G.1 G.2.1 d_Wr_sign_32 (by decide) ?_
        refine lv_goto (tgt := 37) G.1 G.2.1 d_Wr_sign_33 (by decide) ?_
        exact J_37 y_3 s_2 (d_j10 + d_4) (e_j10 + e_5) 1 H locs h hP hD hS ls (lv_sub hl [] rfl)
  refine lv_icmp_ne (tgt := 10) G.1 G.2.1 d_Wr_sign_3 (by decide) (fun c3 => ?_) (fun c3 => ?_)
  · skip
    have h := h.1 c3
    exact J_10 y σ 0 0 v1 H locs h hP hD hS ls (lv_sub hl [0, 1] rfl)
  · skip
    have h := h.2 c3
    refine lv_aload_n G.1 G.2.1 d_Wr_sign_6 rfl (lv_at hl 0 rfl) ?_
    obtain ⟨mc_16, ms_17, hr_18, h⟩ := h
    refine uaVv (As := []) (rest := []) G hP hD hS (ca_Wr_beforeWord l D g ad mc_16 ms_17 y _ σ a0 H.size (us H) h_a0 h) w9_Wr_beforeWord q2168 ⟨Nat.le_of_ble_eq_true rfl, Nat.le_of_ble_eq_true rfl⟩ rfl rfl h_a0 (q := (RWr, TWr, 7)) rfl rfl hl.1 rfl (Nat.le_of_ble_eq_true rfl) rfl hr_18 d_Wr_sign_7 (fun y_13 s_12 d_14 e_15 H locs h hP hD hS => ?_)
    obtain ⟨hd, h⟩ := h
    exact J_10 y_13 s_12 (0 + d_14) (0 + e_15) v1 H locs h hP hD hS ls (lv_sub hl [0, 1] rfl)
def y_Wr_endLine : MethodName := ⟨"ClassWorks$Writer", "endLine", "()V"⟩
abbrev b_Wr_endLine : ByteArray := prog_12_method_4_code
theorem d_Wr_endLine_0 : decode b_Wr_endLine 0 = .ok (.aload_n 0, 1) := by decide +kernel
theorem d_Wr_endLine_1 : decode b_Wr_endLine 1 = .ok (.getfield 14, 3) := by decide +kernel
theorem d_Wr_endLine_4 : decode b_Wr_endLine 4 = .ok (.bipush 10, 2) := by decide +kernel
theorem d_Wr_endLine_6 : decode b_Wr_endLine 6 = .ok (.invokevirtual 70, 3) := by decide +kernel
theorem d_Wr_endLine_9 : decode b_Wr_endLine 9 = .ok (.pop, 1) := by decide +kernel
theorem d_Wr_endLine_10 : decode b_Wr_endLine 10 = .ok (.return_, 1) := by decide +kernel
abbrev ra_Wr_endLine (mc ms : Nat) : Room := { frames := 5, cells := mc, slots := ms, locals := 421 }
def wa_Wr_endLine (mc ms : Nat) (y : Ly) (Post : Ly → St → Nat → Nat → Prop) (σ : St) (a0 : Nat) : Prop := ∃ mc_6 ms_7 : Nat, (0 + mc_6 ≤ mc ∧ 0 + ms_7 ≤ ms) ∧ wa_In_add mc_6 ms_7 y (fun (y_3 : Ly) (s_2 : St) (r_1 : Int32) (d_4 e_5 : Nat) => (0 + d_4 ≤ mc ∧ 0 + e_5 ≤ ms) ∧ Post y_3 s_2 (0 + d_4) (0 + e_5)) σ (lk a0 0) 10
set_option maxHeartbeats 4000000 in
set_option maxRecDepth 100000 in
theorem ca_Wr_endLine (l : Launch) (D : va_G) (g : Nat → ClassId) (ad : Nat → Nat) (mc ms : Nat) (y : Ly) (Post : Ly → St → Nat → Nat → Prop) (σ : St) (a0 : Nat) (sz uz : Nat) (h_a0 : cl a0 = 10) (h : wa_Wr_endLine mc ms y Post σ a0) : Met l y_Wr_endLine (mw y_Wr_endLine b_Wr_endLine 1 (none)) (ra_Wr_endLine mc ms) (PCu g D [] [.ref (ad a0)] sz uz (ws g ad y σ)) (va_Qv (fun (u : Ly × St × Nat × Nat) => Post u.1 u.2.1 u.2.2.1 u.2.2.2) (QU D (va_A (ws g ad y σ) sz) (fun u => ws g ad u.1 u.2.1) sz uz (fun u => u.2.2.1) (fun u => u.2.2.2)) (va_A (ws g ad y σ) sz)) mc ms (va_A (ws g ad y σ) sz) := by
  refine ofVu (by decide +kernel) (Nat.le_of_ble_eq_true rfl) ?_
  intro p e s m args below meth c A Q ls H locs G hsz hP hD hS hl hret
  subst hsz
  have hl : lv_has ls 1 [(0, .ref (ad a0))] := hl
  have hd : 0 ≤ mc ∧ 0 ≤ ms := ⟨Nat.zero_le _, Nat.zero_le _⟩
  unfold wa_Wr_endLine at h
  refine lv_aload_n G.1 G.2.1 d_Wr_endLine_0 rfl (lv_at hl 0 rfl) ?_
  refine ugf (v := .ref (ad (lk a0 0))) G hP h_a0 iWr rfl 0 (by decide) rfl q771 rfl rfl d_Wr_endLine_1 ?_
  refine lv_bipush (v := 10) G.1 G.2.1 d_Wr_endLine_4 (by decide) ?_
  obtain ⟨mc_6, ms_7, hr_8, h⟩ := h
  refine uaVi (As := [.int 10]) (rest := []) G hP hD hS (ca_In_add l D g [] ad mc_6 ms_7 y _ σ (lk a0 0) 10 H.size (us H) (lk_10_0 h_a0) h) w9_In_add q2159 ⟨Nat.le_of_ble_eq_true rfl, Nat.le_of_ble_eq_true rfl⟩ rfl rfl (lk_10_0 h_a0) (q := (RIn, TIn, 2)) rfl rfl hl.1 rfl (Nat.le_of_ble_eq_true rfl) rfl hr_8 d_Wr_endLine_6 (fun r_1 y_3 s_2 d_4 e_5 H locs h hP hD hS => ?_)
  have hl := lv_sub (l' := []) hl [] rfl
  obtain ⟨hd, h⟩ := h
  refine lv_pop G.1 G.2.1 d_Wr_endLine_9 rfl ?_
  exact hret (y_3, s_2, 0 + d_4, 0 + e_5) _ _ _ _ _ ls h hP hD hS (Nat.le_refl _) (Nat.le_refl _) hd.1 hd.2 d_Wr_endLine_10
theorem q2155 : Cond.methodLink "ClassWorks$Writer" 61 y_Wr_beginLine ∈ lw_ok := lw_okmem (List.mem_of_getElem? (i := 2155) (by decide +kernel)) rfl
theorem q2158 : Cond.code y_Wr_beginLine b_Wr_beginLine 3 (none) ∈ lw_ok := lw_okmem (List.mem_of_getElem? (i := 2158) (by decide +kernel)) rfl
theorem q2157 : Cond.instanceMethod y_Wr_beginLine ∈ lw_ok := lw_okmem (List.mem_of_getElem? (i := 2157) (by decide +kernel)) rfl
theorem q119 : Cond.selects y_Wr_beginLine.cls y_Wr_beginLine y_Wr_beginLine ∈ lw_ok := lw_okmem (List.mem_of_getElem? (i := 119) (by decide +kernel)) rfl
theorem w9_Wr_beginLine : CWv y_Wr_beginLine b_Wr_beginLine 3 (none) 1 ∧ Cond.instanceMethod y_Wr_beginLine ∈ lw_ok ∧ Cond.selects y_Wr_beginLine.cls y_Wr_beginLine y_Wr_beginLine ∈ lw_ok := ⟨⟨q2158, q343, by decide +kernel, by decide +kernel, by decide +kernel⟩, q2157, q119⟩
theorem q2160 : Cond.methodLink "ClassWorks$Writer" 94 y_Wr_flag ∈ lw_ok := lw_okmem (List.mem_of_getElem? (i := 2160) (by decide +kernel)) rfl
theorem q2163 : Cond.code y_Wr_flag b_Wr_flag 4 (none) ∈ lw_ok := lw_okmem (List.mem_of_getElem? (i := 2163) (by decide +kernel)) rfl
theorem q2162 : Cond.instanceMethod y_Wr_flag ∈ lw_ok := lw_okmem (List.mem_of_getElem? (i := 2162) (by decide +kernel)) rfl
theorem q120 : Cond.selects y_Wr_flag.cls y_Wr_flag y_Wr_flag ∈ lw_ok := lw_okmem (List.mem_of_getElem? (i := 120) (by decide +kernel)) rfl
theorem w9_Wr_flag : CWv y_Wr_flag b_Wr_flag 4 (none) 3 ∧ Cond.instanceMethod y_Wr_flag ∈ lw_ok ∧ Cond.selects y_Wr_flag.cls y_Wr_flag y_Wr_flag ∈ lw_ok := ⟨⟨q2163, q343, by decide +kernel, by decide +kernel, by decide +kernel⟩, q2162, q120⟩
theorem q2174 : Cond.methodLink "ClassWorks$Writer" 98 y_Wr_sign ∈ lw_ok := lw_okmem (List.mem_of_getElem? (i := 2174) (by decide +kernel)) rfl
theorem q2177 : Cond.code y_Wr_sign b_Wr_sign 2 (none) ∈ lw_ok := lw_okmem (List.mem_of_getElem? (i := 2177) (by decide +kernel)) rfl
theorem q2176 : Cond.instanceMethod y_Wr_sign ∈ lw_ok := lw_okmem (List.mem_of_getElem? (i := 2176) (by decide +kernel)) rfl
theorem q123 : Cond.selects y_Wr_sign.cls y_Wr_sign y_Wr_sign ∈ lw_ok := lw_okmem (List.mem_of_getElem? (i := 123) (by decide +kernel)) rfl
theorem w9_Wr_sign : CWv y_Wr_sign b_Wr_sign 2 (none) 1 ∧ Cond.instanceMethod y_Wr_sign ∈ lw_ok ∧ Cond.selects y_Wr_sign.cls y_Wr_sign y_Wr_sign ∈ lw_ok := ⟨⟨q2177, q343, by decide +kernel, by decide +kernel, by decide +kernel⟩, q2176, q123⟩
theorem q2178 : Cond.methodLink "ClassWorks$Writer" 67 y_Wr_endLine ∈ lw_ok := lw_okmem (List.mem_of_getElem? (i := 2178) (by decide +kernel)) rfl
theorem q2181 : Cond.code y_Wr_endLine b_Wr_endLine 1 (none) ∈ lw_ok := lw_okmem (List.mem_of_getElem? (i := 2181) (by decide +kernel)) rfl
theorem q2180 : Cond.instanceMethod y_Wr_endLine ∈ lw_ok := lw_okmem (List.mem_of_getElem? (i := 2180) (by decide +kernel)) rfl
theorem q124 : Cond.selects y_Wr_endLine.cls y_Wr_endLine y_Wr_endLine ∈ lw_ok := lw_okmem (List.mem_of_getElem? (i := 124) (by decide +kernel)) rfl
theorem w9_Wr_endLine : CWv y_Wr_endLine b_Wr_endLine 1 (none) 0 ∧ Cond.instanceMethod y_Wr_endLine ∈ lw_ok ∧ Cond.selects y_Wr_endLine.cls y_Wr_endLine y_Wr_endLine ∈ lw_ok := ⟨⟨q2181, q343, by decide +kernel, by decide +kernel, by decide +kernel⟩, q2180, q124⟩
def y_Wr_writeHead : MethodName := ⟨"ClassWorks$Writer", "writeHead", "()V"⟩
abbrev b_Wr_writeHead : ByteArray := prog_12_method_11_code
theorem d_Wr_writeHead_0 : decode b_Wr_writeHead 0 = .ok (.aload_n 0, 1) := by decide +kernel
theorem d_Wr_writeHead_1 : decode b_Wr_writeHead 1 = .ok (.getfield 39, 3) := by decide +kernel
theorem d_Wr_writeHead_4 : decode b_Wr_writeHead 4 = .ok (.aload_n 0, 1) := by decide +kernel
theorem d_Wr_writeHead_5 : decode b_Wr_writeHead 5 = .ok (.getfield 20, 3) := by decide +kernel
theorem d_Wr_writeHead_8 : decode b_Wr_writeHead 8 = .ok (.iconst 1, 1) := by decide +kernel
theorem d_Wr_writeHead_9 : decode b_Wr_writeHead 9 = .ok (.invokevirtual 49, 3) := by decide +kernel
theorem d_Wr_writeHead_12 : decode b_Wr_writeHead 12 = .ok (.istore_n 1, 1) := by decide +kernel
theorem d_Wr_writeHead_13 : decode b_Wr_writeHead 13 = .ok (.aload_n 0, 1) := by decide +kernel
theorem d_Wr_writeHead_14 : decode b_Wr_writeHead 14 = .ok (.iconst 0, 1) := by decide +kernel
theorem d_Wr_writeHead_15 : decode b_Wr_writeHead 15 = .ok (.invokevirtual 61, 3) := by decide +kernel
theorem d_Wr_writeHead_18 : decode b_Wr_writeHead 18 = .ok (.aload_n 0, 1) := by decide +kernel
theorem d_Wr_writeHead_19 : decode b_Wr_writeHead 19 = .ok (.iload_n 1, 1) := by decide +kernel
theorem d_Wr_writeHead_20 : decode b_Wr_writeHead 20 = .ok (.iconst 1, 1) := by decide +kernel
theorem d_Wr_writeHead_21 : decode b_Wr_writeHead 21 = .ok (.bipush 37, 2) := by decide +kernel
theorem d_Wr_writeHead_23 : decode b_Wr_writeHead 23 = .ok (.invokevirtual 94, 3) := by decide +kernel
theorem d_Wr_writeHead_26 : decode b_Wr_writeHead 26 = .ok (.aload_n 0, 1) := by decide +kernel
theorem d_Wr_writeHead_27 : decode b_Wr_writeHead 27 = .ok (.iload_n 1, 1) := by decide +kernel
theorem d_Wr_writeHead_28 : decode b_Wr_writeHead 28 = .ok (.iconst 2, 1) := by decide +kernel
theorem d_Wr_writeHead_29 : decode b_Wr_writeHead 29 = .ok (.bipush 38, 2) := by decide +kernel
theorem d_Wr_writeHead_31 : decode b_Wr_writeHead 31 = .ok (.invokevirtual 94, 3) := by decide +kernel
theorem d_Wr_writeHead_34 : decode b_Wr_writeHead 34 = .ok (.aload_n 0, 1) := by decide +kernel
theorem d_Wr_writeHead_35 : decode b_Wr_writeHead 35 = .ok (.iload_n 1, 1) := by decide +kernel
theorem d_Wr_writeHead_36 : decode b_Wr_writeHead 36 = .ok (.iconst 4, 1) := by decide +kernel
theorem d_Wr_writeHead_37 : decode b_Wr_writeHead 37 = .ok (.bipush 39, 2) := by decide +kernel
theorem d_Wr_writeHead_39 : decode b_Wr_writeHead 39 = .ok (.invokevirtual 94, 3) := by decide +kernel
theorem d_Wr_writeHead_42 : decode b_Wr_writeHead 42 = .ok (.aload_n 0, 1) := by decide +kernel
theorem d_Wr_writeHead_43 : decode b_Wr_writeHead 43 = .ok (.bipush 30, 2) := by decide +kernel
theorem d_Wr_writeHead_45 : decode b_Wr_writeHead 45 = .ok (.invokevirtual 64, 3) := by decide +kernel
theorem d_Wr_writeHead_48 : decode b_Wr_writeHead 48 = .ok (.aload_n 0, 1) := by decide +kernel
theorem d_Wr_writeHead_49 : decode b_Wr_writeHead 49 = .ok (.aload_n 0, 1) := by decide +kernel
theorem d_Wr_writeHead_50 : decode b_Wr_writeHead 50 = .ok (.getfield 39, 3) := by decide +kernel
theorem d_Wr_writeHead_53 : decode b_Wr_writeHead 53 = .ok (.aload_n 0, 1) := by decide +kernel
theorem d_Wr_writeHead_54 : decode b_Wr_writeHead 54 = .ok (.getfield 20, 3) := by decide +kernel
theorem d_Wr_writeHead_57 : decode b_Wr_writeHead 57 = .ok (.iconst 0, 1) := by decide +kernel
theorem d_Wr_writeHead_58 : decode b_Wr_writeHead 58 = .ok (.invokevirtual 49, 3) := by decide +kernel
theorem d_Wr_writeHead_61 : decode b_Wr_writeHead 61 = .ok (.invokevirtual 64, 3) := by decide +kernel
theorem d_Wr_writeHead_64 : decode b_Wr_writeHead 64 = .ok (.aload_n 0, 1) := by decide +kernel
theorem d_Wr_writeHead_65 : decode b_Wr_writeHead 65 = .ok (.bipush 58, 2) := by decide +kernel
theorem d_Wr_writeHead_67 : decode b_Wr_writeHead 67 = .ok (.invokevirtual 98, 3) := by decide +kernel
theorem d_Wr_writeHead_70 : decode b_Wr_writeHead 70 = .ok (.aload_n 0, 1) := by decide +kernel
theorem d_Wr_writeHead_71 : decode b_Wr_writeHead 71 = .ok (.aload_n 0, 1) := by decide +kernel
theorem d_Wr_writeHead_72 : decode b_Wr_writeHead 72 = .ok (.getfield 39, 3) := by decide +kernel
theorem d_Wr_writeHead_75 : decode b_Wr_writeHead 75 = .ok (.aload_n 0, 1) := by decide +kernel
theorem d_Wr_writeHead_76 : decode b_Wr_writeHead 76 = .ok (.getfield 20, 3) := by decide +kernel
theorem d_Wr_writeHead_79 : decode b_Wr_writeHead 79 = .ok (.iconst 2, 1) := by decide +kernel
theorem d_Wr_writeHead_80 : decode b_Wr_writeHead 80 = .ok (.invokevirtual 49, 3) := by decide +kernel
theorem d_Wr_writeHead_83 : decode b_Wr_writeHead 83 = .ok (.invokevirtual 64, 3) := by decide +kernel
theorem d_Wr_writeHead_86 : decode b_Wr_writeHead 86 = .ok (.iconst 0, 1) := by decide +kernel
theorem d_Wr_writeHead_87 : decode b_Wr_writeHead 87 = .ok (.istore_n 2, 1) := by decide +kernel
theorem d_Wr_writeHead_88 : decode b_Wr_writeHead 88 = .ok (.iload_n 2, 1) := by decide +kernel
theorem d_Wr_writeHead_89 : decode b_Wr_writeHead 89 = .ok (.aload_n 0, 1) := by decide +kernel
theorem d_Wr_writeHead_90 : decode b_Wr_writeHead 90 = .ok (.getfield 39, 3) := by decide +kernel
theorem d_Wr_writeHead_93 : decode b_Wr_writeHead 93 = .ok (.aload_n 0, 1) := by decide +kernel
theorem d_Wr_writeHead_94 : decode b_Wr_writeHead 94 = .ok (.getfield 20, 3) := by decide +kernel
theorem d_Wr_writeHead_97 : decode b_Wr_writeHead 97 = .ok (.iconst 3, 1) := by decide +kernel
theorem d_Wr_writeHead_98 : decode b_Wr_writeHead 98 = .ok (.invokevirtual 49, 3) := by decide +kernel
theorem d_Wr_writeHead_101 : decode b_Wr_writeHead 101 = .ok (.if_icmp .ge 33, 3) := by decide +kernel
theorem d_Wr_writeHead_104 : decode b_Wr_writeHead 104 = .ok (.aload_n 0, 1) := by decide +kernel
theorem d_Wr_writeHead_105 : decode b_Wr_writeHead 105 = .ok (.bipush 44, 2) := by decide +kernel
theorem d_Wr_writeHead_107 : decode b_Wr_writeHead 107 = .ok (.invokevirtual 98, 3) := by decide +kernel
theorem d_Wr_writeHead_110 : decode b_Wr_writeHead 110 = .ok (.aload_n 0, 1) := by decide +kernel
theorem d_Wr_writeHead_111 : decode b_Wr_writeHead 111 = .ok (.aload_n 0, 1) := by decide +kernel
theorem d_Wr_writeHead_112 : decode b_Wr_writeHead 112 = .ok (.getfield 39, 3) := by decide +kernel
theorem d_Wr_writeHead_115 : decode b_Wr_writeHead 115 = .ok (.aload_n 0, 1) := by decide +kernel
theorem d_Wr_writeHead_116 : decode b_Wr_writeHead 116 = .ok (.getfield 20, 3) := by decide +kernel
theorem d_Wr_writeHead_119 : decode b_Wr_writeHead 119 = .ok (.iconst 4, 1) := by decide +kernel
theorem d_Wr_writeHead_120 : decode b_Wr_writeHead 120 = .ok (.iload_n 2, 1) := by decide +kernel
theorem d_Wr_writeHead_121 : decode b_Wr_writeHead 121 = .ok (.iadd, 1) := by decide +kernel
theorem d_Wr_writeHead_122 : decode b_Wr_writeHead 122 = .ok (.invokevirtual 49, 3) := by decide +kernel
theorem d_Wr_writeHead_125 : decode b_Wr_writeHead 125 = .ok (.invokevirtual 64, 3) := by decide +kernel
theorem d_Wr_writeHead_128 : decode b_Wr_writeHead 128 = .ok (.iinc 2 1, 3) := by decide +kernel
theorem d_Wr_writeHead_131 : decode b_Wr_writeHead 131 = .ok (.goto (-43), 3) := by decide +kernel
theorem d_Wr_writeHead_134 : decode b_Wr_writeHead 134 = .ok (.aload_n 0, 1) := by decide +kernel
theorem d_Wr_writeHead_135 : decode b_Wr_writeHead 135 = .ok (.invokevirtual 67, 3) := by decide +kernel
theorem d_Wr_writeHead_138 : decode b_Wr_writeHead 138 = .ok (.return_, 1) := by decide +kernel
abbrev ra_Wr_writeHead (mc ms : Nat) : Room := { frames := 8, cells := mc, slots := ms, locals := 486 }
def wba_Wr_writeHead_88 (mc ms : Nat) (Post : Ly → St → Nat → Nat → Prop) (K_88 : Ly → St → Nat → Nat → Int32 → Prop) (a0 : Nat) (y_h88 : Ly) (s_h88 : St) (d_h88 e_h88 : Nat) (x2h88 : Int32) : Prop := (d_h88 ≤ mc ∧ e_h88 ≤ ms) ∧ ∃ b_80 : Nat, sO s_h88 a0 2 = some b_80 ∧ cl b_80 = 9 ∧ wu_Wd_of y_h88 (fun (s_84 : St) (r_83 : Int32) => ((r_83 ≤ x2h88 → ∃ mc_90 ms_91 : Nat, (d_h88 + mc_90 ≤ mc ∧ e_h88 + ms_91 ≤ ms) ∧ wa_Wr_endLine mc_90 ms_91 y_h88 (fun (y_87 : Ly) (s_86 : St) (d_88 e_89 : Nat) => (d_h88 + d_88 ≤ mc ∧ e_h88 + e_89 ≤ ms) ∧ Post y_87 s_86 (d_h88 + d_88) (e_h88 + e_89)) s_84 a0) ∧ (¬ (r_83 ≤ x2h88) → ∃ mc_98 ms_99 : Nat, (d_h88 + mc_98 ≤ mc ∧ e_h88 + ms_99 ≤ ms) ∧ wa_Wr_sign mc_98 ms_99 y_h88 (fun (y_95 : Ly) (s_94 : St) (d_96 e_97 : Nat) => (d_h88 + d_96 ≤ mc ∧ e_h88 + e_97 ≤ ms) ∧ ∃ b_101 : Nat, sO s_94 a0 2 = some b_101 ∧ cl b_101 = 9 ∧ wu_Wd_of y_95 (fun (s_105 : St) (r_104 : Int32) => ∃ mc_111 ms_112 : Nat, (d_h88 + d_96 + mc_111 ≤ mc ∧ e_h88 + e_97 + ms_112 ≤ ms) ∧ wa_Wr_word mc_111 ms_112 y_95 (fun (y_108 : Ly) (s_107 : St) (d_109 e_110 : Nat) => (d_h88 + d_96 + d_109 ≤ mc ∧ e_h88 + e_97 + e_110 ≤ ms) ∧ K_88 y_108 s_107 (d_h88 + d_96 + d_109) (e_h88 + e_97 + e_110) (x2h88 + 1)) s_105 a0 r_104) s_94 b_101 (sV s_94 a0 3) (4 + x2h88)) s_84 a0 44))) s_h88 b_80 (sV s_h88 a0 3) 3
def wla_Wr_writeHead_88 (mc ms : Nat) (Post : Ly → St → Nat → Nat → Prop) (a0 : Nat) (y_h88 : Ly) (s_h88 : St) (d_h88 e_h88 : Nat) (x2h88 : Int32) : Prop := ∃ (I : Ly → St → Nat → Nat → Int32 → Prop) (μ : Ly → St → Nat → Nat → Int32 → Nat), I y_h88 s_h88 d_h88 e_h88 x2h88 ∧ ∀ (u1 : Ly) (u2 : St) (u3 u4 : Nat) (t0 : Int32), I u1 u2 u3 u4 t0 → wba_Wr_writeHead_88 mc ms Post (fun z1 z2 z3 z4 t0q => I z1 z2 z3 z4 t0q ∧ μ z1 z2 z3 z4 t0q < μ u1 u2 u3 u4 t0) a0 u1 u2 u3 u4 t0
def wa_Wr_writeHead (mc ms : Nat) (y : Ly) (Post : Ly → St → Nat → Nat → Prop) (σ : St) (a0 : Nat) : Prop := ∃ b_1 : Nat, sO σ a0 2 = some b_1 ∧ cl b_1 = 9 ∧ wu_Wd_of y (fun (s_5 : St) (r_4 : Int32) => ∃ mc_11 ms_12 : Nat, (0 + mc_11 ≤ mc ∧ 0 + ms_12 ≤ ms) ∧ wa_Wr_beginLine mc_11 ms_12 y (fun (y_8 : Ly) (s_7 : St) (d_9 e_10 : Nat) => (0 + d_9 ≤ mc ∧ 0 + e_10 ≤ ms) ∧ ∃ mc_19 ms_20 : Nat, (0 + d_9 + mc_19 ≤ mc ∧ 0 + e_10 + ms_20 ≤ ms) ∧ wa_Wr_flag mc_19 ms_20 y_8 (fun (y_16 : Ly) (s_15 : St) (d_17 e_18 : Nat) => (0 + d_9 + d_17 ≤ mc ∧ 0 + e_10 + e_18 ≤ ms) ∧ ∃ mc_27 ms_28 : Nat, (0 + d_9 + d_17 + mc_27 ≤ mc ∧ 0 + e_10 + e_18 + ms_28 ≤ ms) ∧ wa_Wr_flag mc_27 ms_28 y_16 (fun (y_24 : Ly) (s_23 : St) (d_25 e_26 : Nat) => (0 + d_9 + d_17 + d_25 ≤ mc ∧ 0 + e_10 + e_18 + e_26 ≤ ms) ∧ ∃ mc_35 ms_36 : Nat, (0 + d_9 + d_17 + d_25 + mc_35 ≤ mc ∧ 0 + e_10 + e_18 + e_26 + ms_36 ≤ ms) ∧ wa_Wr_flag mc_35 ms_36 y_24 (fun (y_32 : Ly) (s_31 : St) (d_33 e_34 : Nat) => (0 + d_9 + d_17 + d_25 + d_33 ≤ mc ∧ 0 + e_10 + e_18 + e_26 + e_34 ≤ ms) ∧ ∃ mc_43 ms_44 : Nat, (0 + d_9 + d_17 + d_25 + d_33 + mc_43 ≤ mc ∧ 0 + e_10 + e_18 + e_26 + e_34 + ms_44 ≤ ms) ∧ wa_Wr_word mc_43 ms_44 y_32 (fun (y_40 : Ly) (s_39 : St) (d_41 e_42 : Nat) => (0 + d_9 + d_17 + d_25 + d_33 + d_41 ≤ mc ∧ 0 + e_10 + e_18 + e_26 + e_34 + e_42 ≤ ms) ∧ ∃ b_46 : Nat, sO s_39 a0 2 = some b_46 ∧ cl b_46 = 9 ∧ wu_Wd_of y_40 (fun (s_50 : St) (r_49 : Int32) => ∃ mc_56 ms_57 : Nat, (0 + d_9 + d_17 + d_25 + d_33 + d_41 + mc_56 ≤ mc ∧ 0 + e_10 + e_18 + e_26 + e_34 + e_42 + ms_57 ≤ ms) ∧ wa_Wr_word mc_56 ms_57 y_40 (fun (y_53 : Ly) (s_52 : St) (d_54 e_55 : Nat) => (0 + d_9 + d_17 + d_25 + d_33 + d_41 + d_54 ≤ mc ∧ 0 + e_10 + e_18 + e_26 + e_34 + e_42 + e_55 ≤ ms) ∧ ∃ mc_64 ms_65 : Nat, (0 + d_9 + d_17 + d_25 + d_33 + d_41 + d_54 + mc_64 ≤ mc ∧ 0 + e_10 + e_18 + e_26 + e_34 + e_42 + e_55 + ms_65 ≤ ms) ∧ wa_Wr_sign mc_64 ms_65 y_53 (fun (y_61 : Ly) (s_60 : St) (d_62 e_63 : Nat) => (0 + d_9 + d_17 + d_25 + d_33 + d_41 + d_54 + d_62 ≤ mc ∧ 0 + e_10 + e_18 + e_26 + e_34 + e_42 + e_55 + e_63 ≤ ms) ∧ ∃ b_67 : Nat, sO s_60 a0 2 = some b_67 ∧ cl b_67 = 9 ∧ wu_Wd_of y_61 (fun (s_71 : St) (r_70 : Int32) => ∃ mc_77 ms_78 : Nat, (0 + d_9 + d_17 + d_25 + d_33 + d_41 + d_54 + d_62 + mc_77 ≤ mc ∧ 0 + e_10 + e_18 + e_26 + e_34 + e_42 + e_55 + e_63 + ms_78 ≤ ms) ∧ wa_Wr_word mc_77 ms_78 y_61 (fun (y_74 : Ly) (s_73 : St) (d_75 e_76 : Nat) => (0 + d_9 + d_17 + d_25 + d_33 + d_41 + d_54 + d_62 + d_75 ≤ mc ∧ 0 + e_10 + e_18 + e_26 + e_34 + e_42 + e_55 + e_63 + e_76 ≤ ms) ∧ wla_Wr_writeHead_88 mc ms Post a0 y_74 s_73 (0 + d_9 + d_17 + d_25 + d_33 + d_41 + d_54 + d_62 + d_75) (0 + e_10 + e_18 + e_26 + e_34 + e_42 + e_55 + e_63 + e_76) 0) s_71 a0 r_70) s_60 b_67 (sV s_60 a0 3) 2) s_52 a0 58) s_50 a0 r_49) s_39 b_46 (sV s_39 a0 3) 0) s_31 a0 30) s_23 a0 r_4 4 39) s_15 a0 r_4 2 38) s_7 a0 r_4 1 37) s_5 a0 0) σ b_1 (sV σ a0 3) 1
set_option maxHeartbeats 4000000 in
set_option maxRecDepth 100000 in
theorem ca_Wr_writeHead (l : Launch) (D : va_G) (g : Nat → ClassId) (ad : Nat → Nat) (mc ms : Nat) (y : Ly) (Post : Ly → St → Nat → Nat → Prop) (σ : St) (a0 : Nat) (sz uz : Nat) (h_a0 : cl a0 = 10) (h : wa_Wr_writeHead mc ms y Post σ a0) : Met l y_Wr_writeHead (mw y_Wr_writeHead b_Wr_writeHead 3 (none)) (ra_Wr_writeHead mc ms) (PCu g D [] [.ref (ad a0)] sz uz (ws g ad y σ)) (va_Qv (fun (u : Ly × St × Nat × Nat) => Post u.1 u.2.1 u.2.2.1 u.2.2.2) (QU D (va_A (ws g ad y σ) sz) (fun u => ws g ad u.1 u.2.1) sz uz (fun u => u.2.2.1) (fun u => u.2.2.2)) (va_A (ws g ad y σ) sz)) mc ms (va_A (ws g ad y σ) sz) := by
  refine ofVu (by decide +kernel) (Nat.le_of_ble_eq_true rfl) ?_
  intro p e s m args below meth c A Q ls H locs G hsz hP hD hS hl hret
  subst hsz
  have hl : lv_has ls 3 [(0, .ref (ad a0))] := hl
  have hd : 0 ≤ mc ∧ 0 ≤ ms := ⟨Nat.zero_le _, Nat.zero_le _⟩
  unfold wa_Wr_writeHead at h
  refine lv_aload_n G.1 G.2.1 d_Wr_writeHead_0 rfl (lv_at hl 0 rfl) ?_
  obtain ⟨b_1, e_2, c_3, h⟩ := h
  refine ugf (v := .ref (ad b_1)) G hP h_a0 iWr rfl 2 (by decide) rfl q774 rfl (by show va_rf ((sO σ a0 2).map ad) = _; rw [e_2]; rfl) d_Wr_writeHead_1 ?_
  refine lv_aload_n G.1 G.2.1 d_Wr_writeHead_4 rfl (lv_at hl 0 rfl) ?_
  refine ugf (v := .int (sV σ a0 3)) G hP h_a0 iWr rfl 3 (by decide) rfl q775 rfl rfl d_Wr_writeHead_5 ?_
  refine lv_iconst (v := 1) G.1 G.2.1 d_Wr_writeHead_8 (by decide) ?_
  refine ucVi (As := [.int (sV σ a0 3), .int 1]) (rest := []) G hP hD hS (cu_Wd_of l D g ad y _ σ b_1 (sV σ a0 3) 1 H.size c_3 h) w9_Wd_of q2154 ⟨Nat.le_of_ble_eq_true rfl, Nat.le_of_ble_eq_true rfl⟩ rfl rfl c_3 (q := (RWd, TWd, 17)) rfl rfl hl.1 rfl (Nat.le_of_ble_eq_true rfl) rfl hd d_Wr_writeHead_9 (fun r_4 s_5 H locs h hP hD hS => ?_)
  refine lv_istore_n (lv' := [(1, .int r_4), (0, .ref (ad a0))]) G.1 G.2.1 d_Wr_writeHead_12 rfl hl (by decide) rfl (fun ls hl => ?_)
  refine lv_aload_n G.1 G.2.1 d_Wr_writeHead_13 rfl (lv_at hl 1 rfl) ?_
  refine lv_iconst (v := 0) G.1 G.2.1 d_Wr_writeHead_14 (by decide) ?_
  obtain ⟨mc_11, ms_12, hr_13, h⟩ := h
  refine uaVv (As := [.int 0]) (rest := []) G hP hD hS (ca_Wr_beginLine l D g ad mc_11 ms_12 y _ s_5 a0 0 H.size (us H) h_a0 h) w9_Wr_beginLine q2155 ⟨Nat.le_of_ble_eq_true rfl, Nat.le_of_ble_eq_true rfl⟩ rfl rfl h_a0 (q := (RWr, TWr, 7)) rfl rfl hl.1 rfl (Nat.le_of_ble_eq_true rfl) rfl hr_13 d_Wr_writeHead_15 (fun y_8 s_7 d_9 e_10 H locs h hP hD hS => ?_)
  obtain ⟨hd, h⟩ := h
  refine lv_aload_n G.1 G.2.1 d_Wr_writeHead_18 rfl (lv_at hl 1 rfl) ?_
  refine W.eq (g2 := F0 m 19 ls [.ref (ad a0)]) rfl ?_
  refine lv_iload_n G.1 G.2.1 d_Wr_writeHead_19 rfl (lv_at hl 0 rfl) ?_
  refine lv_iconst (v := 1) G.1 G.2.1 d_Wr_writeHead_20 (by decide) ?_
  refine lv_bipush (v := 37) G.1 G.2.1 d_Wr_writeHead_21 (by decide) ?_
  obtain ⟨mc_19, ms_20, hr_21, h⟩ := h
  refine uaVv (As := [.int r_4, .int 1, .int 37]) (rest := []) G hP hD hS (ca_Wr_flag l D g ad mc_19 ms_20 y_8 _ s_7 a0 r_4 1 37 H.size (us H) h_a0 h) w9_Wr_flag q2160 ⟨Nat.le_of_ble_eq_true rfl, Nat.le_of_ble_eq_true rfl⟩ rfl rfl h_a0 (q := (RWr, TWr, 7)) rfl rfl hl.1 rfl (Nat.le_of_ble_eq_true rfl) rfl hr_21 d_Wr_writeHead_23 (fun y_16 s_15 d_17 e_18 H locs h hP hD hS => ?_)
  obtain ⟨hd, h⟩ := h
  refine lv_aload_n G.1 G.2.1 d_Wr_writeHead_26 rfl (lv_at hl 1 rfl) ?_
  refine lv_iload_n G.1 G.2.1 d_Wr_writeHead_27 rfl (lv_at hl 0 rfl) ?_
  refine lv_iconst (v := 2) G.1 G.2.1 d_Wr_writeHead_28 (by decide) ?_
  refine lv_bipush (v := 38) G.1 G.2.1 d_Wr_writeHead_29 (by decide) ?_
  obtain ⟨mc_27, ms_28, hr_29, h⟩ := h
  refine uaVv (As := [.int r_4, .int 2, .int 38]) (rest := []) G hP hD hS (ca_Wr_flag l D g ad mc_27 ms_28 y_16 _ s_15 a0 r_4 2 38 H.size (us H) h_a0 h) w9_Wr_flag q2160 ⟨Nat.le_of_ble_eq_true rfl, Nat.le_of_ble_eq_true rfl⟩ rfl rfl h_a0 (q := (RWr, TWr, 7)) rfl rfl hl.1 rfl (Nat.le_of_ble_eq_true rfl) rfl hr_29 d_Wr_writeHead_31 (fun y_24 s_23 d_25 e_26 H locs h hP hD hS => ?_)
  obtain ⟨hd, h⟩ := h
  refine lv_aload_n G.1 G.2.1 d_Wr_writeHead_34 rfl (lv_at hl 1 rfl) ?_
  refine lv_iload_n G.1 G.2.1 d_Wr_writeHead_35 rfl (lv_at hl 0 rfl) ?_
  refine lv_iconst (v := 4) G.1 G.2.1 d_Wr_writeHead_36 (by decide) ?_
  refine W.eq (g2 := F0 m 37 ls [.int 4, .int r_4, .ref (ad a0)]) rfl ?_
  refine lv_bipush (v := 39) G.1 G.2.1 d_Wr_writeHead_37 (by decide) ?_
  obtain ⟨mc_35, ms_36, hr_37, h⟩ := h
  refine uaVv (As := [.int r_4, .int 4, .int 39]) (rest := []) G hP hD hS (ca_Wr_flag l D g ad mc_35 ms_36 y_24 _ s_23 a0 r_4 4 39 H.size (us H) h_a0 h) w9_Wr_flag q2160 ⟨Nat.le_of_ble_eq_true rfl, Nat.le_of_ble_eq_true rfl⟩ rfl rfl h_a0 (q := (RWr, TWr, 7)) rfl rfl hl.1 rfl (Nat.le_of_ble_eq_true rfl) rfl hr_37 d_Wr_writeHead_39 (fun y_32 s_31 d_33 e_34 H locs h hP hD hS => ?_)
  have hl := lv_sub (l' := [(0, .ref (ad a0))]) hl [1] rfl
  obtain ⟨hd, h⟩ := h
  refine lv_aload_n G.1 G.2.1 d_Wr_writeHead_42 rfl (lv_at hl 0 rfl) ?_
  refine lv_bipush (v := 30) G.1 G.2.1 d_Wr_writeHead_43 (by decide) ?_
  obtain ⟨mc_43, ms_44, hr_45, h⟩ := h
  refine uaVv (As := [.int 30]) (rest := []) G hP hD hS (ca_Wr_word l D g ad mc_43 ms_44 y_32 _ s_31 a0 30 H.size (us H) h_a0 h) w9_Wr_word q2164 ⟨Nat.le_of_ble_eq_true rfl, Nat.le_of_ble_eq_true rfl⟩ rfl rfl h_a0 (q := (RWr, TWr, 7)) rfl rfl hl.1 rfl (Nat.le_of_ble_eq_true rfl) rfl hr_45 d_Wr_writeHead_45 (fun y_40 s_39 d_41 e_42 H locs h hP hD hS => ?_)
  obtain ⟨hd, h⟩ := h
  refine lv_aload_n G.1 G.2.1 d_Wr_writeHead_48 rfl (lv_at hl 0 rfl) ?_
  refine lv_aload_n G.1 G.2.1 d_Wr_writeHead_49 rfl (lv_at hl 0 rfl) ?_
  obtain ⟨b_46, e_47, c_48, h⟩ := h
  refine ugf (v := .ref (ad b_46)) G hP h_a0 iWr rfl 2 (by decide) rfl q774 rfl (by show va_rf ((sO s_39 a0 2).map ad) = _; rw [e_47]; rfl) d_Wr_writeHead_50 ?_
  refine lv_aload_n G.1 G.2.1 d_Wr_writeHead_53 rfl (lv_at hl 0 rfl) ?_
  refine ugf (v := .int (sV s_39 a0 3)) G hP h_a0 iWr rfl 3 (by decide) rfl q775 rfl rfl d_Wr_writeHead_54 ?_
  refine lv_iconst (v := 0) G.1 G.2.1 d_Wr_writeHead_57 (by decide) ?_
  refine ucVi (As := [.int (sV s_39 a0 3), .int 0]) (rest := [.ref (ad a0)]) G hP hD hS (cu_Wd_of l D g ad y_40 _ s_39 b_46 (sV s_39 a0 3) 0 H.size c_48 h) w9_Wd_of q2154 ⟨Nat.le_of_ble_eq_true rfl, Nat.le_of_ble_eq_true rfl⟩ rfl rfl c_48 (q := (RWd, TWd, 17)) rfl rfl hl.1 rfl (Nat.le_of_ble_eq_true rfl) rfl hd d_Wr_writeHead_58 (fun r_49 s_50 H locs h hP hD hS => ?_)
  refine W.eq (g2 := F0 m 61 ls [.int r_49, .ref (ad a0)]) rfl ?_
  obtain ⟨mc_56, ms_57, hr_58, h⟩ := h
  refine uaVv (As := [.int r_49]) (rest := []) G hP hD hS (ca_Wr_word l D g ad mc_56 ms_57 y_40 _ s_50 a0 r_49 H.size (us H) h_a0 h) w9_Wr_word q2164 ⟨Nat.le_of_ble_eq_true rfl, Nat.le_of_ble_eq_true rfl⟩ rfl rfl h_a0 (q := (RWr, TWr, 7)) rfl rfl hl.1 rfl (Nat.le_of_ble_eq_true rfl) rfl hr_58 d_Wr_writeHead_61 (fun y_53 s_52 d_54 e_55 H locs h hP hD hS => ?_)
  obtain ⟨hd, h⟩ := h
  refine lv_aload_n G.1 G.2.1 d_Wr_writeHead_64 rfl (lv_at hl 0 rfl) ?_
  refine lv_bipush (v := 58) G.1 G.2.1 d_Wr_writeHead_65 (by decide) ?_
  obtain ⟨mc_64, ms_65, hr_66, h⟩ := h
  refine uaVv (As := [.int 58]) (rest := []) G hP hD hS (ca_Wr_sign l D g ad mc_64 ms_65 y_53 _ s_52 a0 58 H.size (us H) h_a0 h) w9_Wr_sign q2174 ⟨Nat.le_of_ble_eq_true rfl, Nat.le_of_ble_eq_true rfl⟩ rfl rfl h_a0 (q := (RWr, TWr, 7)) rfl rfl hl.1 rfl (Nat.le_of_ble_eq_true rfl) rfl hr_66 d_Wr_writeHead_67 (fun y_61 s_60 d_62 e_63 H locs h hP hD hS => ?_)
  obtain ⟨hd, h⟩ := h
  refine lv_aload_n G.1 G.2.1 d_Wr_writeHead_70 rfl (lv_at hl 0 rfl) ?_
  refine lv_aload_n G.1 G.2.1 d_Wr_writeHead_71 rfl (lv_at hl 0 rfl) ?_
  obtain ⟨b_67, e_68, c_69, h⟩ := h
  refine ugf (v := .ref (ad b_67)) G hP h_a0 iWr rfl 2 (by decide) rfl q774 rfl (by show va_rf ((sO s_60 a0 2).map ad) = _; rw [e_68]; rfl) d_Wr_writeHead_72 ?_
  refine lv_aload_n G.1 G.2.1 d_Wr_writeHead_75 rfl (lv_at hl 0 rfl) ?_
  refine ugf (v := .int (sV s_60 a0 3)) G hP h_a0 iWr rfl 3 (by decide) rfl q775 rfl rfl d_Wr_writeHead_76 ?_
  refine lv_iconst (v := 2) G.1 G.2.1 d_Wr_writeHead_79 (by decide) ?_
  refine ucVi (As := [.int (sV s_60 a0 3), .int 2]) (rest := [.ref (ad a0)]) G hP hD hS (cu_Wd_of l D g ad y_61 _ s_60 b_67 (sV s_60 a0 3) 2 H.size c_69 h) w9_Wd_of q2154 ⟨Nat.le_of_ble_eq_true rfl, Nat.le_of_ble_eq_true rfl⟩ rfl rfl c_69 (q := (RWd, TWd, 17)) rfl rfl hl.1 rfl (Nat.le_of_ble_eq_true rfl) rfl hd d_Wr_writeHead_80 (fun r_70 s_71 H locs h hP hD hS => ?_)
  obtain ⟨mc_77, ms_78, hr_79, h⟩ := h
  refine uaVv (As := [.int r_70]) (rest := []) G hP hD hS (ca_Wr_word l D g ad mc_77 ms_78 y_61 _ s_71 a0 r_70 H.size (us H) h_a0 h) w9_Wr_word q2164 ⟨Nat.le_of_ble_eq_true rfl, Nat.le_of_ble_eq_true rfl⟩ rfl rfl h_a0 (q := (RWr, TWr, 7)) rfl rfl hl.1 rfl (Nat.le_of_ble_eq_true rfl) rfl hr_79 d_Wr_writeHead_83 (fun y_74 s_73 d_75 e_76 H locs h hP hD hS => ?_)
  obtain ⟨hd, h⟩ := h
  refine W.eq (g2 := F0 m 86 ls []) rfl ?_
  refine lv_iconst (v := 0) G.1 G.2.1 d_Wr_writeHead_86 (by decide) ?_
  refine lv_istore_n (lv' := [(2, .int 0), (0, .ref (ad a0))]) G.1 G.2.1 d_Wr_writeHead_87 rfl hl (by decide) rfl (fun ls hl => ?_)
  unfold wla_Wr_writeHead_88 at h
  obtain ⟨I_88, μ_88, hI_88, hB_88⟩ := h
  have L_88 : ∀ (n_88 : Nat) (y_h88 : Ly) (s_h88 : St) (d_h88 e_h88 : Nat) (x2h88 : Int32), μ_88 y_h88 s_h88 d_h88 e_h88 x2h88 < n_88 → I_88 y_h88 s_h88 d_h88 e_h88 x2h88 → ∀ (H : Heap) (locs : List Loc), va_P D CL (ws g ad y_h88 s_h88) H → va_D A (ws g ad y_h88 s_h88) → va_S A s.heap H locs → ∀ ls, lv_has ls 3 [(0, .ref (ad a0)), (2, .int x2h88)] → W p l e (ra_Wr_writeHead mc ms) s m args below meth c H locs d_h88 e_h88 Q (F0 m 88 ls []) := by
    intro n_88
    induction n_88 with
    | zero => intro y_h88 s_h88 d_h88 e_h88 x2h88 hμ; exact absurd hμ (Nat.not_lt_zero _)
    | succ n_88 ih_88 =>
      intro y_h88 s_h88 d_h88 e_h88 x2h88 hμ_88 hJ H locs hP hD hS ls hl
      obtain ⟨K_88, hK_88, h⟩ : ∃ K : Ly → St → Nat → Nat → Int32 → Prop, (∀ z1 z2 z3 z4 (t0 : Int32), K z1 z2 z3 z4 t0 → I_88 z1 z2 z3 z4 t0 ∧ μ_88 z1 z2 z3 z4 t0 < μ_88 y_h88 s_h88 d_h88 e_h88 x2h88) ∧ wba_Wr_writeHead_88 mc ms Post K a0 y_h88 s_h88 d_h88 e_h88 x2h88 := ⟨_, fun _ _ _ _ _ h => h, hB_88 y_h88 s_h88 d_h88 e_h88 x2h88 hJ⟩
      unfold wba_Wr_writeHead_88 at h
      obtain ⟨hd, h⟩ := h
      refine lv_iload_n G.1 G.2.1 d_Wr_writeHead_88 rfl (lv_at hl 1 rfl) ?_
      refine lv_aload_n G.1 G.2.1 d_Wr_writeHead_89 rfl (lv_at hl 0 rfl) ?_
      obtain ⟨b_80, e_81, c_82, h⟩ := h
      refine ugf (v := .ref (ad b_80)) G hP h_a0 iWr rfl 2 (by decide) rfl q774 rfl (by show va_rf ((sO s_h88 a0 2).map ad) = _; rw [e_81]; rfl) d_Wr_writeHead_90 ?_
      refine lv_aload_n G.1 G.2.1 d_Wr_writeHead_93 rfl (lv_at hl 0 rfl) ?_
      refine ugf (v := .int (sV s_h88 a0 3)) G hP h_a0 iWr rfl 3 (by decide) rfl q775 rfl rfl d_Wr_writeHead_94 ?_
      refine lv_iconst (v := 3) G.1 G.2.1 d_Wr_writeHead_97 (by decide) ?_
      refine ucVi (As := [.int (sV s_h88 a0 3), .int 3]) (rest := [.int x2h88]) G hP hD hS (cu_Wd_of l D g ad y_h88 _ s_h88 b_80 (sV s_h88 a0 3) 3 H.size c_82 h) w9_Wd_of q2154 ⟨Nat.le_of_ble_eq_true rfl, Nat.le_of_ble_eq_true rfl⟩ rfl rfl c_82 (q := (RWd, TWd, 17)) rfl rfl hl.1 rfl (Nat.le_of_ble_eq_true rfl) rfl hd d_Wr_writeHead_98 (fun r_83 s_84 H locs h hP hD hS => ?_)
      refine lv_icmp_ge (tgt := 134) G.1 G.2.1 d_Wr_writeHead_101 (by decide) (fun c101 => ?_) (fun c101 => ?_)
      · skip
        have h := h.1 c101
        refine lv_aload_n G.1 G.2.1 d_Wr_writeHead_134 rfl (lv_at hl 0 rfl) ?_
        obtain ⟨mc_90, ms_91, hr_92, h⟩ := h
        refine uaVv (As := []) (rest := []) G hP hD hS (ca_Wr_endLine l D g ad mc_90 ms_91 y_h88 _ s_84 a0 H.size (us H) h_a0 h) w9_Wr_endLine q2178 ⟨Nat.le_of_ble_eq_true rfl, Nat.le_of_ble_eq_true rfl⟩ rfl rfl h_a0 (q := (RWr, TWr, 7)) rfl rfl hl.1 rfl (Nat.le_of_ble_eq_true rfl) rfl hr_92 d_Wr_writeHead_135 (fun y_87 s_86 d_88 e_89 H locs h hP hD hS => ?_)
        have hl := lv_sub (l' := []) hl [] rfl
        obtain ⟨hd, h⟩ := h
        exact hret (y_87, s_86, d_h88 + d_88, e_h88 + e_89) _ _ _ _ _ ls h hP hD hS (Nat.le_refl _) (Nat.le_refl _) hd.1 hd.2 d_Wr_writeHead_138
      · skip
        have h := h.2 c101
        refine lv_aload_n G.1 G.2.1 d_Wr_writeHead_104 rfl (lv_at hl 0 rfl) ?_
        refine lv_bipush (v := 44) G.1 G.2.1 d_Wr_writeHead_105 (by decide) ?_
        obtain ⟨mc_98, ms_99, hr_100, h⟩ := h
        refine uaVv (As := [.int 44]) (rest := []) G hP hD hS (ca_Wr_sign l D g ad mc_98 ms_99 y_h88 _ s_84 a0 44 H.size (us H) h_a0 h) w9_Wr_sign q2174 ⟨Nat.le_of_ble_eq_true rfl, Nat.le_of_ble_eq_true rfl⟩ rfl rfl h_a0 (q := (RWr, TWr, 7)) rfl rfl hl.1 rfl (Nat.le_of_ble_eq_true rfl) rfl hr_100 d_Wr_writeHead_107 (fun y_95 s_94 d_96 e_97 H locs h hP hD hS => ?_)
        obtain ⟨hd, h⟩ := h
        refine W.eq (g2 := F0 m 110 ls []) rfl ?_
        refine lv_aload_n G.1 G.2.1 d_Wr_writeHead_110 rfl (lv_at hl 0 rfl) ?_
        refine lv_aload_n G.1 G.2.1 d_Wr_writeHead_111 rfl (lv_at hl 0 rfl) ?_
        obtain ⟨b_101, e_102, c_103, h⟩ := h
        refine ugf (v := .ref (ad b_101)) G hP h_a0 iWr rfl 2 (by decide) rfl q774 rfl (by show va_rf ((sO s_94 a0 2).map ad) = _; rw [e_102]; rfl) d_Wr_writeHead_112 ?_
        refine lv_aload_n G.1 G.2.1 d_Wr_writeHead_115 rfl (lv_at hl 0 rfl) ?_
        refine ugf (v := .int (sV s_94 a0 3)) G hP h_a0 iWr rfl 3 (by decide) rfl q775 rfl rfl d_Wr_writeHead_116 ?_
        refine lv_iconst (v := 4) G.1 G.2.1 d_Wr_writeHead_119 (by decide) ?_
        refine lv_iload_n G.1 G.2.1 d_Wr_writeHead_120 rfl (lv_at hl 1 rfl) ?_
        refine lv_iadd G.1 G.2.1 d_Wr_writeHead_121 ?_
        refine ucVi (As := [.int (sV s_94 a0 3), .int (4 + x2h88)]) (rest := [.ref (ad a0)]) G hP hD hS (cu_Wd_of l D g ad y_95 _ s_94 b_101 (sV s_94 a0 3) (4 + x2h88) H.size c_103 h) w9_Wd_of q2154 ⟨Nat.le_of_ble_eq_true rfl, Nat.le_of_ble_eq_true rfl⟩ rfl rfl c_103 (q := (RWd, TWd, 17)) rfl rfl hl.1 rfl (Nat.le_of_ble_eq_true rfl) rfl hd d_Wr_writeHead_122 (fun r_104 s_105 H locs h hP hD hS => ?_)
        obtain ⟨mc_111, ms_112, hr_113, h⟩ := h
        refine uaVv (As := [.int r_104]) (rest := []) G hP hD hS (ca_Wr_word l D g ad mc_111 ms_112 y_95 _ s_105 a0 r_104 H.size (us H) h_a0 h) w9_Wr_word q2164 ⟨Nat.le_of_ble_eq_true rfl, Nat.le_of_ble_eq_true rfl⟩ rfl rfl h_a0 (q := (RWr, TWr, 7)) rfl rfl hl.1 rfl (Nat.le_of_ble_eq_true rfl) rfl hr_113 d_Wr_writeHead_125 (fun y_108 s_107 d_109 e_110 H locs h hP hD hS => ?_)
        obtain ⟨hd, h⟩ := h
        refine lv_iinc (v := x2h88 + 1) (lv' := [(2, .int (x2h88 + 1)), (0, .ref (ad a0))]) G.1 G.2.1 d_Wr_writeHead_128 hl (k := 1) rfl rfl (by decide) rfl (fun ls hl => ?_)
        refine lv_goto (tgt := 88) G.1 G.2.1 d_Wr_writeHead_131 (by decide) ?_
        have h := hK_88 y_108 s_107 (d_h88 + d_96 + d_109) (e_h88 + e_97 + e_110) (x2h88 + 1) h
        exact ih_88 y_108 s_107 (d_h88 + d_96 + d_109) (e_h88 + e_97 + e_110) (x2h88 + 1) (Nat.lt_of_lt_of_le h.2 (Nat.le_of_lt_succ hμ_88)) h.1 H locs hP hD hS ls (lv_sub hl [1, 0] rfl)
  exact L_88 _ y_74 s_73 (0 + d_9 + d_17 + d_25 + d_33 + d_41 + d_54 + d_62 + d_75) (0 + e_10 + e_18 + e_26 + e_34 + e_42 + e_55 + e_63 + e_76) 0 (Nat.lt_succ_self _) hI_88 H locs hP hD hS ls (lv_sub hl [1, 0] rfl)
def y_Wr_digits : MethodName := ⟨"ClassWorks$Writer", "digits", "(I)V"⟩
abbrev b_Wr_digits : ByteArray := prog_12_method_9_code
theorem q2195 : Cond.constantLong "ClassWorks$Writer" 88 (1000000000) ∈ lw_ok := lw_okmem (List.mem_of_getElem? (i := 2195) (by decide +kernel)) rfl
theorem q2197 : Cond.constantLong "ClassWorks$Writer" 92 (10) ∈ lw_ok := lw_okmem (List.mem_of_getElem? (i := 2197) (by decide +kernel)) rfl
theorem q2196 : Cond.constantLong "ClassWorks$Writer" 90 (48) ∈ lw_ok := lw_okmem (List.mem_of_getElem? (i := 2196) (by decide +kernel)) rfl
theorem d_Wr_digits_0 : decode b_Wr_digits 0 = .ok (.iload_n 1, 1) := by decide +kernel
theorem d_Wr_digits_1 : decode b_Wr_digits 1 = .ok (.i2l, 1) := by decide +kernel
theorem d_Wr_digits_2 : decode b_Wr_digits 2 = .ok (.lstore_n 2, 1) := by decide +kernel
theorem d_Wr_digits_3 : decode b_Wr_digits 3 = .ok (.lload_n 2, 1) := by decide +kernel
theorem d_Wr_digits_4 : decode b_Wr_digits 4 = .ok (.lconst 0, 1) := by decide +kernel
theorem d_Wr_digits_5 : decode b_Wr_digits 5 = .ok (.lcmp, 1) := by decide +kernel
theorem d_Wr_digits_6 : decode b_Wr_digits 6 = .ok (.ifCond .ge 16, 3) := by decide +kernel
theorem d_Wr_digits_9 : decode b_Wr_digits 9 = .ok (.aload_n 0, 1) := by decide +kernel
theorem d_Wr_digits_10 : decode b_Wr_digits 10 = .ok (.getfield 14, 3) := by decide +kernel
theorem d_Wr_digits_13 : decode b_Wr_digits 13 = .ok (.bipush 45, 2) := by decide +kernel
theorem d_Wr_digits_15 : decode b_Wr_digits 15 = .ok (.invokevirtual 70, 3) := by decide +kernel
theorem d_Wr_digits_18 : decode b_Wr_digits 18 = .ok (.pop, 1) := by decide +kernel
theorem d_Wr_digits_19 : decode b_Wr_digits 19 = .ok (.lload_n 2, 1) := by decide +kernel
theorem d_Wr_digits_20 : decode b_Wr_digits 20 = .ok (.lneg, 1) := by decide +kernel
theorem d_Wr_digits_21 : decode b_Wr_digits 21 = .ok (.lstore_n 2, 1) := by decide +kernel
theorem d_Wr_digits_22 : decode b_Wr_digits 22 = .ok (.iconst 0, 1) := by decide +kernel
theorem d_Wr_digits_23 : decode b_Wr_digits 23 = .ok (.istore 4, 2) := by decide +kernel
theorem d_Wr_digits_25 : decode b_Wr_digits 25 = .ok (.ldc2_w 88, 3) := by decide +kernel
theorem d_Wr_digits_28 : decode b_Wr_digits 28 = .ok (.lstore 5, 2) := by decide +kernel
theorem d_Wr_digits_30 : decode b_Wr_digits 30 = .ok (.lload 5, 2) := by decide +kernel
theorem d_Wr_digits_32 : decode b_Wr_digits 32 = .ok (.lconst 0, 1) := by decide +kernel
theorem d_Wr_digits_33 : decode b_Wr_digits 33 = .ok (.lcmp, 1) := by decide +kernel
theorem d_Wr_digits_34 : decode b_Wr_digits 34 = .ok (.ifCond .le 66, 3) := by decide +kernel
theorem d_Wr_digits_37 : decode b_Wr_digits 37 = .ok (.iload 4, 2) := by decide +kernel
theorem d_Wr_digits_39 : decode b_Wr_digits 39 = .ok (.ifCond .ne 17, 3) := by decide +kernel
theorem d_Wr_digits_42 : decode b_Wr_digits 42 = .ok (.lload_n 2, 1) := by decide +kernel
theorem d_Wr_digits_43 : decode b_Wr_digits 43 = .ok (.lload 5, 2) := by decide +kernel
theorem d_Wr_digits_45 : decode b_Wr_digits 45 = .ok (.lcmp, 1) := by decide +kernel
theorem d_Wr_digits_46 : decode b_Wr_digits 46 = .ok (.ifCond .ge 10, 3) := by decide +kernel
theorem d_Wr_digits_49 : decode b_Wr_digits 49 = .ok (.lload 5, 2) := by decide +kernel
theorem d_Wr_digits_51 : decode b_Wr_digits 51 = .ok (.lconst 1, 1) := by decide +kernel
theorem d_Wr_digits_52 : decode b_Wr_digits 52 = .ok (.lcmp, 1) := by decide +kernel
theorem d_Wr_digits_53 : decode b_Wr_digits 53 = .ok (.ifCond .ne 7, 3) := by decide +kernel
theorem d_Wr_digits_56 : decode b_Wr_digits 56 = .ok (.iconst 1, 1) := by decide +kernel
theorem d_Wr_digits_57 : decode b_Wr_digits 57 = .ok (.goto 4, 3) := by decide +kernel
theorem d_Wr_digits_60 : decode b_Wr_digits 60 = .ok (.iconst 0, 1) := by decide +kernel
theorem d_Wr_digits_61 : decode b_Wr_digits 61 = .ok (.istore 4, 2) := by decide +kernel
theorem d_Wr_digits_63 : decode b_Wr_digits 63 = .ok (.iload 4, 2) := by decide +kernel
theorem d_Wr_digits_65 : decode b_Wr_digits 65 = .ok (.ifCond .eq 24, 3) := by decide +kernel
theorem d_Wr_digits_68 : decode b_Wr_digits 68 = .ok (.aload_n 0, 1) := by decide +kernel
theorem d_Wr_digits_69 : decode b_Wr_digits 69 = .ok (.getfield 14, 3) := by decide +kernel
theorem d_Wr_digits_72 : decode b_Wr_digits 72 = .ok (.ldc2_w 90, 3) := by decide +kernel
theorem d_Wr_digits_75 : decode b_Wr_digits 75 = .ok (.lload_n 2, 1) := by decide +kernel
theorem d_Wr_digits_76 : decode b_Wr_digits 76 = .ok (.lload 5, 2) := by decide +kernel
theorem d_Wr_digits_78 : decode b_Wr_digits 78 = .ok (.ldiv, 1) := by decide +kernel
theorem d_Wr_digits_79 : decode b_Wr_digits 79 = .ok (.ldc2_w 92, 3) := by decide +kernel
theorem d_Wr_digits_82 : decode b_Wr_digits 82 = .ok (.lrem, 1) := by decide +kernel
theorem d_Wr_digits_83 : decode b_Wr_digits 83 = .ok (.ladd, 1) := by decide +kernel
theorem d_Wr_digits_84 : decode b_Wr_digits 84 = .ok (.l2i, 1) := by decide +kernel
theorem d_Wr_digits_85 : decode b_Wr_digits 85 = .ok (.invokevirtual 70, 3) := by decide +kernel
theorem d_Wr_digits_88 : decode b_Wr_digits 88 = .ok (.pop, 1) := by decide +kernel
theorem d_Wr_digits_89 : decode b_Wr_digits 89 = .ok (.lload 5, 2) := by decide +kernel
theorem d_Wr_digits_91 : decode b_Wr_digits 91 = .ok (.ldc2_w 92, 3) := by decide +kernel
theorem d_Wr_digits_94 : decode b_Wr_digits 94 = .ok (.ldiv, 1) := by decide +kernel
theorem d_Wr_digits_95 : decode b_Wr_digits 95 = .ok (.lstore 5, 2) := by decide +kernel
theorem d_Wr_digits_97 : decode b_Wr_digits 97 = .ok (.goto (-67), 3) := by decide +kernel
theorem d_Wr_digits_100 : decode b_Wr_digits 100 = .ok (.return_, 1) := by decide +kernel
abbrev ra_Wr_digits (mc ms : Nat) : Room := { frames := 5, cells := mc, slots := ms, locals := 421 }
def wja_Wr_digits_89 (mc ms : Nat) (Post : Ly → St → Nat → Nat → Prop) (K_30 : Ly → St → Nat → Nat → Int64 → Int32 → Int64 → Prop) (a0 : Nat) (y_j89 : Ly) (s_j89 : St) (d_j89 e_j89 : Nat) (x2j89 : Int64) (x4j89 : Int32) (x5j89 : Int64) : Prop := (d_j89 ≤ mc ∧ e_j89 ≤ ms) ∧ K_30 y_j89 s_j89 d_j89 e_j89 x2j89 x4j89 (x5j89 / (10))
def wja_Wr_digits_61 (mc ms : Nat) (Post : Ly → St → Nat → Nat → Prop) (K_30 : Ly → St → Nat → Nat → Int64 → Int32 → Int64 → Prop) (a0 : Nat) (y_j61 : Ly) (s_j61 : St) (d_j61 e_j61 : Nat) (x2j61 : Int64) (x5j61 : Int64) (z0j61 : Int32) : Prop := (d_j61 ≤ mc ∧ e_j61 ≤ ms) ∧ ((z0j61 = 0 → wja_Wr_digits_89 mc ms Post K_30 a0 y_j61 s_j61 d_j61 e_j61 x2j61 z0j61 x5j61) ∧ (¬ (z0j61 = 0) → ¬ x5j61 = 0 ∧ ∃ mc_7 ms_8 : Nat, (d_j61 + mc_7 ≤ mc ∧ e_j61 + ms_8 ≤ ms) ∧ wa_In_add mc_7 ms_8 y_j61 (fun (y_4 : Ly) (s_3 : St) (r_2 : Int32) (d_5 e_6 : Nat) => (d_j61 + d_5 ≤ mc ∧ e_j61 + e_6 ≤ ms) ∧ wja_Wr_digits_89 mc ms Post K_30 a0 y_4 s_3 (d_j61 + d_5) (e_j61 + e_6) x2j61 z0j61 x5j61) s_j61 (lk a0 0) (((48) + ((x2j61 / x5j61) - (x2j61 / x5j61) / (10) * (10))).toInt32)))
def wja_Wr_digits_56 (mc ms : Nat) (Post : Ly → St → Nat → Nat → Prop) (K_30 : Ly → St → Nat → Nat → Int64 → Int32 → Int64 → Prop) (a0 : Nat) (y_j56 : Ly) (s_j56 : St) (d_j56 e_j56 : Nat) (x2j56 : Int64) (x5j56 : Int64) : Prop := (d_j56 ≤ mc ∧ e_j56 ≤ ms) ∧ wja_Wr_digits_61 mc ms Post K_30 a0 y_j56 s_j56 d_j56 e_j56 x2j56 x5j56 1
def wba_Wr_digits_30 (mc ms : Nat) (Post : Ly → St → Nat → Nat → Prop) (K_30 : Ly → St → Nat → Nat → Int64 → Int32 → Int64 → Prop) (a0 : Nat) (y_h30 : Ly) (s_h30 : St) (d_h30 e_h30 : Nat) (x2h30 : Int64) (x4h30 : Int32) (x5h30 : Int64) : Prop := (d_h30 ≤ mc ∧ e_h30 ≤ ms) ∧ (((lg_cmp x5h30 0) ≤ 0 → Post y_h30 s_h30 d_h30 e_h30) ∧ (¬ ((lg_cmp x5h30 0) ≤ 0) → ((¬ x4h30 = 0 → wja_Wr_digits_56 mc ms Post K_30 a0 y_h30 s_h30 d_h30 e_h30 x2h30 x5h30) ∧ (x4h30 = 0 → ((0 ≤ (lg_cmp x2h30 x5h30) → wja_Wr_digits_56 mc ms Post K_30 a0 y_h30 s_h30 d_h30 e_h30 x2h30 x5h30) ∧ (¬ (0 ≤ (lg_cmp x2h30 x5h30)) → ((¬ (lg_cmp x5h30 1) = 0 → wja_Wr_digits_61 mc ms Post K_30 a0 y_h30 s_h30 d_h30 e_h30 x2h30 x5h30 0) ∧ ((lg_cmp x5h30 1) = 0 → wja_Wr_digits_56 mc ms Post K_30 a0 y_h30 s_h30 d_h30 e_h30 x2h30 x5h30))))))))
def wla_Wr_digits_30 (mc ms : Nat) (Post : Ly → St → Nat → Nat → Prop) (a0 : Nat) (y_h30 : Ly) (s_h30 : St) (d_h30 e_h30 : Nat) (x2h30 : Int64) (x4h30 : Int32) (x5h30 : Int64) : Prop := ∃ (I : Ly → St → Nat → Nat → Int64 → Int32 → Int64 → Prop) (μ : Ly → St → Nat → Nat → Int64 → Int32 → Int64 → Nat), I y_h30 s_h30 d_h30 e_h30 x2h30 x4h30 x5h30 ∧ ∀ (u1 : Ly) (u2 : St) (u3 u4 : Nat) (t0 : Int64) (t1 : Int32) (t2 : Int64), I u1 u2 u3 u4 t0 t1 t2 → wba_Wr_digits_30 mc ms Post (fun z1 z2 z3 z4 t0q t1q t2q => I z1 z2 z3 z4 t0q t1q t2q ∧ μ z1 z2 z3 z4 t0q t1q t2q < μ u1 u2 u3 u4 t0 t1 t2) a0 u1 u2 u3 u4 t0 t1 t2
def wja_Wr_digits_22 (mc ms : Nat) (Post : Ly → St → Nat → Nat → Prop) (a0 : Nat) (y_j22 : Ly) (s_j22 : St) (d_j22 e_j22 : Nat) (x2j22 : Int64) : Prop := (d_j22 ≤ mc ∧ e_j22 ≤ ms) ∧ wla_Wr_digits_30 mc ms Post a0 y_j22 s_j22 d_j22 e_j22 x2j22 0 (1000000000)
def wa_Wr_digits (mc ms : Nat) (y : Ly) (Post : Ly → St → Nat → Nat → Prop) (σ : St) (a0 : Nat) (v1 : Int32) : Prop := ((0 ≤ (lg_cmp v1.toInt64 0) → wja_Wr_digits_22 mc ms Post a0 y σ 0 0 v1.toInt64) ∧ (¬ (0 ≤ (lg_cmp v1.toInt64 0)) → ∃ mc_15 ms_16 : Nat, (0 + mc_15 ≤ mc ∧ 0 + ms_16 ≤ ms) ∧ wa_In_add mc_15 ms_16 y (fun (y_12 : Ly) (s_11 : St) (r_10 : Int32) (d_13 e_14 : Nat) => (0 + d_13 ≤ mc ∧ 0 + e_14 ≤ ms) ∧ wja_Wr_digits_22 mc ms Post a0 y_12 s_11 (0 + d_13) (0 + e_14) (-v1.toInt64)) σ (lk a0 0) 45))
set_option maxHeartbeats 4000000 in
set_option maxRecDepth 100000 in
theorem ca_Wr_digits (l : Launch) (D : va_G) (g : Nat → ClassId) (ad : Nat → Nat) (mc ms : Nat) (y : Ly) (Post : Ly → St → Nat → Nat → Prop) (σ : St) (a0 : Nat) (v1 : Int32) (sz uz : Nat) (h_a0 : cl a0 = 10) (h : wa_Wr_digits mc ms y Post σ a0 v1) : Met l y_Wr_digits (mw y_Wr_digits b_Wr_digits 7 (none)) (ra_Wr_digits mc ms) (PCu g D [] [.ref (ad a0), .int v1] sz uz (ws g ad y σ)) (va_Qv (fun (u : Ly × St × Nat × Nat) => Post u.1 u.2.1 u.2.2.1 u.2.2.2) (QU D (va_A (ws g ad y σ) sz) (fun u => ws g ad u.1 u.2.1) sz uz (fun u => u.2.2.1) (fun u => u.2.2.2)) (va_A (ws g ad y σ) sz)) mc ms (va_A (ws g ad y σ) sz) := by
  refine ofVu (by decide +kernel) (Nat.le_of_ble_eq_true rfl) ?_
  intro p e s m args below meth c A Q ls H locs G hsz hP hD hS hl hret
  subst hsz
  have hl : lv_has ls 7 [(0, .ref (ad a0)), (1, .int v1)] := hl
  have hd : 0 ≤ mc ∧ 0 ≤ ms := ⟨Nat.zero_le _, Nat.zero_le _⟩
  unfold wa_Wr_digits at h
  refine lv_iload_n G.1 G.2.1 d_Wr_digits_0 rfl (lv_at hl 1 rfl) ?_
  refine lv_i2l G.1 G.2.1 d_Wr_digits_1 rfl ?_
  refine lv_lstore_n (lv' := [(2, .long v1.toInt64), (0, .ref (ad a0)), (1, .int v1)]) G.1 G.2.1 d_Wr_digits_2 rfl hl (by decide) rfl (fun ls hl => ?_)
  refine lv_lload_n G.1 G.2.1 d_Wr_digits_3 rfl (lv_at hl 0 rfl) ?_
  refine lv_lconst (v := 0) G.1 G.2.1 d_Wr_digits_4 (by decide) ?_
  refine W.lcmp G.1 G.2.1 d_Wr_digits_5 ?_
  have J_22 : ∀ (y_j22 : Ly) (s_j22 : St) (d_j22 e_j22 : Nat) (x2j22 : Int64) (H : Heap) (locs : List Loc), wja_Wr_digits_22 mc ms Post a0 y_j22 s_j22 d_j22 e_j22 x2j22 → va_P D CL (ws g ad y_j22 s_j22) H → va_D A (ws g ad y_j22 s_j22) → va_S A s.heap H locs → ∀ ls, lv_has ls 7 [(0, .ref (ad a0)), (2, .long x2j22)] → W p l e (ra_Wr_digits mc ms) s m args below meth c H locs d_j22 e_j22 Q (F0 m 22 ls []) := by
    intro y_j22 s_j22 d_j22 e_j22 x2j22 H locs h hP hD hS ls hl
    unfold wja_Wr_digits_22 at h
    obtain ⟨hd, h⟩ := h
    refine lv_iconst (v := 0) G.1 G.2.1 d_Wr_digits_22 (by decide) ?_
    refine lv_istore (lv' := [(4, .int 0), (0, .ref (ad a0)), (2, .long x2j22)]) G.1 G.2.1 d_Wr_digits_23 hl (by decide) rfl (fun ls hl => ?_)
    refine lv_ldc2 (v := (1000000000)) G.1 G.2.1 G.2.2.2.2.2.2.1 (G.2.2.2.2.2.1 _ q2195) d_Wr_digits_25 ?_
    refine lv_lstore (lv' := [(5, .long (1000000000)), (4, .int 0), (0, .ref (ad a0)), (2, .long x2j22)]) G.1 G.2.1 d_Wr_digits_28 hl (by decide) rfl (fun ls hl => ?_)
    unfold wla_Wr_digits_30 at h
    obtain ⟨I_30, μ_30, hI_30, hB_30⟩ := h
    have L_30 : ∀ (n_30 : Nat) (y_h30 : Ly) (s_h30 : St) (d_h30 e_h30 : Nat) (x2h30 : Int64) (x4h30 : Int32) (x5h30 : Int64), μ_30 y_h30 s_h30 d_h30 e_h30 x2h30 x4h30 x5h30 < n_30 → I_30 y_h30 s_h30 d_h30 e_h30 x2h30 x4h30 x5h30 → ∀ (H : Heap) (locs : List Loc), va_P D CL (ws g ad y_h30 s_h30) H → va_D A (ws g ad y_h30 s_h30) → va_S A s.heap H locs → ∀ ls, lv_has ls 7 [(0, .ref (ad a0)), (2, .long x2h30), (4, .int x4h30), (5, .long x5h30)] → W p l e (ra_Wr_digits mc ms) s m args below meth c H locs d_h30 e_h30 Q (F0 m 30 ls []) := by
      intro n_30
      induction n_30 with
      | zero => intro y_h30 s_h30 d_h30 e_h30 x2h30 x4h30 x5h30 hμ; exact absurd hμ (Nat.not_lt_zero _)
      | succ n_30 ih_30 =>
        intro y_h30 s_h30 d_h30 e_h30 x2h30 x4h30 x5h30 hμ_30 hJ H locs hP hD hS ls hl
        obtain ⟨K_30, hK_30, h⟩ : ∃ K : Ly → St → Nat → Nat → Int64 → Int32 → Int64 → Prop, (∀ z1 z2 z3 z4 (t0 : Int64) (t1 : Int32) (t2 : Int64), K z1 z2 z3 z4 t0 t1 t2 → I_30 z1 z2 z3 z4 t0 t1 t2 ∧ μ_30 z1 z2 z3 z4 t0 t1 t2 < μ_30 y_h30 s_h30 d_h30 e_h30 x2h30 x4h30 x5h30) ∧ wba_Wr_digits_30 mc ms Post K a0 y_h30 s_h30 d_h30 e_h30 x2h30 x4h30 x5h30 := ⟨_, fun _ _ _ _ _ _ _ h => h, hB_30 y_h30 s_h30 d_h30 e_h30 x2h30 x4h30 x5h30 hJ⟩
        unfold wba_Wr_digits_30 at h
        obtain ⟨hd, h⟩ := h
        refine lv_lload G.1 G.2.1 d_Wr_digits_30 (lv_at hl 3 rfl) ?_
        refine lv_lconst (v := 0) G.1 G.2.1 d_Wr_digits_32 (by decide) ?_
        refine W.lcmp G.1 G.2.1 d_Wr_digits_33 ?_
        refine lv_if_le (tgt := 100) G.1 G.2.1 d_Wr_digits_34 (by decide) (fun c34 => ?_) (fun c34 => ?_)
        · skip
          have h := h.1 c34
          exact hret (y_h30, s_h30, d_h30, e_h30) _ _ _ _ _ ls h hP hD hS (Nat.le_refl _) (Nat.le_refl _) hd.1 hd.2 d_Wr_digits_100
        · skip
          have h := h.2 c34
          refine lv_iload G.1 G.2.1 d_Wr_digits_37 (lv_at hl 2 rfl) ?_
          have J_61 : ∀ (y_j61 : Ly) (s_j61 : St) (d_j61 e_j61 : Nat) (x2j61 : Int64) (x5j61 : Int64) (z0j61 : Int32) (H : Heap) (locs : List Loc), wja_Wr_digits_61 mc ms Post K_30 a0 y_j61 s_j61 d_j61 e_j61 x2j61 x5j61 z0j61 → va_P D CL (ws g ad y_j61 s_j61) H → va_D A (ws g ad y_j61 s_j61) → va_S A s.heap H locs → ∀ ls, lv_has ls 7 [(0, .ref (ad a0)), (2, .long x2j61), (5, .long x5j61)] → W p l e (ra_Wr_digits mc ms) s m args below meth c H locs d_j61 e_j61 Q (F0 m 61 ls [.int z0j61]) := by
            intro y_j61 s_j61 d_j61 e_j61 x2j61 x5j61 z0j61 H locs h hP hD hS ls hl
            unfold wja_Wr_digits_61 at h
            obtain ⟨hd, h⟩ := h
            refine lv_istore (lv' := [(4, .int z0j61), (0, .ref (ad a0)), (2, .long x2j61), (5, .long x5j61)]) G.1 G.2.1 d_Wr_digits_61 hl (by decide) rfl (fun ls hl => ?_)
            refine lv_iload G.1 G.2.1 d_Wr_digits_63 (lv_at hl 0 rfl) ?_
            have J_89 : ∀ (y_j89 : Ly) (s_j89 : St) (d_j89 e_j89 : Nat) (x2j89 : Int64) (x4j89 : Int32) (x5j89 : Int64) (H : Heap) (locs : List Loc), wja_Wr_digits_89 mc ms Post K_30 a0 y_j89 s_j89 d_j89 e_j89 x2j89 x4j89 x5j89 → va_P D CL (ws g ad y_j89 s_j89) H → va_D A (ws g ad y_j89 s_j89) → va_S A s.heap H locs → ∀ ls, lv_has ls 7 [(0, .ref (ad a0)), (2, .long x2j89), (4, .int x4j89), (5, .long x5j89)] → W p l e (ra_Wr_digits mc ms) s m args below meth c H locs d_j89 e_j89 Q (F0 m 89 ls []) := by
              intro y_j89 s_j89 d_j89 e_j89 x2j89 x4j89 x5j89 H locs h hP hD hS ls hl
              unfold wja_Wr_digits_89 at h
              obtain ⟨hd, h⟩ := h
              refine lv_lload G.1 G.2.1 d_Wr_digits_89 (lv_at hl 3 rfl) ?_
              refine lv_ldc2 (v := (10)) G.1 G.2.1 G.2.2.2.2.2.2.1 (G.2.2.2.2.2.1 _ q2197) d_Wr_digits_91 ?_
              refine lv_ldiv G.1 G.2.1 d_Wr_digits_94 (by decide) ?_
              refine lv_lstore (lv' := [(5, .long (x5j89 / (10))), (0, .ref (ad a0)), (2, .long x2j89), (4, .int x4j89)]) G.1 G.2.1 d_Wr_digits_95 hl (by decide) rfl (fun ls hl => ?_)
              refine lv_goto (tgt := 30) G.1 G.2.1 d_Wr_digits_97 (by decide) ?_
              have h := hK_30 y_j89 s_j89 d_j89 e_j89 x2j89 x4j89 (x5j89 / (10)) h
              exact ih_30 y_j89 s_j89 d_j89 e_j89 x2j89 x4j89 (x5j89 / (10)) (Nat.lt_of_lt_of_le h.2 (Nat.le_of_lt_succ hμ_30)) h.1 H locs hP hD hS ls (lv_sub hl [1, 2, 3, 0] rfl)
            refine lv_if_eq (tgt := 89) G.1 G.2.1 d_Wr_digits_65 (by decide) (fun c65 => ?_) (fun c65 => ?_)
            · skip
              have h := h.1 c65
              exact J_89 y_j61 s_j61 d_j61 e_j61 x2j61 z0j61 x5j61 H locs h hP hD hS ls (lv_sub hl [1, 2, 0, 3] rfl)
            · skip
              have h := h.2 c65
              refine lv_aload_n G.1 G.2.1 d_Wr_digits_68 rfl (lv_at hl 1 rfl) ?_
              refine ugf (v := .ref (ad (lk a0 0))) G hP h_a0 iWr rfl 0 (by decide) rfl q771 rfl rfl d_Wr_digits_69 ?_
              refine lv_ldc2 (v := (48)) G.1 G.2.1 G.2.2.2.2.2.2.1 (G.2.2.2.2.2.1 _ q2196) d_Wr_digits_72 ?_
              refine lv_lload_n G.1 G.2.1 d_Wr_digits_75 rfl (lv_at hl 2 rfl) ?_
              refine lv_lload G.1 G.2.1 d_Wr_digits_76 (lv_at hl 3 rfl) ?_
              obtain ⟨n_1, h⟩ := h
              refine lv_ldiv G.1 G.2.1 d_Wr_digits_78 n_1 ?_
              refine lv_ldc2 (v := (10)) G.1 G.2.1 G.2.2.2.2.2.2.1 (G.2.2.2.2.2.1 _ q2197) d_Wr_digits_79 ?_
              refine lv_lrem G.1 G.2.1 d_Wr_digits_82 (by decide) ?_
              refine W.eq (g2 := F0 m 83 ls [.long ((x2j61 / x5j61) - (x2j61 / x5j61) / (10) * (10)), .long (48), .ref (ad (lk a0 0))]) rfl ?_
              refine lv_ladd G.1 G.2.1 d_Wr_digits_83 ?_
              refine lv_l2i G.1 G.2.1 d_Wr_digits_84 rfl ?_
              obtain ⟨mc_7, ms_8, hr_9, h⟩ := h
              refine uaVi (As := [.int (((48) + ((x2j61 / x5j61) - (x2j61 / x5j61) / (10) * (10))).toInt32)]) (rest := []) G hP hD hS (ca_In_add l D g [] ad mc_7 ms_8 y_j61 _ s_j61 (lk a0 0) (((48) + ((x2j61 / x5j61) - (x2j61 / x5j61) / (10) * (10))).toInt32) H.size (us H) (lk_10_0 h_a0) h) w9_In_add q2159 ⟨Nat.le_of_ble_eq_true rfl, Nat.le_of_ble_eq_true rfl⟩ rfl rfl (lk_10_0 h_a0) (q := (RIn, TIn, 2)) rfl rfl hl.1 rfl (Nat.le_of_ble_eq_true rfl) rfl hr_9 d_Wr_digits_85 (fun r_2 y_4 s_3 d_5 e_6 H locs h hP hD hS => ?_)
              obtain ⟨hd, h⟩ := h
              refine lv_pop G.1 G.2.1 d_Wr_digits_88 rfl ?_
              exact J_89 y_4 s_3 (d_j61 + d_5) (e_j61 + e_6) x2j61 z0j61 x5j61 H locs h hP hD hS ls (lv_sub hl [1, 2, 0, 3] rfl)
          have J_56 : ∀ (y_j56 : Ly) (s_j56 : St) (d_j56 e_j56 : Nat) (x2j56 : Int64) (x5j56 : Int64) (H : Heap) (locs : List Loc), wja_Wr_digits_56 mc ms Post K_30 a0 y_j56 s_j56 d_j56 e_j56 x2j56 x5j56 → va_P D CL (ws g ad y_j56 s_j56) H → va_D A (ws g ad y_j56 s_j56) → va_S A s.heap H locs → ∀ ls, lv_has ls 7 [(0, .ref (ad a0)), (2, .long x2j56), (5, .long x5j56)] → W p l e (ra_Wr_digits mc ms) s m args below meth c H locs d_j56 e_j56 Q (F0 m 56 ls []) := by
            intro y_j56 s_j56 d_j56 e_j56 x2j56 x5j56 H locs h hP hD hS ls hl
            unfold wja_Wr_digits_56 at h
            obtain ⟨hd, h⟩ := h
            refine lv_iconst (v := 1) G.1 G.2.1 d_Wr_digits_56 (by decide) ?_
            refine lv_goto (tgt := 61) G.1 G.2.1 d_Wr_digits_57 (by decide) ?_
            exact J_61 y_j56 s_j56 d_j56 e_j56 x2j56 x5j56 1 H locs h hP hD hS ls (lv_sub hl [0, 1, 2] rfl)
          refine lv_if_ne (tgt := 56) G.1 G.2.1 d_Wr_digits_39 (by decide) (fun c39 => ?_) (fun c39 => ?_)
          · skip
            have h := h.1 c39
            exact J_56 y_h30 s_h30 d_h30 e_h30 x2h30 x5h30 H locs h hP hD hS ls (lv_sub hl [0, 1, 3] rfl)
          · skip
            have h := h.2 c39
            refine lv_lload_n G.1 G.2.1 d_Wr_digits_42 rfl (lv_at hl 1 rfl) ?_
            refine lv_lload G.1 G.2.1 d_Wr_digits_43 (lv_at hl 3 rfl) ?_
            refine W.lcmp G.1 G.2.1 d_Wr_digits_45 ?_
            refine lv_if_ge (tgt := 56) G.1 G.2.1 d_Wr_digits_46 (by decide) (fun c46 => ?_) (fun c46 => ?_)
            · skip
              have h := h.1 c46
              exact J_56 y_h30 s_h30 d_h30 e_h30 x2h30 x5h30 H locs h hP hD hS ls (lv_sub hl [0, 1, 3] rfl)
            · skip
              have h := h.2 c46
              refine lv_lload G.1 G.2.1 d_Wr_digits_49 (lv_at hl 3 rfl) ?_
              refine W.eq (g2 := F0 m 51 ls [.long x5h30]) rfl ?_
              refine lv_lconst (v := 1) G.1 G.2.1 d_Wr_digits_51 (by decide) ?_
              refine W.lcmp G.1 G.2.1 d_Wr_digits_52 ?_
              refine lv_if_ne (tgt := 60) G.1 G.2.1 d_Wr_digits_53 (by decide) (fun c53 => ?_) (fun c53 => ?_)
              · skip
                have h := h.1 c53
                refine lv_iconst (v := 0) G.1 G.2.1 d_Wr_digits_60 (by decide) ?_
                exact J_61 y_h30 s_h30 d_h30 e_h30 x2h30 x5h30 0 H locs h hP hD hS ls (lv_sub hl [0, 1, 3] rfl)
              · skip
                have h := h.2 c53
                exact J_56 y_h30 s_h30 d_h30 e_h30 x2h30 x5h30 H locs h hP hD hS ls (lv_sub hl [0, 1, 3] rfl)
    exact L_30 _ y_j22 s_j22 d_j22 e_j22 x2j22 0 (1000000000) (Nat.lt_succ_self _) hI_30 H locs hP hD hS ls (lv_sub hl [2, 3, 1, 0] rfl)
  refine lv_if_ge (tgt := 22) G.1 G.2.1 d_Wr_digits_6 (by decide) (fun c6 => ?_) (fun c6 => ?_)
  · skip
    have h := h.1 c6
    exact J_22 y σ 0 0 v1.toInt64 H locs h hP hD hS ls (lv_sub hl [1, 0] rfl)
  · skip
    have h := h.2 c6
    refine lv_aload_n G.1 G.2.1 d_Wr_digits_9 rfl (lv_at hl 1 rfl) ?_
    refine ugf (v := .ref (ad (lk a0 0))) G hP h_a0 iWr rfl 0 (by decide) rfl q771 rfl rfl d_Wr_digits_10 ?_
    refine lv_bipush (v := 45) G.1 G.2.1 d_Wr_digits_13 (by decide) ?_
    obtain ⟨mc_15, ms_16, hr_17, h⟩ := h
    refine uaVi (As := [.int 45]) (rest := []) G hP hD hS (ca_In_add l D g [] ad mc_15 ms_16 y _ σ (lk a0 0) 45 H.size (us H) (lk_10_0 h_a0) h) w9_In_add q2159 ⟨Nat.le_of_ble_eq_true rfl, Nat.le_of_ble_eq_true rfl⟩ rfl rfl (lk_10_0 h_a0) (q := (RIn, TIn, 2)) rfl rfl hl.1 rfl (Nat.le_of_ble_eq_true rfl) rfl hr_17 d_Wr_digits_15 (fun r_10 y_12 s_11 d_13 e_14 H locs h hP hD hS => ?_)
    have hl := lv_sub (l' := [(2, .long v1.toInt64), (0, .ref (ad a0))]) hl [0, 1] rfl
    obtain ⟨hd, h⟩ := h
    refine W.eq (g2 := F0 m 18 ls [.int r_10]) rfl ?_
    refine lv_pop G.1 G.2.1 d_Wr_digits_18 rfl ?_
    refine lv_lload_n G.1 G.2.1 d_Wr_digits_19 rfl (lv_at hl 0 rfl) ?_
    refine lv_lneg G.1 G.2.1 d_Wr_digits_20 ?_
    refine lv_lstore_n (lv' := [(2, .long (-v1.toInt64)), (0, .ref (ad a0))]) G.1 G.2.1 d_Wr_digits_21 rfl hl (by decide) rfl (fun ls hl => ?_)
    exact J_22 y_12 s_11 (0 + d_13) (0 + e_14) (-v1.toInt64) H locs h hP hD hS ls (lv_sub hl [1, 0] rfl)
theorem q2191 : Cond.methodLink "ClassWorks$Writer" 85 y_Wr_digits ∈ lw_ok := lw_okmem (List.mem_of_getElem? (i := 2191) (by decide +kernel)) rfl
theorem q2194 : Cond.code y_Wr_digits b_Wr_digits 7 (none) ∈ lw_ok := lw_okmem (List.mem_of_getElem? (i := 2194) (by decide +kernel)) rfl
theorem q2193 : Cond.instanceMethod y_Wr_digits ∈ lw_ok := lw_okmem (List.mem_of_getElem? (i := 2193) (by decide +kernel)) rfl
theorem q127 : Cond.selects y_Wr_digits.cls y_Wr_digits y_Wr_digits ∈ lw_ok := lw_okmem (List.mem_of_getElem? (i := 127) (by decide +kernel)) rfl
theorem w9_Wr_digits : CWv y_Wr_digits b_Wr_digits 7 (none) 1 ∧ Cond.instanceMethod y_Wr_digits ∈ lw_ok ∧ Cond.selects y_Wr_digits.cls y_Wr_digits y_Wr_digits ∈ lw_ok := ⟨⟨q2194, q343, by decide +kernel, by decide +kernel, by decide +kernel⟩, q2193, q127⟩
def y_Wr_number : MethodName := ⟨"ClassWorks$Writer", "number", "(I)V"⟩
abbrev b_Wr_number : ByteArray := prog_12_method_8_code
theorem d_Wr_number_0 : decode b_Wr_number 0 = .ok (.aload_n 0, 1) := by decide +kernel
theorem d_Wr_number_1 : decode b_Wr_number 1 = .ok (.invokevirtual 74, 3) := by decide +kernel
theorem d_Wr_number_4 : decode b_Wr_number 4 = .ok (.aload_n 0, 1) := by decide +kernel
theorem d_Wr_number_5 : decode b_Wr_number 5 = .ok (.iload_n 1, 1) := by decide +kernel
theorem d_Wr_number_6 : decode b_Wr_number 6 = .ok (.invokevirtual 85, 3) := by decide +kernel
theorem d_Wr_number_9 : decode b_Wr_number 9 = .ok (.return_, 1) := by decide +kernel
abbrev ra_Wr_number (mc ms : Nat) : Room := { frames := 6, cells := mc, slots := ms, locals := 447 }
def wa_Wr_number (mc ms : Nat) (y : Ly) (Post : Ly → St → Nat → Nat → Prop) (σ : St) (a0 : Nat) (v1 : Int32) : Prop := ∃ mc_6 ms_7 : Nat, (0 + mc_6 ≤ mc ∧ 0 + ms_7 ≤ ms) ∧ wa_Wr_beforeWord mc_6 ms_7 y (fun (y_3 : Ly) (s_2 : St) (d_4 e_5 : Nat) => (0 + d_4 ≤ mc ∧ 0 + e_5 ≤ ms) ∧ ∃ mc_14 ms_15 : Nat, (0 + d_4 + mc_14 ≤ mc ∧ 0 + e_5 + ms_15 ≤ ms) ∧ wa_Wr_digits mc_14 ms_15 y_3 (fun (y_11 : Ly) (s_10 : St) (d_12 e_13 : Nat) => (0 + d_4 + d_12 ≤ mc ∧ 0 + e_5 + e_13 ≤ ms) ∧ Post y_11 s_10 (0 + d_4 + d_12) (0 + e_5 + e_13)) s_2 a0 v1) σ a0
set_option maxHeartbeats 4000000 in
set_option maxRecDepth 100000 in
theorem ca_Wr_number (l : Launch) (D : va_G) (g : Nat → ClassId) (ad : Nat → Nat) (mc ms : Nat) (y : Ly) (Post : Ly → St → Nat → Nat → Prop) (σ : St) (a0 : Nat) (v1 : Int32) (sz uz : Nat) (h_a0 : cl a0 = 10) (h : wa_Wr_number mc ms y Post σ a0 v1) : Met l y_Wr_number (mw y_Wr_number b_Wr_number 2 (none)) (ra_Wr_number mc ms) (PCu g D [] [.ref (ad a0), .int v1] sz uz (ws g ad y σ)) (va_Qv (fun (u : Ly × St × Nat × Nat) => Post u.1 u.2.1 u.2.2.1 u.2.2.2) (QU D (va_A (ws g ad y σ) sz) (fun u => ws g ad u.1 u.2.1) sz uz (fun u => u.2.2.1) (fun u => u.2.2.2)) (va_A (ws g ad y σ) sz)) mc ms (va_A (ws g ad y σ) sz) := by
  refine ofVu (by decide +kernel) (Nat.le_of_ble_eq_true rfl) ?_
  intro p e s m args below meth c A Q ls H locs G hsz hP hD hS hl hret
  subst hsz
  have hl : lv_has ls 2 [(0, .ref (ad a0)), (1, .int v1)] := hl
  have hd : 0 ≤ mc ∧ 0 ≤ ms := ⟨Nat.zero_le _, Nat.zero_le _⟩
  unfold wa_Wr_number at h
  refine lv_aload_n G.1 G.2.1 d_Wr_number_0 rfl (lv_at hl 0 rfl) ?_
  obtain ⟨mc_6, ms_7, hr_8, h⟩ := h
  refine uaVv (As := []) (rest := []) G hP hD hS (ca_Wr_beforeWord l D g ad mc_6 ms_7 y _ σ a0 H.size (us H) h_a0 h) w9_Wr_beforeWord q2168 ⟨Nat.le_of_ble_eq_true rfl, Nat.le_of_ble_eq_true rfl⟩ rfl rfl h_a0 (q := (RWr, TWr, 7)) rfl rfl hl.1 rfl (Nat.le_of_ble_eq_true rfl) rfl hr_8 d_Wr_number_1 (fun y_3 s_2 d_4 e_5 H locs h hP hD hS => ?_)
  obtain ⟨hd, h⟩ := h
  refine lv_aload_n G.1 G.2.1 d_Wr_number_4 rfl (lv_at hl 0 rfl) ?_
  refine lv_iload_n G.1 G.2.1 d_Wr_number_5 rfl (lv_at hl 1 rfl) ?_
  obtain ⟨mc_14, ms_15, hr_16, h⟩ := h
  refine uaVv (As := [.int v1]) (rest := []) G hP hD hS (ca_Wr_digits l D g ad mc_14 ms_15 y_3 _ s_2 a0 v1 H.size (us H) h_a0 h) w9_Wr_digits q2191 ⟨Nat.le_of_ble_eq_true rfl, Nat.le_of_ble_eq_true rfl⟩ rfl rfl h_a0 (q := (RWr, TWr, 7)) rfl rfl hl.1 rfl (Nat.le_of_ble_eq_true rfl) rfl hr_16 d_Wr_number_6 (fun y_11 s_10 d_12 e_13 H locs h hP hD hS => ?_)
  have hl := lv_sub (l' := []) hl [] rfl
  obtain ⟨hd, h⟩ := h
  exact hret (y_11, s_10, 0 + d_4 + d_12, 0 + e_5 + e_13) _ _ _ _ _ ls h hP hD hS (Nat.le_refl _) (Nat.le_refl _) hd.1 hd.2 d_Wr_number_9
theorem q2187 : Cond.methodLink "ClassWorks$Writer" 106 y_Wr_number ∈ lw_ok := lw_okmem (List.mem_of_getElem? (i := 2187) (by decide +kernel)) rfl
theorem q2190 : Cond.code y_Wr_number b_Wr_number 2 (none) ∈ lw_ok := lw_okmem (List.mem_of_getElem? (i := 2190) (by decide +kernel)) rfl
theorem q2189 : Cond.instanceMethod y_Wr_number ∈ lw_ok := lw_okmem (List.mem_of_getElem? (i := 2189) (by decide +kernel)) rfl
theorem q126 : Cond.selects y_Wr_number.cls y_Wr_number y_Wr_number ∈ lw_ok := lw_okmem (List.mem_of_getElem? (i := 126) (by decide +kernel)) rfl
theorem w9_Wr_number : CWv y_Wr_number b_Wr_number 2 (none) 1 ∧ Cond.instanceMethod y_Wr_number ∈ lw_ok ∧ Cond.selects y_Wr_number.cls y_Wr_number y_Wr_number ∈ lw_ok := ⟨⟨q2190, q343, by decide +kernel, by decide +kernel, by decide +kernel⟩, q2189, q126⟩
def y_Wr_writeField : MethodName := ⟨"ClassWorks$Writer", "writeField", "(I)V"⟩
abbrev b_Wr_writeField : ByteArray := prog_12_method_12_code
theorem d_Wr_writeField_0 : decode b_Wr_writeField 0 = .ok (.aload_n 0, 1) := by decide +kernel
theorem d_Wr_writeField_1 : decode b_Wr_writeField 1 = .ok (.getfield 39, 3) := by decide +kernel
theorem d_Wr_writeField_4 : decode b_Wr_writeField 4 = .ok (.aload_n 0, 1) := by decide +kernel
theorem d_Wr_writeField_5 : decode b_Wr_writeField 5 = .ok (.getfield 20, 3) := by decide +kernel
theorem d_Wr_writeField_8 : decode b_Wr_writeField 8 = .ok (.iload_n 1, 1) := by decide +kernel
theorem d_Wr_writeField_9 : decode b_Wr_writeField 9 = .ok (.iconst 2, 1) := by decide +kernel
theorem d_Wr_writeField_10 : decode b_Wr_writeField 10 = .ok (.invokevirtual 102, 3) := by decide +kernel
theorem d_Wr_writeField_13 : decode b_Wr_writeField 13 = .ok (.istore_n 2, 1) := by decide +kernel
theorem d_Wr_writeField_14 : decode b_Wr_writeField 14 = .ok (.aload_n 0, 1) := by decide +kernel
theorem d_Wr_writeField_15 : decode b_Wr_writeField 15 = .ok (.iconst 1, 1) := by decide +kernel
theorem d_Wr_writeField_16 : decode b_Wr_writeField 16 = .ok (.invokevirtual 61, 3) := by decide +kernel
theorem d_Wr_writeField_19 : decode b_Wr_writeField 19 = .ok (.aload_n 0, 1) := by decide +kernel
theorem d_Wr_writeField_20 : decode b_Wr_writeField 20 = .ok (.bipush 31, 2) := by decide +kernel
theorem d_Wr_writeField_22 : decode b_Wr_writeField 22 = .ok (.invokevirtual 64, 3) := by decide +kernel
theorem d_Wr_writeField_25 : decode b_Wr_writeField 25 = .ok (.aload_n 0, 1) := by decide +kernel
theorem d_Wr_writeField_26 : decode b_Wr_writeField 26 = .ok (.iload_n 2, 1) := by decide +kernel
theorem d_Wr_writeField_27 : decode b_Wr_writeField 27 = .ok (.iconst 1, 1) := by decide +kernel
theorem d_Wr_writeField_28 : decode b_Wr_writeField 28 = .ok (.bipush 40, 2) := by decide +kernel
theorem d_Wr_writeField_30 : decode b_Wr_writeField 30 = .ok (.invokevirtual 94, 3) := by decide +kernel
theorem d_Wr_writeField_33 : decode b_Wr_writeField 33 = .ok (.aload_n 0, 1) := by decide +kernel
theorem d_Wr_writeField_34 : decode b_Wr_writeField 34 = .ok (.iload_n 2, 1) := by decide +kernel
theorem d_Wr_writeField_35 : decode b_Wr_writeField 35 = .ok (.iconst 2, 1) := by decide +kernel
theorem d_Wr_writeField_36 : decode b_Wr_writeField 36 = .ok (.bipush 37, 2) := by decide +kernel
theorem d_Wr_writeField_38 : decode b_Wr_writeField 38 = .ok (.invokevirtual 94, 3) := by decide +kernel
theorem d_Wr_writeField_41 : decode b_Wr_writeField 41 = .ok (.aload_n 0, 1) := by decide +kernel
theorem d_Wr_writeField_42 : decode b_Wr_writeField 42 = .ok (.iload_n 2, 1) := by decide +kernel
theorem d_Wr_writeField_43 : decode b_Wr_writeField 43 = .ok (.iconst 4, 1) := by decide +kernel
theorem d_Wr_writeField_44 : decode b_Wr_writeField 44 = .ok (.bipush 41, 2) := by decide +kernel
theorem d_Wr_writeField_46 : decode b_Wr_writeField 46 = .ok (.invokevirtual 94, 3) := by decide +kernel
theorem d_Wr_writeField_49 : decode b_Wr_writeField 49 = .ok (.aload_n 0, 1) := by decide +kernel
theorem d_Wr_writeField_50 : decode b_Wr_writeField 50 = .ok (.aload_n 0, 1) := by decide +kernel
theorem d_Wr_writeField_51 : decode b_Wr_writeField 51 = .ok (.getfield 39, 3) := by decide +kernel
theorem d_Wr_writeField_54 : decode b_Wr_writeField 54 = .ok (.aload_n 0, 1) := by decide +kernel
theorem d_Wr_writeField_55 : decode b_Wr_writeField 55 = .ok (.getfield 20, 3) := by decide +kernel
theorem d_Wr_writeField_58 : decode b_Wr_writeField 58 = .ok (.iload_n 1, 1) := by decide +kernel
theorem d_Wr_writeField_59 : decode b_Wr_writeField 59 = .ok (.iconst 0, 1) := by decide +kernel
theorem d_Wr_writeField_60 : decode b_Wr_writeField 60 = .ok (.invokevirtual 102, 3) := by decide +kernel
theorem d_Wr_writeField_63 : decode b_Wr_writeField 63 = .ok (.invokevirtual 64, 3) := by decide +kernel
theorem d_Wr_writeField_66 : decode b_Wr_writeField 66 = .ok (.aload_n 0, 1) := by decide +kernel
theorem d_Wr_writeField_67 : decode b_Wr_writeField 67 = .ok (.aload_n 0, 1) := by decide +kernel
theorem d_Wr_writeField_68 : decode b_Wr_writeField 68 = .ok (.getfield 39, 3) := by decide +kernel
theorem d_Wr_writeField_71 : decode b_Wr_writeField 71 = .ok (.aload_n 0, 1) := by decide +kernel
theorem d_Wr_writeField_72 : decode b_Wr_writeField 72 = .ok (.getfield 20, 3) := by decide +kernel
theorem d_Wr_writeField_75 : decode b_Wr_writeField 75 = .ok (.iload_n 1, 1) := by decide +kernel
theorem d_Wr_writeField_76 : decode b_Wr_writeField 76 = .ok (.iconst 1, 1) := by decide +kernel
theorem d_Wr_writeField_77 : decode b_Wr_writeField 77 = .ok (.invokevirtual 102, 3) := by decide +kernel
theorem d_Wr_writeField_80 : decode b_Wr_writeField 80 = .ok (.invokevirtual 64, 3) := by decide +kernel
theorem d_Wr_writeField_83 : decode b_Wr_writeField 83 = .ok (.aload_n 0, 1) := by decide +kernel
theorem d_Wr_writeField_84 : decode b_Wr_writeField 84 = .ok (.getfield 39, 3) := by decide +kernel
theorem d_Wr_writeField_87 : decode b_Wr_writeField 87 = .ok (.aload_n 0, 1) := by decide +kernel
theorem d_Wr_writeField_88 : decode b_Wr_writeField 88 = .ok (.getfield 20, 3) := by decide +kernel
theorem d_Wr_writeField_91 : decode b_Wr_writeField 91 = .ok (.iload_n 1, 1) := by decide +kernel
theorem d_Wr_writeField_92 : decode b_Wr_writeField 92 = .ok (.iconst 3, 1) := by decide +kernel
theorem d_Wr_writeField_93 : decode b_Wr_writeField 93 = .ok (.invokevirtual 102, 3) := by decide +kernel
theorem d_Wr_writeField_96 : decode b_Wr_writeField 96 = .ok (.ifCond .eq 26, 3) := by decide +kernel
theorem d_Wr_writeField_99 : decode b_Wr_writeField 99 = .ok (.aload_n 0, 1) := by decide +kernel
theorem d_Wr_writeField_100 : decode b_Wr_writeField 100 = .ok (.bipush 61, 2) := by decide +kernel
theorem d_Wr_writeField_102 : decode b_Wr_writeField 102 = .ok (.invokevirtual 98, 3) := by decide +kernel
theorem d_Wr_writeField_105 : decode b_Wr_writeField 105 = .ok (.aload_n 0, 1) := by decide +kernel
theorem d_Wr_writeField_106 : decode b_Wr_writeField 106 = .ok (.aload_n 0, 1) := by decide +kernel
theorem d_Wr_writeField_107 : decode b_Wr_writeField 107 = .ok (.getfield 39, 3) := by decide +kernel
theorem d_Wr_writeField_110 : decode b_Wr_writeField 110 = .ok (.aload_n 0, 1) := by decide +kernel
theorem d_Wr_writeField_111 : decode b_Wr_writeField 111 = .ok (.getfield 20, 3) := by decide +kernel
theorem d_Wr_writeField_114 : decode b_Wr_writeField 114 = .ok (.iload_n 1, 1) := by decide +kernel
theorem d_Wr_writeField_115 : decode b_Wr_writeField 115 = .ok (.iconst 4, 1) := by decide +kernel
theorem d_Wr_writeField_116 : decode b_Wr_writeField 116 = .ok (.invokevirtual 102, 3) := by decide +kernel
theorem d_Wr_writeField_119 : decode b_Wr_writeField 119 = .ok (.invokevirtual 106, 3) := by decide +kernel
theorem d_Wr_writeField_122 : decode b_Wr_writeField 122 = .ok (.aload_n 0, 1) := by decide +kernel
theorem d_Wr_writeField_123 : decode b_Wr_writeField 123 = .ok (.invokevirtual 67, 3) := by decide +kernel
theorem d_Wr_writeField_126 : decode b_Wr_writeField 126 = .ok (.return_, 1) := by decide +kernel
abbrev ra_Wr_writeField (mc ms : Nat) : Room := { frames := 8, cells := mc, slots := ms, locals := 486 }
def wja_Wr_writeField_122 (mc ms : Nat) (Post : Ly → St → Nat → Nat → Prop) (a0 : Nat) (y_j122 : Ly) (s_j122 : St) (d_j122 e_j122 : Nat) : Prop := (d_j122 ≤ mc ∧ e_j122 ≤ ms) ∧ ∃ mc_82 ms_83 : Nat, (d_j122 + mc_82 ≤ mc ∧ e_j122 + ms_83 ≤ ms) ∧ wa_Wr_endLine mc_82 ms_83 y_j122 (fun (y_79 : Ly) (s_78 : St) (d_80 e_81 : Nat) => (d_j122 + d_80 ≤ mc ∧ e_j122 + e_81 ≤ ms) ∧ Post y_79 s_78 (d_j122 + d_80) (e_j122 + e_81)) s_j122 a0
def wa_Wr_writeField (mc ms : Nat) (y : Ly) (Post : Ly → St → Nat → Nat → Prop) (σ : St) (a0 : Nat) (v1 : Int32) : Prop := ∃ b_1 : Nat, sO σ a0 2 = some b_1 ∧ cl b_1 = 9 ∧ wu_Wd_field y (fun (s_5 : St) (r_4 : Int32) => ∃ mc_11 ms_12 : Nat, (0 + mc_11 ≤ mc ∧ 0 + ms_12 ≤ ms) ∧ wa_Wr_beginLine mc_11 ms_12 y (fun (y_8 : Ly) (s_7 : St) (d_9 e_10 : Nat) => (0 + d_9 ≤ mc ∧ 0 + e_10 ≤ ms) ∧ ∃ mc_19 ms_20 : Nat, (0 + d_9 + mc_19 ≤ mc ∧ 0 + e_10 + ms_20 ≤ ms) ∧ wa_Wr_word mc_19 ms_20 y_8 (fun (y_16 : Ly) (s_15 : St) (d_17 e_18 : Nat) => (0 + d_9 + d_17 ≤ mc ∧ 0 + e_10 + e_18 ≤ ms) ∧ ∃ mc_27 ms_28 : Nat, (0 + d_9 + d_17 + mc_27 ≤ mc ∧ 0 + e_10 + e_18 + ms_28 ≤ ms) ∧ wa_Wr_flag mc_27 ms_28 y_16 (fun (y_24 : Ly) (s_23 : St) (d_25 e_26 : Nat) => (0 + d_9 + d_17 + d_25 ≤ mc ∧ 0 + e_10 + e_18 + e_26 ≤ ms) ∧ ∃ mc_35 ms_36 : Nat, (0 + d_9 + d_17 + d_25 + mc_35 ≤ mc ∧ 0 + e_10 + e_18 + e_26 + ms_36 ≤ ms) ∧ wa_Wr_flag mc_35 ms_36 y_24 (fun (y_32 : Ly) (s_31 : St) (d_33 e_34 : Nat) => (0 + d_9 + d_17 + d_25 + d_33 ≤ mc ∧ 0 + e_10 + e_18 + e_26 + e_34 ≤ ms) ∧ ∃ mc_43 ms_44 : Nat, (0 + d_9 + d_17 + d_25 + d_33 + mc_43 ≤ mc ∧ 0 + e_10 + e_18 + e_26 + e_34 + ms_44 ≤ ms) ∧ wa_Wr_flag mc_43 ms_44 y_32 (fun (y_40 : Ly) (s_39 : St) (d_41 e_42 : Nat) => (0 + d_9 + d_17 + d_25 + d_33 + d_41 ≤ mc ∧ 0 + e_10 + e_18 + e_26 + e_34 + e_42 ≤ ms) ∧ ∃ b_46 : Nat, sO s_39 a0 2 = some b_46 ∧ cl b_46 = 9 ∧ wu_Wd_field y_40 (fun (s_50 : St) (r_49 : Int32) => ∃ mc_56 ms_57 : Nat, (0 + d_9 + d_17 + d_25 + d_33 + d_41 + mc_56 ≤ mc ∧ 0 + e_10 + e_18 + e_26 + e_34 + e_42 + ms_57 ≤ ms) ∧ wa_Wr_word mc_56 ms_57 y_40 (fun (y_53 : Ly) (s_52 : St) (d_54 e_55 : Nat) => (0 + d_9 + d_17 + d_25 + d_33 + d_41 + d_54 ≤ mc ∧ 0 + e_10 + e_18 + e_26 + e_34 + e_42 + e_55 ≤ ms) ∧ ∃ b_59 : Nat, sO s_52 a0 2 = some b_59 ∧ cl b_59 = 9 ∧ wu_Wd_field y_53 (fun (s_63 : St) (r_62 : Int32) => ∃ mc_69 ms_70 : Nat, (0 + d_9 + d_17 + d_25 + d_33 + d_41 + d_54 + mc_69 ≤ mc ∧ 0 + e_10 + e_18 + e_26 + e_34 + e_42 + e_55 + ms_70 ≤ ms) ∧ wa_Wr_word mc_69 ms_70 y_53 (fun (y_66 : Ly) (s_65 : St) (d_67 e_68 : Nat) => (0 + d_9 + d_17 + d_25 + d_33 + d_41 + d_54 + d_67 ≤ mc ∧ 0 + e_10 + e_18 + e_26 + e_34 + e_42 + e_55 + e_68 ≤ ms) ∧ ∃ b_72 : Nat, sO s_65 a0 2 = some b_72 ∧ cl b_72 = 9 ∧ wu_Wd_field y_66 (fun (s_76 : St) (r_75 : Int32) => ((r_75 = 0 → wja_Wr_writeField_122 mc ms Post a0 y_66 s_76 (0 + d_9 + d_17 + d_25 + d_33 + d_41 + d_54 + d_67) (0 + e_10 + e_18 + e_26 + e_34 + e_42 + e_55 + e_68)) ∧ (¬ (r_75 = 0) → ∃ mc_90 ms_91 : Nat, (0 + d_9 + d_17 + d_25 + d_33 + d_41 + d_54 + d_67 + mc_90 ≤ mc ∧ 0 + e_10 + e_18 + e_26 + e_34 + e_42 + e_55 + e_68 + ms_91 ≤ ms) ∧ wa_Wr_sign mc_90 ms_91 y_66 (fun (y_87 : Ly) (s_86 : St) (d_88 e_89 : Nat) => (0 + d_9 + d_17 + d_25 + d_33 + d_41 + d_54 + d_67 + d_88 ≤ mc ∧ 0 + e_10 + e_18 + e_26 + e_34 + e_42 + e_55 + e_68 + e_89 ≤ ms) ∧ ∃ b_93 : Nat, sO s_86 a0 2 = some b_93 ∧ cl b_93 = 9 ∧ wu_Wd_field y_87 (fun (s_97 : St) (r_96 : Int32) => ∃ mc_103 ms_104 : Nat, (0 + d_9 + d_17 + d_25 + d_33 + d_41 + d_54 + d_67 + d_88 + mc_103 ≤ mc ∧ 0 + e_10 + e_18 + e_26 + e_34 + e_42 + e_55 + e_68 + e_89 + ms_104 ≤ ms) ∧ wa_Wr_number mc_103 ms_104 y_87 (fun (y_100 : Ly) (s_99 : St) (d_101 e_102 : Nat) => (0 + d_9 + d_17 + d_25 + d_33 + d_41 + d_54 + d_67 + d_88 + d_101 ≤ mc ∧ 0 + e_10 + e_18 + e_26 + e_34 + e_42 + e_55 + e_68 + e_89 + e_102 ≤ ms) ∧ wja_Wr_writeField_122 mc ms Post a0 y_100 s_99 (0 + d_9 + d_17 + d_25 + d_33 + d_41 + d_54 + d_67 + d_88 + d_101) (0 + e_10 + e_18 + e_26 + e_34 + e_42 + e_55 + e_68 + e_89 + e_102)) s_97 a0 r_96) s_86 b_93 (sV s_86 a0 3) v1 4) s_76 a0 61))) s_65 b_72 (sV s_65 a0 3) v1 3) s_63 a0 r_62) s_52 b_59 (sV s_52 a0 3) v1 1) s_50 a0 r_49) s_39 b_46 (sV s_39 a0 3) v1 0) s_31 a0 r_4 4 41) s_23 a0 r_4 2 37) s_15 a0 r_4 1 40) s_7 a0 31) s_5 a0 1) σ b_1 (sV σ a0 3) v1 2
set_option maxHeartbeats 4000000 in
set_option maxRecDepth 100000 in
theorem ca_Wr_writeField (l : Launch) (D : va_G) (g : Nat → ClassId) (ad : Nat → Nat) (mc ms : Nat) (y : Ly) (Post : Ly → St → Nat → Nat → Prop) (σ : St) (a0 : Nat) (v1 : Int32) (sz uz : Nat) (h_a0 : cl a0 = 10) (h : wa_Wr_writeField mc ms y Post σ a0 v1) : Met l y_Wr_writeField (mw y_Wr_writeField b_Wr_writeField 3 (none)) (ra_Wr_writeField mc ms) (PCu g D [] [.ref (ad a0), .int v1] sz uz (ws g ad y σ)) (va_Qv (fun (u : Ly × St × Nat × Nat) => Post u.1 u.2.1 u.2.2.1 u.2.2.2) (QU D (va_A (ws g ad y σ) sz) (fun u => ws g ad u.1 u.2.1) sz uz (fun u => u.2.2.1) (fun u => u.2.2.2)) (va_A (ws g ad y σ) sz)) mc ms (va_A (ws g ad y σ) sz) := by
  refine ofVu (by decide +kernel) (Nat.le_of_ble_eq_true rfl) ?_
  intro p e s m args below meth c A Q ls H locs G hsz hP hD hS hl hret
  subst hsz
  have hl : lv_has ls 3 [(0, .ref (ad a0)), (1, .int v1)] := hl
  have hd : 0 ≤ mc ∧ 0 ≤ ms := ⟨Nat.zero_le _, Nat.zero_le _⟩
  unfold wa_Wr_writeField at h
  refine lv_aload_n G.1 G.2.1 d_Wr_writeField_0 rfl (lv_at hl 0 rfl) ?_
  obtain ⟨b_1, e_2, c_3, h⟩ := h
  refine ugf (v := .ref (ad b_1)) G hP h_a0 iWr rfl 2 (by decide) rfl q774 rfl (by show va_rf ((sO σ a0 2).map ad) = _; rw [e_2]; rfl) d_Wr_writeField_1 ?_
  refine lv_aload_n G.1 G.2.1 d_Wr_writeField_4 rfl (lv_at hl 0 rfl) ?_
  refine ugf (v := .int (sV σ a0 3)) G hP h_a0 iWr rfl 3 (by decide) rfl q775 rfl rfl d_Wr_writeField_5 ?_
  refine lv_iload_n G.1 G.2.1 d_Wr_writeField_8 rfl (lv_at hl 1 rfl) ?_
  refine lv_iconst (v := 2) G.1 G.2.1 d_Wr_writeField_9 (by decide) ?_
  refine ucVi (As := [.int (sV σ a0 3), .int v1, .int 2]) (rest := []) G hP hD hS (cu_Wd_field l D g ad y _ σ b_1 (sV σ a0 3) v1 2 H.size c_3 h) w9_Wd_field q2186 ⟨Nat.le_of_ble_eq_true rfl, Nat.le_of_ble_eq_true rfl⟩ rfl rfl c_3 (q := (RWd, TWd, 17)) rfl rfl hl.1 rfl (Nat.le_of_ble_eq_true rfl) rfl hd d_Wr_writeField_10 (fun r_4 s_5 H locs h hP hD hS => ?_)
  refine lv_istore_n (lv' := [(2, .int r_4), (0, .ref (ad a0)), (1, .int v1)]) G.1 G.2.1 d_Wr_writeField_13 rfl hl (by decide) rfl (fun ls hl => ?_)
  refine lv_aload_n G.1 G.2.1 d_Wr_writeField_14 rfl (lv_at hl 1 rfl) ?_
  refine lv_iconst (v := 1) G.1 G.2.1 d_Wr_writeField_15 (by decide) ?_
  obtain ⟨mc_11, ms_12, hr_13, h⟩ := h
  refine uaVv (As := [.int 1]) (rest := []) G hP hD hS (ca_Wr_beginLine l D g ad mc_11 ms_12 y _ s_5 a0 1 H.size (us H) h_a0 h) w9_Wr_beginLine q2155 ⟨Nat.le_of_ble_eq_true rfl, Nat.le_of_ble_eq_true rfl⟩ rfl rfl h_a0 (q := (RWr, TWr, 7)) rfl rfl hl.1 rfl (Nat.le_of_ble_eq_true rfl) rfl hr_13 d_Wr_writeField_16 (fun y_8 s_7 d_9 e_10 H locs h hP hD hS => ?_)
  obtain ⟨hd, h⟩ := h
  refine W.eq (g2 := F0 m 19 ls []) rfl ?_
  refine lv_aload_n G.1 G.2.1 d_Wr_writeField_19 rfl (lv_at hl 1 rfl) ?_
  refine lv_bipush (v := 31) G.1 G.2.1 d_Wr_writeField_20 (by decide) ?_
  obtain ⟨mc_19, ms_20, hr_21, h⟩ := h
  refine uaVv (As := [.int 31]) (rest := []) G hP hD hS (ca_Wr_word l D g ad mc_19 ms_20 y_8 _ s_7 a0 31 H.size (us H) h_a0 h) w9_Wr_word q2164 ⟨Nat.le_of_ble_eq_true rfl, Nat.le_of_ble_eq_true rfl⟩ rfl rfl h_a0 (q := (RWr, TWr, 7)) rfl rfl hl.1 rfl (Nat.le_of_ble_eq_true rfl) rfl hr_21 d_Wr_writeField_22 (fun y_16 s_15 d_17 e_18 H locs h hP hD hS => ?_)
  obtain ⟨hd, h⟩ := h
  refine lv_aload_n G.1 G.2.1 d_Wr_writeField_25 rfl (lv_at hl 1 rfl) ?_
  refine lv_iload_n G.1 G.2.1 d_Wr_writeField_26 rfl (lv_at hl 0 rfl) ?_
  refine lv_iconst (v := 1) G.1 G.2.1 d_Wr_writeField_27 (by decide) ?_
  refine lv_bipush (v := 40) G.1 G.2.1 d_Wr_writeField_28 (by decide) ?_
  obtain ⟨mc_27, ms_28, hr_29, h⟩ := h
  refine uaVv (As := [.int r_4, .int 1, .int 40]) (rest := []) G hP hD hS (ca_Wr_flag l D g ad mc_27 ms_28 y_16 _ s_15 a0 r_4 1 40 H.size (us H) h_a0 h) w9_Wr_flag q2160 ⟨Nat.le_of_ble_eq_true rfl, Nat.le_of_ble_eq_true rfl⟩ rfl rfl h_a0 (q := (RWr, TWr, 7)) rfl rfl hl.1 rfl (Nat.le_of_ble_eq_true rfl) rfl hr_29 d_Wr_writeField_30 (fun y_24 s_23 d_25 e_26 H locs h hP hD hS => ?_)
  obtain ⟨hd, h⟩ := h
  refine lv_aload_n G.1 G.2.1 d_Wr_writeField_33 rfl (lv_at hl 1 rfl) ?_
  refine lv_iload_n G.1 G.2.1 d_Wr_writeField_34 rfl (lv_at hl 0 rfl) ?_
  refine lv_iconst (v := 2) G.1 G.2.1 d_Wr_writeField_35 (by decide) ?_
  refine lv_bipush (v := 37) G.1 G.2.1 d_Wr_writeField_36 (by decide) ?_
  refine W.eq (g2 := F0 m 38 ls [.int 37, .int 2, .int r_4, .ref (ad a0)]) rfl ?_
  obtain ⟨mc_35, ms_36, hr_37, h⟩ := h
  refine uaVv (As := [.int r_4, .int 2, .int 37]) (rest := []) G hP hD hS (ca_Wr_flag l D g ad mc_35 ms_36 y_24 _ s_23 a0 r_4 2 37 H.size (us H) h_a0 h) w9_Wr_flag q2160 ⟨Nat.le_of_ble_eq_true rfl, Nat.le_of_ble_eq_true rfl⟩ rfl rfl h_a0 (q := (RWr, TWr, 7)) rfl rfl hl.1 rfl (Nat.le_of_ble_eq_true rfl) rfl hr_37 d_Wr_writeField_38 (fun y_32 s_31 d_33 e_34 H locs h hP hD hS => ?_)
  obtain ⟨hd, h⟩ := h
  refine lv_aload_n G.1 G.2.1 d_Wr_writeField_41 rfl (lv_at hl 1 rfl) ?_
  refine lv_iload_n G.1 G.2.1 d_Wr_writeField_42 rfl (lv_at hl 0 rfl) ?_
  refine lv_iconst (v := 4) G.1 G.2.1 d_Wr_writeField_43 (by decide) ?_
  refine lv_bipush (v := 41) G.1 G.2.1 d_Wr_writeField_44 (by decide) ?_
  obtain ⟨mc_43, ms_44, hr_45, h⟩ := h
  refine uaVv (As := [.int r_4, .int 4, .int 41]) (rest := []) G hP hD hS (ca_Wr_flag l D g ad mc_43 ms_44 y_32 _ s_31 a0 r_4 4 41 H.size (us H) h_a0 h) w9_Wr_flag q2160 ⟨Nat.le_of_ble_eq_true rfl, Nat.le_of_ble_eq_true rfl⟩ rfl rfl h_a0 (q := (RWr, TWr, 7)) rfl rfl hl.1 rfl (Nat.le_of_ble_eq_true rfl) rfl hr_45 d_Wr_writeField_46 (fun y_40 s_39 d_41 e_42 H locs h hP hD hS => ?_)
  have hl := lv_sub (l' := [(0, .ref (ad a0)), (1, .int v1)]) hl [1, 2] rfl
  obtain ⟨hd, h⟩ := h
  refine lv_aload_n G.1 G.2.1 d_Wr_writeField_49 rfl (lv_at hl 0 rfl) ?_
  refine lv_aload_n G.1 G.2.1 d_Wr_writeField_50 rfl (lv_at hl 0 rfl) ?_
  obtain ⟨b_46, e_47, c_48, h⟩ := h
  refine ugf (v := .ref (ad b_46)) G hP h_a0 iWr rfl 2 (by decide) rfl q774 rfl (by show va_rf ((sO s_39 a0 2).map ad) = _; rw [e_47]; rfl) d_Wr_writeField_51 ?_
  refine lv_aload_n G.1 G.2.1 d_Wr_writeField_54 rfl (lv_at hl 0 rfl) ?_
  refine ugf (v := .int (sV s_39 a0 3)) G hP h_a0 iWr rfl 3 (by decide) rfl q775 rfl rfl d_Wr_writeField_55 ?_
  refine lv_iload_n G.1 G.2.1 d_Wr_writeField_58 rfl (lv_at hl 1 rfl) ?_
  refine W.eq (g2 := F0 m 59 ls [.int v1, .int (sV s_39 a0 3), .ref (ad b_46), .ref (ad a0)]) rfl ?_
  refine lv_iconst (v := 0) G.1 G.2.1 d_Wr_writeField_59 (by decide) ?_
  refine ucVi (As := [.int (sV s_39 a0 3), .int v1, .int 0]) (rest := [.ref (ad a0)]) G hP hD hS (cu_Wd_field l D g ad y_40 _ s_39 b_46 (sV s_39 a0 3) v1 0 H.size c_48 h) w9_Wd_field q2186 ⟨Nat.le_of_ble_eq_true rfl, Nat.le_of_ble_eq_true rfl⟩ rfl rfl c_48 (q := (RWd, TWd, 17)) rfl rfl hl.1 rfl (Nat.le_of_ble_eq_true rfl) rfl hd d_Wr_writeField_60 (fun r_49 s_50 H locs h hP hD hS => ?_)
  obtain ⟨mc_56, ms_57, hr_58, h⟩ := h
  refine uaVv (As := [.int r_49]) (rest := []) G hP hD hS (ca_Wr_word l D g ad mc_56 ms_57 y_40 _ s_50 a0 r_49 H.size (us H) h_a0 h) w9_Wr_word q2164 ⟨Nat.le_of_ble_eq_true rfl, Nat.le_of_ble_eq_true rfl⟩ rfl rfl h_a0 (q := (RWr, TWr, 7)) rfl rfl hl.1 rfl (Nat.le_of_ble_eq_true rfl) rfl hr_58 d_Wr_writeField_63 (fun y_53 s_52 d_54 e_55 H locs h hP hD hS => ?_)
  obtain ⟨hd, h⟩ := h
  refine lv_aload_n G.1 G.2.1 d_Wr_writeField_66 rfl (lv_at hl 0 rfl) ?_
  refine lv_aload_n G.1 G.2.1 d_Wr_writeField_67 rfl (lv_at hl 0 rfl) ?_
  obtain ⟨b_59, e_60, c_61, h⟩ := h
  refine ugf (v := .ref (ad b_59)) G hP h_a0 iWr rfl 2 (by decide) rfl q774 rfl (by show va_rf ((sO s_52 a0 2).map ad) = _; rw [e_60]; rfl) d_Wr_writeField_68 ?_
  refine lv_aload_n G.1 G.2.1 d_Wr_writeField_71 rfl (lv_at hl 0 rfl) ?_
  refine ugf (v := .int (sV s_52 a0 3)) G hP h_a0 iWr rfl 3 (by decide) rfl q775 rfl rfl d_Wr_writeField_72 ?_
  refine lv_iload_n G.1 G.2.1 d_Wr_writeField_75 rfl (lv_at hl 1 rfl) ?_
  refine lv_iconst (v := 1) G.1 G.2.1 d_Wr_writeField_76 (by decide) ?_
  refine ucVi (As := [.int (sV s_52 a0 3), .int v1, .int 1]) (rest := [.ref (ad a0)]) G hP hD hS (cu_Wd_field l D g ad y_53 _ s_52 b_59 (sV s_52 a0 3) v1 1 H.size c_61 h) w9_Wd_field q2186 ⟨Nat.le_of_ble_eq_true rfl, Nat.le_of_ble_eq_true rfl⟩ rfl rfl c_61 (q := (RWd, TWd, 17)) rfl rfl hl.1 rfl (Nat.le_of_ble_eq_true rfl) rfl hd d_Wr_writeField_77 (fun r_62 s_63 H locs h hP hD hS => ?_)
  obtain ⟨mc_69, ms_70, hr_71, h⟩ := h
  refine uaVv (As := [.int r_62]) (rest := []) G hP hD hS (ca_Wr_word l D g ad mc_69 ms_70 y_53 _ s_63 a0 r_62 H.size (us H) h_a0 h) w9_Wr_word q2164 ⟨Nat.le_of_ble_eq_true rfl, Nat.le_of_ble_eq_true rfl⟩ rfl rfl h_a0 (q := (RWr, TWr, 7)) rfl rfl hl.1 rfl (Nat.le_of_ble_eq_true rfl) rfl hr_71 d_Wr_writeField_80 (fun y_66 s_65 d_67 e_68 H locs h hP hD hS => ?_)
  obtain ⟨hd, h⟩ := h
  refine W.eq (g2 := F0 m 83 ls []) rfl ?_
  refine lv_aload_n G.1 G.2.1 d_Wr_writeField_83 rfl (lv_at hl 0 rfl) ?_
  obtain ⟨b_72, e_73, c_74, h⟩ := h
  refine ugf (v := .ref (ad b_72)) G hP h_a0 iWr rfl 2 (by decide) rfl q774 rfl (by show va_rf ((sO s_65 a0 2).map ad) = _; rw [e_73]; rfl) d_Wr_writeField_84 ?_
  refine lv_aload_n G.1 G.2.1 d_Wr_writeField_87 rfl (lv_at hl 0 rfl) ?_
  refine ugf (v := .int (sV s_65 a0 3)) G hP h_a0 iWr rfl 3 (by decide) rfl q775 rfl rfl d_Wr_writeField_88 ?_
  refine lv_iload_n G.1 G.2.1 d_Wr_writeField_91 rfl (lv_at hl 1 rfl) ?_
  refine lv_iconst (v := 3) G.1 G.2.1 d_Wr_writeField_92 (by decide) ?_
  refine ucVi (As := [.int (sV s_65 a0 3), .int v1, .int 3]) (rest := []) G hP hD hS (cu_Wd_field l D g ad y_66 _ s_65 b_72 (sV s_65 a0 3) v1 3 H.size c_74 h) w9_Wd_field q2186 ⟨Nat.le_of_ble_eq_true rfl, Nat.le_of_ble_eq_true rfl⟩ rfl rfl c_74 (q := (RWd, TWd, 17)) rfl rfl hl.1 rfl (Nat.le_of_ble_eq_true rfl) rfl hd d_Wr_writeField_93 (fun r_75 s_76 H locs h hP hD hS => ?_)
  have J_122 : ∀ (y_j122 : Ly) (s_j122 : St) (d_j122 e_j122 : Nat) (H : Heap) (locs : List Loc), wja_Wr_writeField_122 mc ms Post a0 y_j122 s_j122 d_j122 e_j122 → va_P D CL (ws g ad y_j122 s_j122) H → va_D A (ws g ad y_j122 s_j122) → va_S A s.heap H locs → ∀ ls, lv_has ls 3 [(0, .ref (ad a0))] → W p l e (ra_Wr_writeField mc ms) s m args below meth c H locs d_j122 e_j122 Q (F0 m 122 ls []) := by
    intro y_j122 s_j122 d_j122 e_j122 H locs h hP hD hS ls hl
    unfold wja_Wr_writeField_122 at h
    obtain ⟨hd, h⟩ := h
    refine lv_aload_n G.1 G.2.1 d_Wr_writeField_122 rfl (lv_at hl 0 rfl) ?_
    obtain ⟨mc_82, ms_83, hr_84, h⟩ := h
    refine uaVv (As := []) (rest := []) G hP hD hS (ca_Wr_endLine l D g ad mc_82 ms_83 y_j122 _ s_j122 a0 H.size (us H) h_a0 h) w9_Wr_endLine q2178 ⟨Nat.le_of_ble_eq_true rfl, Nat.le_of_ble_eq_true rfl⟩ rfl rfl h_a0 (q := (RWr, TWr, 7)) rfl rfl hl.1 rfl (Nat.le_of_ble_eq_true rfl) rfl hr_84 d_Wr_writeField_123 (fun y_79 s_78 d_80 e_81 H locs h hP hD hS => ?_)
    have hl := lv_sub (l' := []) hl [] rfl
    obtain ⟨hd, h⟩ := h
    exact hret (y_79, s_78, d_j122 + d_80, e_j122 + e_81) _ _ _ _ _ ls h hP hD hS (Nat.le_refl _) (Nat.le_refl _) hd.1 hd.2 d_Wr_writeField_126
  refine lv_if_eq (tgt := 122) G.1 G.2.1 d_Wr_writeField_96 (by decide) (fun c96 => ?_) (fun c96 => ?_)
  · skip
    have h := h.1 c96
    exact J_122 y_66 s_76 (0 + d_9 + d_17 + d_25 + d_33 + d_41 + d_54 + d_67) (0 + e_10 + e_18 + e_26 + e_34 + e_42 + e_55 + e_68) H locs h hP hD hS ls (lv_sub hl [0] rfl)
  · skip
    have h := h.2 c96
    refine lv_aload_n G.1 G.2.1 d_Wr_writeField_99 rfl (lv_at hl 0 rfl) ?_
    refine lv_bipush (v := 61) G.1 G.2.1 d_Wr_writeField_100 (by decide) ?_
    obtain ⟨mc_90, ms_91, hr_92, h⟩ := h
    refine uaVv (As := [.int 61]) (rest := []) G hP hD hS (ca_Wr_sign l D g ad mc_90 ms_91 y_66 _ s_76 a0 61 H.size (us H) h_a0 h) w9_Wr_sign q2174 ⟨Nat.le_of_ble_eq_true rfl, Nat.le_of_ble_eq_true rfl⟩ rfl rfl h_a0 (q := (RWr, TWr, 7)) rfl rfl hl.1 rfl (Nat.le_of_ble_eq_true rfl) rfl hr_92 d_Wr_writeField_102 (fun y_87 s_86 d_88 e_89 H locs h hP hD hS => ?_)
    obtain ⟨hd, h⟩ := h
    refine lv_aload_n G.1 G.2.1 d_Wr_writeField_105 rfl (lv_at hl 0 rfl) ?_
    refine W.eq (g2 := F0 m 106 ls [.ref (ad a0)]) rfl ?_
    refine lv_aload_n G.1 G.2.1 d_Wr_writeField_106 rfl (lv_at hl 0 rfl) ?_
    obtain ⟨b_93, e_94, c_95, h⟩ := h
    refine ugf (v := .ref (ad b_93)) G hP h_a0 iWr rfl 2 (by decide) rfl q774 rfl (by show va_rf ((sO s_86 a0 2).map ad) = _; rw [e_94]; rfl) d_Wr_writeField_107 ?_
    refine lv_aload_n G.1 G.2.1 d_Wr_writeField_110 rfl (lv_at hl 0 rfl) ?_
    refine ugf (v := .int (sV s_86 a0 3)) G hP h_a0 iWr rfl 3 (by decide) rfl q775 rfl rfl d_Wr_writeField_111 ?_
    refine lv_iload_n G.1 G.2.1 d_Wr_writeField_114 rfl (lv_at hl 1 rfl) ?_
    refine lv_iconst (v := 4) G.1 G.2.1 d_Wr_writeField_115 (by decide) ?_
    refine ucVi (As := [.int (sV s_86 a0 3), .int v1, .int 4]) (rest := [.ref (ad a0)]) G hP hD hS (cu_Wd_field l D g ad y_87 _ s_86 b_93 (sV s_86 a0 3) v1 4 H.size c_95 h) w9_Wd_field q2186 ⟨Nat.le_of_ble_eq_true rfl, Nat.le_of_ble_eq_true rfl⟩ rfl rfl c_95 (q := (RWd, TWd, 17)) rfl rfl hl.1 rfl (Nat.le_of_ble_eq_true rfl) rfl hd d_Wr_writeField_116 (fun r_96 s_97 H locs h hP hD hS => ?_)
    obtain ⟨mc_103, ms_104, hr_105, h⟩ := h
    refine uaVv (As := [.int r_96]) (rest := []) G hP hD hS (ca_Wr_number l D g ad mc_103 ms_104 y_87 _ s_97 a0 r_96 H.size (us H) h_a0 h) w9_Wr_number q2187 ⟨Nat.le_of_ble_eq_true rfl, Nat.le_of_ble_eq_true rfl⟩ rfl rfl h_a0 (q := (RWr, TWr, 7)) rfl rfl hl.1 rfl (Nat.le_of_ble_eq_true rfl) rfl hr_105 d_Wr_writeField_119 (fun y_100 s_99 d_101 e_102 H locs h hP hD hS => ?_)
    have hl := lv_sub (l' := [(0, .ref (ad a0))]) hl [0] rfl
    obtain ⟨hd, h⟩ := h
    exact J_122 y_100 s_99 (0 + d_9 + d_17 + d_25 + d_33 + d_41 + d_54 + d_67 + d_88 + d_101) (0 + e_10 + e_18 + e_26 + e_34 + e_42 + e_55 + e_68 + e_89 + e_102) H locs h hP hD hS ls (lv_sub hl [0] rfl)
def y_Wr_writeSign : MethodName := ⟨"ClassWorks$Writer", "writeSign", "(I)V"⟩
abbrev b_Wr_writeSign : ByteArray := prog_12_method_14_code
theorem q2207 : Cond.methodLink "ClassWorks$Writer" 126 y_Na_nameOf ∈ lw_ok := lw_okmem (List.mem_of_getElem? (i := 2207) (by decide +kernel)) rfl
theorem q2208 : Cond.methodLink "ClassWorks$Writer" 129 y_Na_argumentsOf ∈ lw_ok := lw_okmem (List.mem_of_getElem? (i := 2208) (by decide +kernel)) rfl
theorem q2210 : Cond.methodLink "ClassWorks$Writer" 135 y_Na_resultOf ∈ lw_ok := lw_okmem (List.mem_of_getElem? (i := 2210) (by decide +kernel)) rfl
theorem q2209 : Cond.methodLink "ClassWorks$Writer" 132 y_Na_typeOf ∈ lw_ok := lw_okmem (List.mem_of_getElem? (i := 2209) (by decide +kernel)) rfl
theorem d_Wr_writeSign_0 : decode b_Wr_writeSign 0 = .ok (.aload_n 0, 1) := by decide +kernel
theorem d_Wr_writeSign_1 : decode b_Wr_writeSign 1 = .ok (.aload_n 0, 1) := by decide +kernel
theorem d_Wr_writeSign_2 : decode b_Wr_writeSign 2 = .ok (.getfield 35, 3) := by decide +kernel
theorem d_Wr_writeSign_5 : decode b_Wr_writeSign 5 = .ok (.iload_n 1, 1) := by decide +kernel
theorem d_Wr_writeSign_6 : decode b_Wr_writeSign 6 = .ok (.invokevirtual 126, 3) := by decide +kernel
theorem d_Wr_writeSign_9 : decode b_Wr_writeSign 9 = .ok (.invokevirtual 64, 3) := by decide +kernel
theorem d_Wr_writeSign_12 : decode b_Wr_writeSign 12 = .ok (.aload_n 0, 1) := by decide +kernel
theorem d_Wr_writeSign_13 : decode b_Wr_writeSign 13 = .ok (.bipush 40, 2) := by decide +kernel
theorem d_Wr_writeSign_15 : decode b_Wr_writeSign 15 = .ok (.invokevirtual 98, 3) := by decide +kernel
theorem d_Wr_writeSign_18 : decode b_Wr_writeSign 18 = .ok (.iconst 0, 1) := by decide +kernel
theorem d_Wr_writeSign_19 : decode b_Wr_writeSign 19 = .ok (.istore_n 2, 1) := by decide +kernel
theorem d_Wr_writeSign_20 : decode b_Wr_writeSign 20 = .ok (.iload_n 2, 1) := by decide +kernel
theorem d_Wr_writeSign_21 : decode b_Wr_writeSign 21 = .ok (.aload_n 0, 1) := by decide +kernel
theorem d_Wr_writeSign_22 : decode b_Wr_writeSign 22 = .ok (.getfield 35, 3) := by decide +kernel
theorem d_Wr_writeSign_25 : decode b_Wr_writeSign 25 = .ok (.iload_n 1, 1) := by decide +kernel
theorem d_Wr_writeSign_26 : decode b_Wr_writeSign 26 = .ok (.invokevirtual 129, 3) := by decide +kernel
theorem d_Wr_writeSign_29 : decode b_Wr_writeSign 29 = .ok (.if_icmp .ge 32, 3) := by decide +kernel
theorem d_Wr_writeSign_32 : decode b_Wr_writeSign 32 = .ok (.iload_n 2, 1) := by decide +kernel
theorem d_Wr_writeSign_33 : decode b_Wr_writeSign 33 = .ok (.ifCond .le 9, 3) := by decide +kernel
theorem d_Wr_writeSign_36 : decode b_Wr_writeSign 36 = .ok (.aload_n 0, 1) := by decide +kernel
theorem d_Wr_writeSign_37 : decode b_Wr_writeSign 37 = .ok (.bipush 44, 2) := by decide +kernel
theorem d_Wr_writeSign_39 : decode b_Wr_writeSign 39 = .ok (.invokevirtual 98, 3) := by decide +kernel
theorem d_Wr_writeSign_42 : decode b_Wr_writeSign 42 = .ok (.aload_n 0, 1) := by decide +kernel
theorem d_Wr_writeSign_43 : decode b_Wr_writeSign 43 = .ok (.aload_n 0, 1) := by decide +kernel
theorem d_Wr_writeSign_44 : decode b_Wr_writeSign 44 = .ok (.getfield 35, 3) := by decide +kernel
theorem d_Wr_writeSign_47 : decode b_Wr_writeSign 47 = .ok (.iload_n 1, 1) := by decide +kernel
theorem d_Wr_writeSign_48 : decode b_Wr_writeSign 48 = .ok (.iload_n 2, 1) := by decide +kernel
theorem d_Wr_writeSign_49 : decode b_Wr_writeSign 49 = .ok (.invokevirtual 132, 3) := by decide +kernel
theorem d_Wr_writeSign_52 : decode b_Wr_writeSign 52 = .ok (.invokevirtual 64, 3) := by decide +kernel
theorem d_Wr_writeSign_55 : decode b_Wr_writeSign 55 = .ok (.iinc 2 1, 3) := by decide +kernel
theorem d_Wr_writeSign_58 : decode b_Wr_writeSign 58 = .ok (.goto (-38), 3) := by decide +kernel
theorem d_Wr_writeSign_61 : decode b_Wr_writeSign 61 = .ok (.aload_n 0, 1) := by decide +kernel
theorem d_Wr_writeSign_62 : decode b_Wr_writeSign 62 = .ok (.bipush 41, 2) := by decide +kernel
theorem d_Wr_writeSign_64 : decode b_Wr_writeSign 64 = .ok (.invokevirtual 98, 3) := by decide +kernel
theorem d_Wr_writeSign_67 : decode b_Wr_writeSign 67 = .ok (.aload_n 0, 1) := by decide +kernel
theorem d_Wr_writeSign_68 : decode b_Wr_writeSign 68 = .ok (.aload_n 0, 1) := by decide +kernel
theorem d_Wr_writeSign_69 : decode b_Wr_writeSign 69 = .ok (.getfield 35, 3) := by decide +kernel
theorem d_Wr_writeSign_72 : decode b_Wr_writeSign 72 = .ok (.iload_n 1, 1) := by decide +kernel
theorem d_Wr_writeSign_73 : decode b_Wr_writeSign 73 = .ok (.invokevirtual 135, 3) := by decide +kernel
theorem d_Wr_writeSign_76 : decode b_Wr_writeSign 76 = .ok (.invokevirtual 64, 3) := by decide +kernel
theorem d_Wr_writeSign_79 : decode b_Wr_writeSign 79 = .ok (.return_, 1) := by decide +kernel
abbrev ra_Wr_writeSign (mc ms : Nat) : Room := { frames := 7, cells := mc, slots := ms, locals := 463 }
def wja_Wr_writeSign_42 (mc ms : Nat) (Post : Ly → St → Nat → Nat → Prop) (K_20 : Ly → St → Nat → Nat → Int32 → Int32 → Prop) (a0 : Nat) (y_j42 : Ly) (s_j42 : St) (d_j42 e_j42 : Nat) (x1j42 : Int32) (x2j42 : Int32) : Prop := (d_j42 ≤ mc ∧ e_j42 ≤ ms) ∧ wu_Na_typeOf y_j42 (fun (s_40 : St) (r_39 : Int32) => ∃ mc_46 ms_47 : Nat, (d_j42 + mc_46 ≤ mc ∧ e_j42 + ms_47 ≤ ms) ∧ wa_Wr_word mc_46 ms_47 y_j42 (fun (y_43 : Ly) (s_42 : St) (d_44 e_45 : Nat) => (d_j42 + d_44 ≤ mc ∧ e_j42 + e_45 ≤ ms) ∧ K_20 y_43 s_42 (d_j42 + d_44) (e_j42 + e_45) x1j42 (x2j42 + 1)) s_40 a0 r_39) s_j42 (lk a0 1) x1j42 x2j42
def wba_Wr_writeSign_20 (mc ms : Nat) (Post : Ly → St → Nat → Nat → Prop) (K_20 : Ly → St → Nat → Nat → Int32 → Int32 → Prop) (a0 : Nat) (y_h20 : Ly) (s_h20 : St) (d_h20 e_h20 : Nat) (x1h20 : Int32) (x2h20 : Int32) : Prop := (d_h20 ≤ mc ∧ e_h20 ≤ ms) ∧ wu_Na_argumentsOf y_h20 (fun (s_20 : St) (r_19 : Int32) => ((r_19 ≤ x2h20 → ∃ mc_26 ms_27 : Nat, (d_h20 + mc_26 ≤ mc ∧ e_h20 + ms_27 ≤ ms) ∧ wa_Wr_sign mc_26 ms_27 y_h20 (fun (y_23 : Ly) (s_22 : St) (d_24 e_25 : Nat) => (d_h20 + d_24 ≤ mc ∧ e_h20 + e_25 ≤ ms) ∧ wu_Na_resultOf y_23 (fun (s_30 : St) (r_29 : Int32) => ∃ mc_36 ms_37 : Nat, (d_h20 + d_24 + mc_36 ≤ mc ∧ e_h20 + e_25 + ms_37 ≤ ms) ∧ wa_Wr_word mc_36 ms_37 y_23 (fun (y_33 : Ly) (s_32 : St) (d_34 e_35 : Nat) => (d_h20 + d_24 + d_34 ≤ mc ∧ e_h20 + e_25 + e_35 ≤ ms) ∧ Post y_33 s_32 (d_h20 + d_24 + d_34) (e_h20 + e_25 + e_35)) s_30 a0 r_29) s_22 (lk a0 1) x1h20) s_20 a0 41) ∧ (¬ (r_19 ≤ x2h20) → ((x2h20 ≤ 0 → wja_Wr_writeSign_42 mc ms Post K_20 a0 y_h20 s_20 d_h20 e_h20 x1h20 x2h20) ∧ (¬ (x2h20 ≤ 0) → ∃ mc_54 ms_55 : Nat, (d_h20 + mc_54 ≤ mc ∧ e_h20 + ms_55 ≤ ms) ∧ wa_Wr_sign mc_54 ms_55 y_h20 (fun (y_51 : Ly) (s_50 : St) (d_52 e_53 : Nat) => (d_h20 + d_52 ≤ mc ∧ e_h20 + e_53 ≤ ms) ∧ wja_Wr_writeSign_42 mc ms Post K_20 a0 y_51 s_50 (d_h20 + d_52) (e_h20 + e_53) x1h20 x2h20) s_20 a0 44))))) s_h20 (lk a0 1) x1h20
def wla_Wr_writeSign_20 (mc ms : Nat) (Post : Ly → St → Nat → Nat → Prop) (a0 : Nat) (y_h20 : Ly) (s_h20 : St) (d_h20 e_h20 : Nat) (x1h20 : Int32) (x2h20 : Int32) : Prop := ∃ (I : Ly → St → Nat → Nat → Int32 → Int32 → Prop) (μ : Ly → St → Nat → Nat → Int32 → Int32 → Nat), I y_h20 s_h20 d_h20 e_h20 x1h20 x2h20 ∧ ∀ (u1 : Ly) (u2 : St) (u3 u4 : Nat) (t0 : Int32) (t1 : Int32), I u1 u2 u3 u4 t0 t1 → wba_Wr_writeSign_20 mc ms Post (fun z1 z2 z3 z4 t0q t1q => I z1 z2 z3 z4 t0q t1q ∧ μ z1 z2 z3 z4 t0q t1q < μ u1 u2 u3 u4 t0 t1) a0 u1 u2 u3 u4 t0 t1
def wa_Wr_writeSign (mc ms : Nat) (y : Ly) (Post : Ly → St → Nat → Nat → Prop) (σ : St) (a0 : Nat) (v1 : Int32) : Prop := wu_Na_nameOf y (fun (s_2 : St) (r_1 : Int32) => ∃ mc_8 ms_9 : Nat, (0 + mc_8 ≤ mc ∧ 0 + ms_9 ≤ ms) ∧ wa_Wr_word mc_8 ms_9 y (fun (y_5 : Ly) (s_4 : St) (d_6 e_7 : Nat) => (0 + d_6 ≤ mc ∧ 0 + e_7 ≤ ms) ∧ ∃ mc_16 ms_17 : Nat, (0 + d_6 + mc_16 ≤ mc ∧ 0 + e_7 + ms_17 ≤ ms) ∧ wa_Wr_sign mc_16 ms_17 y_5 (fun (y_13 : Ly) (s_12 : St) (d_14 e_15 : Nat) => (0 + d_6 + d_14 ≤ mc ∧ 0 + e_7 + e_15 ≤ ms) ∧ wla_Wr_writeSign_20 mc ms Post a0 y_13 s_12 (0 + d_6 + d_14) (0 + e_7 + e_15) v1 0) s_4 a0 40) s_2 a0 r_1) σ (lk a0 1) v1
set_option maxHeartbeats 4000000 in
set_option maxRecDepth 100000 in
theorem ca_Wr_writeSign (l : Launch) (D : va_G) (g : Nat → ClassId) (ad : Nat → Nat) (mc ms : Nat) (y : Ly) (Post : Ly → St → Nat → Nat → Prop) (σ : St) (a0 : Nat) (v1 : Int32) (sz uz : Nat) (h_a0 : cl a0 = 10) (h : wa_Wr_writeSign mc ms y Post σ a0 v1) : Met l y_Wr_writeSign (mw y_Wr_writeSign b_Wr_writeSign 3 (none)) (ra_Wr_writeSign mc ms) (PCu g D [] [.ref (ad a0), .int v1] sz uz (ws g ad y σ)) (va_Qv (fun (u : Ly × St × Nat × Nat) => Post u.1 u.2.1 u.2.2.1 u.2.2.2) (QU D (va_A (ws g ad y σ) sz) (fun u => ws g ad u.1 u.2.1) sz uz (fun u => u.2.2.1) (fun u => u.2.2.2)) (va_A (ws g ad y σ) sz)) mc ms (va_A (ws g ad y σ) sz) := by
  refine ofVu (by decide +kernel) (Nat.le_of_ble_eq_true rfl) ?_
  intro p e s m args below meth c A Q ls H locs G hsz hP hD hS hl hret
  subst hsz
  have hl : lv_has ls 3 [(0, .ref (ad a0)), (1, .int v1)] := hl
  have hd : 0 ≤ mc ∧ 0 ≤ ms := ⟨Nat.zero_le _, Nat.zero_le _⟩
  unfold wa_Wr_writeSign at h
  refine lv_aload_n G.1 G.2.1 d_Wr_writeSign_0 rfl (lv_at hl 0 rfl) ?_
  refine lv_aload_n G.1 G.2.1 d_Wr_writeSign_1 rfl (lv_at hl 0 rfl) ?_
  refine ugf (v := .ref (ad (lk a0 1))) G hP h_a0 iWr rfl 1 (by decide) rfl q773 rfl rfl d_Wr_writeSign_2 ?_
  refine lv_iload_n G.1 G.2.1 d_Wr_writeSign_5 rfl (lv_at hl 1 rfl) ?_
  refine ucVi (As := [.int v1]) (rest := [.ref (ad a0)]) G hP hD hS (cu_Na_nameOf l D g ad y _ σ (lk a0 1) v1 H.size (lk_10_1 h_a0) h) w9_Na_nameOf q2207 ⟨Nat.le_of_ble_eq_true rfl, Nat.le_of_ble_eq_true rfl⟩ rfl rfl (lk_10_1 h_a0) (q := (RNa, TNa, 11)) rfl rfl hl.1 rfl (Nat.le_of_ble_eq_true rfl) rfl hd d_Wr_writeSign_6 (fun r_1 s_2 H locs h hP hD hS => ?_)
  obtain ⟨mc_8, ms_9, hr_10, h⟩ := h
  refine uaVv (As := [.int r_1]) (rest := []) G hP hD hS (ca_Wr_word l D g ad mc_8 ms_9 y _ s_2 a0 r_1 H.size (us H) h_a0 h) w9_Wr_word q2164 ⟨Nat.le_of_ble_eq_true rfl, Nat.le_of_ble_eq_true rfl⟩ rfl rfl h_a0 (q := (RWr, TWr, 7)) rfl rfl hl.1 rfl (Nat.le_of_ble_eq_true rfl) rfl hr_10 d_Wr_writeSign_9 (fun y_5 s_4 d_6 e_7 H locs h hP hD hS => ?_)
  obtain ⟨hd, h⟩ := h
  refine lv_aload_n G.1 G.2.1 d_Wr_writeSign_12 rfl (lv_at hl 0 rfl) ?_
  refine lv_bipush (v := 40) G.1 G.2.1 d_Wr_writeSign_13 (by decide) ?_
  obtain ⟨mc_16, ms_17, hr_18, h⟩ := h
  refine uaVv (As := [.int 40]) (rest := []) G hP hD hS (ca_Wr_sign l D g ad mc_16 ms_17 y_5 _ s_4 a0 40 H.size (us H) h_a0 h) w9_Wr_sign q2174 ⟨Nat.le_of_ble_eq_true rfl, Nat.le_of_ble_eq_true rfl⟩ rfl rfl h_a0 (q := (RWr, TWr, 7)) rfl rfl hl.1 rfl (Nat.le_of_ble_eq_true rfl) rfl hr_18 d_Wr_writeSign_15 (fun y_13 s_12 d_14 e_15 H locs h hP hD hS => ?_)
  obtain ⟨hd, h⟩ := h
  refine lv_iconst (v := 0) G.1 G.2.1 d_Wr_writeSign_18 (by decide) ?_
  refine lv_istore_n (lv' := [(2, .int 0), (0, .ref (ad a0)), (1, .int v1)]) G.1 G.2.1 d_Wr_writeSign_19 rfl hl (by decide) rfl (fun ls hl => ?_)
  unfold wla_Wr_writeSign_20 at h
  obtain ⟨I_20, μ_20, hI_20, hB_20⟩ := h
  have L_20 : ∀ (n_20 : Nat) (y_h20 : Ly) (s_h20 : St) (d_h20 e_h20 : Nat) (x1h20 : Int32) (x2h20 : Int32), μ_20 y_h20 s_h20 d_h20 e_h20 x1h20 x2h20 < n_20 → I_20 y_h20 s_h20 d_h20 e_h20 x1h20 x2h20 → ∀ (H : Heap) (locs : List Loc), va_P D CL (ws g ad y_h20 s_h20) H → va_D A (ws g ad y_h20 s_h20) → va_S A s.heap H locs → ∀ ls, lv_has ls 3 [(0, .ref (ad a0)), (1, .int x1h20), (2, .int x2h20)] → W p l e (ra_Wr_writeSign mc ms) s m args below meth c H locs d_h20 e_h20 Q (F0 m 20 ls []) := by
    intro n_20
    induction n_20 with
    | zero => intro y_h20 s_h20 d_h20 e_h20 x1h20 x2h20 hμ; exact absurd hμ (Nat.not_lt_zero _)
    | succ n_20 ih_20 =>
      intro y_h20 s_h20 d_h20 e_h20 x1h20 x2h20 hμ_20 hJ H locs hP hD hS ls hl
      obtain ⟨K_20, hK_20, h⟩ : ∃ K : Ly → St → Nat → Nat → Int32 → Int32 → Prop, (∀ z1 z2 z3 z4 (t0 : Int32) (t1 : Int32), K z1 z2 z3 z4 t0 t1 → I_20 z1 z2 z3 z4 t0 t1 ∧ μ_20 z1 z2 z3 z4 t0 t1 < μ_20 y_h20 s_h20 d_h20 e_h20 x1h20 x2h20) ∧ wba_Wr_writeSign_20 mc ms Post K a0 y_h20 s_h20 d_h20 e_h20 x1h20 x2h20 := ⟨_, fun _ _ _ _ _ _ h => h, hB_20 y_h20 s_h20 d_h20 e_h20 x1h20 x2h20 hJ⟩
      unfold wba_Wr_writeSign_20 at h
      obtain ⟨hd, h⟩ := h
      refine lv_iload_n G.1 G.2.1 d_Wr_writeSign_20 rfl (lv_at hl 2 rfl) ?_
      refine lv_aload_n G.1 G.2.1 d_Wr_writeSign_21 rfl (lv_at hl 0 rfl) ?_
      refine ugf (v := .ref (ad (lk a0 1))) G hP h_a0 iWr rfl 1 (by decide) rfl q773 rfl rfl d_Wr_writeSign_22 ?_
      refine lv_iload_n G.1 G.2.1 d_Wr_writeSign_25 rfl (lv_at hl 1 rfl) ?_
      refine ucVi (As := [.int x1h20]) (rest := [.int x2h20]) G hP hD hS (cu_Na_argumentsOf l D g ad y_h20 _ s_h20 (lk a0 1) x1h20 H.size (lk_10_1 h_a0) h) w9_Na_argumentsOf q2208 ⟨Nat.le_of_ble_eq_true rfl, Nat.le_of_ble_eq_true rfl⟩ rfl rfl (lk_10_1 h_a0) (q := (RNa, TNa, 11)) rfl rfl hl.1 rfl (Nat.le_of_ble_eq_true rfl) rfl hd d_Wr_writeSign_26 (fun r_19 s_20 H locs h hP hD hS => ?_)
      refine lv_icmp_ge (tgt := 61) G.1 G.2.1 d_Wr_writeSign_29 (by decide) (fun c29 => ?_) (fun c29 => ?_)
      · skip
        have h := h.1 c29
        refine lv_aload_n G.1 G.2.1 d_Wr_writeSign_61 rfl (lv_at hl 0 rfl) ?_
        refine lv_bipush (v := 41) G.1 G.2.1 d_Wr_writeSign_62 (by decide) ?_
        obtain ⟨mc_26, ms_27, hr_28, h⟩ := h
        refine uaVv (As := [.int 41]) (rest := []) G hP hD hS (ca_Wr_sign l D g ad mc_26 ms_27 y_h20 _ s_20 a0 41 H.size (us H) h_a0 h) w9_Wr_sign q2174 ⟨Nat.le_of_ble_eq_true rfl, Nat.le_of_ble_eq_true rfl⟩ rfl rfl h_a0 (q := (RWr, TWr, 7)) rfl rfl hl.1 rfl (Nat.le_of_ble_eq_true rfl) rfl hr_28 d_Wr_writeSign_64 (fun y_23 s_22 d_24 e_25 H locs h hP hD hS => ?_)
        have hl := lv_sub (l' := [(0, .ref (ad a0)), (1, .int x1h20)]) hl [0, 1] rfl
        obtain ⟨hd, h⟩ := h
        refine lv_aload_n G.1 G.2.1 d_Wr_writeSign_67 rfl (lv_at hl 0 rfl) ?_
        refine lv_aload_n G.1 G.2.1 d_Wr_writeSign_68 rfl (lv_at hl 0 rfl) ?_
        refine W.eq (g2 := F0 m 69 ls [.ref (ad a0), .ref (ad a0)]) rfl ?_
        refine ugf (v := .ref (ad (lk a0 1))) G hP h_a0 iWr rfl 1 (by decide) rfl q773 rfl rfl d_Wr_writeSign_69 ?_
        refine lv_iload_n G.1 G.2.1 d_Wr_writeSign_72 rfl (lv_at hl 1 rfl) ?_
        refine ucVi (As := [.int x1h20]) (rest := [.ref (ad a0)]) G hP hD hS (cu_Na_resultOf l D g ad y_23 _ s_22 (lk a0 1) x1h20 H.size (lk_10_1 h_a0) h) w9_Na_resultOf q2210 ⟨Nat.le_of_ble_eq_true rfl, Nat.le_of_ble_eq_true rfl⟩ rfl rfl (lk_10_1 h_a0) (q := (RNa, TNa, 11)) rfl rfl hl.1 rfl (Nat.le_of_ble_eq_true rfl) rfl hd d_Wr_writeSign_73 (fun r_29 s_30 H locs h hP hD hS => ?_)
        obtain ⟨mc_36, ms_37, hr_38, h⟩ := h
        refine uaVv (As := [.int r_29]) (rest := []) G hP hD hS (ca_Wr_word l D g ad mc_36 ms_37 y_23 _ s_30 a0 r_29 H.size (us H) h_a0 h) w9_Wr_word q2164 ⟨Nat.le_of_ble_eq_true rfl, Nat.le_of_ble_eq_true rfl⟩ rfl rfl h_a0 (q := (RWr, TWr, 7)) rfl rfl hl.1 rfl (Nat.le_of_ble_eq_true rfl) rfl hr_38 d_Wr_writeSign_76 (fun y_33 s_32 d_34 e_35 H locs h hP hD hS => ?_)
        have hl := lv_sub (l' := []) hl [] rfl
        obtain ⟨hd, h⟩ := h
        exact hret (y_33, s_32, d_h20 + d_24 + d_34, e_h20 + e_25 + e_35) _ _ _ _ _ ls h hP hD hS (Nat.le_refl _) (Nat.le_refl _) hd.1 hd.2 d_Wr_writeSign_79
      · skip
        have h := h.2 c29
        refine lv_iload_n G.1 G.2.1 d_Wr_writeSign_32 rfl (lv_at hl 2 rfl) ?_
        have J_42 : ∀ (y_j42 : Ly) (s_j42 : St) (d_j42 e_j42 : Nat) (x1j42 : Int32) (x2j42 : Int32) (H : Heap) (locs : List Loc), wja_Wr_writeSign_42 mc ms Post K_20 a0 y_j42 s_j42 d_j42 e_j42 x1j42 x2j42 → va_P D CL (ws g ad y_j42 s_j42) H → va_D A (ws g ad y_j42 s_j42) → va_S A s.heap H locs → ∀ ls, lv_has ls 3 [(0, .ref (ad a0)), (1, .int x1j42), (2, .int x2j42)] → W p l e (ra_Wr_writeSign mc ms) s m args below meth c H locs d_j42 e_j42 Q (F0 m 42 ls []) := by
          intro y_j42 s_j42 d_j42 e_j42 x1j42 x2j42 H locs h hP hD hS ls hl
          unfold wja_Wr_writeSign_42 at h
          obtain ⟨hd, h⟩ := h
          refine lv_aload_n G.1 G.2.1 d_Wr_writeSign_42 rfl (lv_at hl 0 rfl) ?_
          refine lv_aload_n G.1 G.2.1 d_Wr_writeSign_43 rfl (lv_at hl 0 rfl) ?_
          refine ugf (v := .ref (ad (lk a0 1))) G hP h_a0 iWr rfl 1 (by decide) rfl q773 rfl rfl d_Wr_writeSign_44 ?_
          refine lv_iload_n G.1 G.2.1 d_Wr_writeSign_47 rfl (lv_at hl 1 rfl) ?_
          refine lv_iload_n G.1 G.2.1 d_Wr_writeSign_48 rfl (lv_at hl 2 rfl) ?_
          refine ucVi (As := [.int x1j42, .int x2j42]) (rest := [.ref (ad a0)]) G hP hD hS (cu_Na_typeOf l D g ad y_j42 _ s_j42 (lk a0 1) x1j42 x2j42 H.size (lk_10_1 h_a0) h) w9_Na_typeOf q2209 ⟨Nat.le_of_ble_eq_true rfl, Nat.le_of_ble_eq_true rfl⟩ rfl rfl (lk_10_1 h_a0) (q := (RNa, TNa, 11)) rfl rfl hl.1 rfl (Nat.le_of_ble_eq_true rfl) rfl hd d_Wr_writeSign_49 (fun r_39 s_40 H locs h hP hD hS => ?_)
          obtain ⟨mc_46, ms_47, hr_48, h⟩ := h
          refine uaVv (As := [.int r_39]) (rest := []) G hP hD hS (ca_Wr_word l D g ad mc_46 ms_47 y_j42 _ s_40 a0 r_39 H.size (us H) h_a0 h) w9_Wr_word q2164 ⟨Nat.le_of_ble_eq_true rfl, Nat.le_of_ble_eq_true rfl⟩ rfl rfl h_a0 (q := (RWr, TWr, 7)) rfl rfl hl.1 rfl (Nat.le_of_ble_eq_true rfl) rfl hr_48 d_Wr_writeSign_52 (fun y_43 s_42 d_44 e_45 H locs h hP hD hS => ?_)
          obtain ⟨hd, h⟩ := h
          refine lv_iinc (v := x2j42 + 1) (lv' := [(2, .int (x2j42 + 1)), (0, .ref (ad a0)), (1, .int x1j42)]) G.1 G.2.1 d_Wr_writeSign_55 hl (k := 2) rfl rfl (by decide) rfl (fun ls hl => ?_)
          refine lv_goto (tgt := 20) G.1 G.2.1 d_Wr_writeSign_58 (by decide) ?_
          have h := hK_20 y_43 s_42 (d_j42 + d_44) (e_j42 + e_45) x1j42 (x2j42 + 1) h
          exact ih_20 y_43 s_42 (d_j42 + d_44) (e_j42 + e_45) x1j42 (x2j42 + 1) (Nat.lt_of_lt_of_le h.2 (Nat.le_of_lt_succ hμ_20)) h.1 H locs hP hD hS ls (lv_sub hl [1, 2, 0] rfl)
        refine lv_if_le (tgt := 42) G.1 G.2.1 d_Wr_writeSign_33 (by decide) (fun c33 => ?_) (fun c33 => ?_)
        · skip
          have h := h.1 c33
          exact J_42 y_h20 s_20 d_h20 e_h20 x1h20 x2h20 H locs h hP hD hS ls (lv_sub hl [0, 1, 2] rfl)
        · skip
          have h := h.2 c33
          refine lv_aload_n G.1 G.2.1 d_Wr_writeSign_36 rfl (lv_at hl 0 rfl) ?_
          refine lv_bipush (v := 44) G.1 G.2.1 d_Wr_writeSign_37 (by decide) ?_
          obtain ⟨mc_54, ms_55, hr_56, h⟩ := h
          refine uaVv (As := [.int 44]) (rest := []) G hP hD hS (ca_Wr_sign l D g ad mc_54 ms_55 y_h20 _ s_20 a0 44 H.size (us H) h_a0 h) w9_Wr_sign q2174 ⟨Nat.le_of_ble_eq_true rfl, Nat.le_of_ble_eq_true rfl⟩ rfl rfl h_a0 (q := (RWr, TWr, 7)) rfl rfl hl.1 rfl (Nat.le_of_ble_eq_true rfl) rfl hr_56 d_Wr_writeSign_39 (fun y_51 s_50 d_52 e_53 H locs h hP hD hS => ?_)
          obtain ⟨hd, h⟩ := h
          exact J_42 y_51 s_50 (d_h20 + d_52) (e_h20 + e_53) x1h20 x2h20 H locs h hP hD hS ls (lv_sub hl [0, 1, 2] rfl)
  exact L_20 _ y_13 s_12 (0 + d_6 + d_14) (0 + e_7 + e_15) v1 0 (Nat.lt_succ_self _) hI_20 H locs hP hD hS ls (lv_sub hl [1, 2, 0] rfl)
theorem q778 : Cond.fieldLink "ClassWorks$Writer" 31 "ClassWorks$Writer" "labels" "[I" ∈ lw_ok := lw_okmem (List.mem_of_getElem? (i := 778) (by decide +kernel)) rfl
theorem q2215 : Cond.methodLink "ClassWorks$Writer" 150 y_Ja_fill_aIIV ∈ lw_ok := lw_okmem (List.mem_of_getElem? (i := 2215) (by decide +kernel)) rfl
theorem q2223 : Cond.methodLink "ClassWorks$Writer" 169 y_Wr_handler ∈ lw_ok := lw_okmem (List.mem_of_getElem? (i := 2223) (by decide +kernel)) rfl
theorem q2226 : Cond.code y_Wr_handler b_Wr_handler 3 (some .int) ∈ lw_ok := lw_okmem (List.mem_of_getElem? (i := 2226) (by decide +kernel)) rfl
theorem q2225 : Cond.instanceMethod y_Wr_handler ∈ lw_ok := lw_okmem (List.mem_of_getElem? (i := 2225) (by decide +kernel)) rfl
theorem q132 : Cond.selects y_Wr_handler.cls y_Wr_handler y_Wr_handler ∈ lw_ok := lw_okmem (List.mem_of_getElem? (i := 132) (by decide +kernel)) rfl
theorem w9_Wr_handler : CWv y_Wr_handler b_Wr_handler 3 (some .int) 2 ∧ Cond.instanceMethod y_Wr_handler ∈ lw_ok ∧ Cond.selects y_Wr_handler.cls y_Wr_handler y_Wr_handler ∈ lw_ok := ⟨⟨q2226, q343, by decide +kernel, by decide +kernel, by decide +kernel⟩, q2225, q132⟩
theorem q2217 : Cond.methodLink "ClassWorks$Writer" 158 y_Wr_code ∈ lw_ok := lw_okmem (List.mem_of_getElem? (i := 2217) (by decide +kernel)) rfl
theorem q2220 : Cond.code y_Wr_code b_Wr_code 3 (some .int) ∈ lw_ok := lw_okmem (List.mem_of_getElem? (i := 2220) (by decide +kernel)) rfl
theorem q2219 : Cond.instanceMethod y_Wr_code ∈ lw_ok := lw_okmem (List.mem_of_getElem? (i := 2219) (by decide +kernel)) rfl
theorem q131 : Cond.selects y_Wr_code.cls y_Wr_code y_Wr_code ∈ lw_ok := lw_okmem (List.mem_of_getElem? (i := 131) (by decide +kernel)) rfl
theorem w9_Wr_code : CWv y_Wr_code b_Wr_code 3 (some .int) 2 ∧ Cond.instanceMethod y_Wr_code ∈ lw_ok ∧ Cond.selects y_Wr_code.cls y_Wr_code y_Wr_code ∈ lw_ok := ⟨⟨q2220, q343, by decide +kernel, by decide +kernel, by decide +kernel⟩, q2219, q131⟩
def y_Wr_numberLabels : MethodName := ⟨"ClassWorks$Writer", "numberLabels", "()V"⟩
abbrev b_Wr_numberLabels : ByteArray := prog_12_method_17_code
theorem q2222 : Cond.methodLink "ClassWorks$Writer" 160 y_Js_charAt ∈ lw_ok := lw_okmem (List.mem_of_getElem? (i := 2222) (by decide +kernel)) rfl
theorem d_Wr_numberLabels_0 : decode b_Wr_numberLabels 0 = .ok (.aload_n 0, 1) := by decide +kernel
theorem d_Wr_numberLabels_1 : decode b_Wr_numberLabels 1 = .ok (.getfield 39, 3) := by decide +kernel
theorem d_Wr_numberLabels_4 : decode b_Wr_numberLabels 4 = .ok (.aload_n 0, 1) := by decide +kernel
theorem d_Wr_numberLabels_5 : decode b_Wr_numberLabels 5 = .ok (.getfield 20, 3) := by decide +kernel
theorem d_Wr_numberLabels_8 : decode b_Wr_numberLabels 8 = .ok (.aload_n 0, 1) := by decide +kernel
theorem d_Wr_numberLabels_9 : decode b_Wr_numberLabels 9 = .ok (.getfield 24, 3) := by decide +kernel
theorem d_Wr_numberLabels_12 : decode b_Wr_numberLabels 12 = .ok (.iconst 5, 1) := by decide +kernel
theorem d_Wr_numberLabels_13 : decode b_Wr_numberLabels 13 = .ok (.invokevirtual 109, 3) := by decide +kernel
theorem d_Wr_numberLabels_16 : decode b_Wr_numberLabels 16 = .ok (.istore_n 1, 1) := by decide +kernel
theorem d_Wr_numberLabels_17 : decode b_Wr_numberLabels 17 = .ok (.aload_n 0, 1) := by decide +kernel
theorem d_Wr_numberLabels_18 : decode b_Wr_numberLabels 18 = .ok (.getfield 31, 3) := by decide +kernel
theorem d_Wr_numberLabels_21 : decode b_Wr_numberLabels 21 = .ok (.iconst (-1), 1) := by decide +kernel
theorem d_Wr_numberLabels_22 : decode b_Wr_numberLabels 22 = .ok (.invokestatic 150, 3) := by decide +kernel
theorem d_Wr_numberLabels_25 : decode b_Wr_numberLabels 25 = .ok (.iconst 0, 1) := by decide +kernel
theorem d_Wr_numberLabels_26 : decode b_Wr_numberLabels 26 = .ok (.istore_n 2, 1) := by decide +kernel
theorem d_Wr_numberLabels_27 : decode b_Wr_numberLabels 27 = .ok (.iload_n 2, 1) := by decide +kernel
theorem d_Wr_numberLabels_28 : decode b_Wr_numberLabels 28 = .ok (.iload_n 1, 1) := by decide +kernel
theorem d_Wr_numberLabels_29 : decode b_Wr_numberLabels 29 = .ok (.if_icmp .ge 91, 3) := by decide +kernel
theorem d_Wr_numberLabels_32 : decode b_Wr_numberLabels 32 = .ok (.ldc 156, 2) := by decide +kernel
theorem d_Wr_numberLabels_34 : decode b_Wr_numberLabels 34 = .ok (.aload_n 0, 1) := by decide +kernel
theorem d_Wr_numberLabels_35 : decode b_Wr_numberLabels 35 = .ok (.iload_n 2, 1) := by decide +kernel
theorem d_Wr_numberLabels_36 : decode b_Wr_numberLabels 36 = .ok (.iconst 0, 1) := by decide +kernel
theorem d_Wr_numberLabels_37 : decode b_Wr_numberLabels 37 = .ok (.invokevirtual 158, 3) := by decide +kernel
theorem d_Wr_numberLabels_40 : decode b_Wr_numberLabels 40 = .ok (.invokevirtual 160, 3) := by decide +kernel
theorem d_Wr_numberLabels_43 : decode b_Wr_numberLabels 43 = .ok (.istore_n 3, 1) := by decide +kernel
theorem d_Wr_numberLabels_44 : decode b_Wr_numberLabels 44 = .ok (.iload_n 3, 1) := by decide +kernel
theorem d_Wr_numberLabels_45 : decode b_Wr_numberLabels 45 = .ok (.bipush 76, 2) := by decide +kernel
theorem d_Wr_numberLabels_47 : decode b_Wr_numberLabels 47 = .ok (.if_icmp .ne 15, 3) := by decide +kernel
theorem d_Wr_numberLabels_50 : decode b_Wr_numberLabels 50 = .ok (.aload_n 0, 1) := by decide +kernel
theorem d_Wr_numberLabels_51 : decode b_Wr_numberLabels 51 = .ok (.getfield 31, 3) := by decide +kernel
theorem d_Wr_numberLabels_54 : decode b_Wr_numberLabels 54 = .ok (.aload_n 0, 1) := by decide +kernel
theorem d_Wr_numberLabels_55 : decode b_Wr_numberLabels 55 = .ok (.iload_n 2, 1) := by decide +kernel
theorem d_Wr_numberLabels_56 : decode b_Wr_numberLabels 56 = .ok (.iconst 1, 1) := by decide +kernel
theorem d_Wr_numberLabels_57 : decode b_Wr_numberLabels 57 = .ok (.invokevirtual 158, 3) := by decide +kernel
theorem d_Wr_numberLabels_60 : decode b_Wr_numberLabels 60 = .ok (.iconst 0, 1) := by decide +kernel
theorem d_Wr_numberLabels_61 : decode b_Wr_numberLabels 61 = .ok (.iastore, 1) := by decide +kernel
theorem d_Wr_numberLabels_62 : decode b_Wr_numberLabels 62 = .ok (.iconst 0, 1) := by decide +kernel
theorem d_Wr_numberLabels_63 : decode b_Wr_numberLabels 63 = .ok (.istore 4, 2) := by decide +kernel
theorem d_Wr_numberLabels_65 : decode b_Wr_numberLabels 65 = .ok (.iload_n 3, 1) := by decide +kernel
theorem d_Wr_numberLabels_66 : decode b_Wr_numberLabels 66 = .ok (.bipush 80, 2) := by decide +kernel
theorem d_Wr_numberLabels_68 : decode b_Wr_numberLabels 68 = .ok (.if_icmp .ne 46, 3) := by decide +kernel
theorem d_Wr_numberLabels_71 : decode b_Wr_numberLabels 71 = .ok (.iload 4, 2) := by decide +kernel
theorem d_Wr_numberLabels_73 : decode b_Wr_numberLabels 73 = .ok (.aload_n 0, 1) := by decide +kernel
theorem d_Wr_numberLabels_74 : decode b_Wr_numberLabels 74 = .ok (.iload_n 2, 1) := by decide +kernel
theorem d_Wr_numberLabels_75 : decode b_Wr_numberLabels 75 = .ok (.iconst 3, 1) := by decide +kernel
theorem d_Wr_numberLabels_76 : decode b_Wr_numberLabels 76 = .ok (.invokevirtual 158, 3) := by decide +kernel
theorem d_Wr_numberLabels_79 : decode b_Wr_numberLabels 79 = .ok (.if_icmp .ge 35, 3) := by decide +kernel
theorem d_Wr_numberLabels_82 : decode b_Wr_numberLabels 82 = .ok (.aload_n 0, 1) := by decide +kernel
theorem d_Wr_numberLabels_83 : decode b_Wr_numberLabels 83 = .ok (.getfield 31, 3) := by decide +kernel
theorem d_Wr_numberLabels_86 : decode b_Wr_numberLabels 86 = .ok (.aload_n 0, 1) := by decide +kernel
theorem d_Wr_numberLabels_87 : decode b_Wr_numberLabels 87 = .ok (.getfield 39, 3) := by decide +kernel
theorem d_Wr_numberLabels_90 : decode b_Wr_numberLabels 90 = .ok (.getfield 166, 3) := by decide +kernel
theorem d_Wr_numberLabels_93 : decode b_Wr_numberLabels 93 = .ok (.getfield 141, 3) := by decide +kernel
theorem d_Wr_numberLabels_96 : decode b_Wr_numberLabels 96 = .ok (.aload_n 0, 1) := by decide +kernel
theorem d_Wr_numberLabels_97 : decode b_Wr_numberLabels 97 = .ok (.iload_n 2, 1) := by decide +kernel
theorem d_Wr_numberLabels_98 : decode b_Wr_numberLabels 98 = .ok (.iconst 2, 1) := by decide +kernel
theorem d_Wr_numberLabels_99 : decode b_Wr_numberLabels 99 = .ok (.invokevirtual 158, 3) := by decide +kernel
theorem d_Wr_numberLabels_102 : decode b_Wr_numberLabels 102 = .ok (.iload 4, 2) := by decide +kernel
theorem d_Wr_numberLabels_104 : decode b_Wr_numberLabels 104 = .ok (.iadd, 1) := by decide +kernel
theorem d_Wr_numberLabels_105 : decode b_Wr_numberLabels 105 = .ok (.iaload, 1) := by decide +kernel
theorem d_Wr_numberLabels_106 : decode b_Wr_numberLabels 106 = .ok (.iconst 0, 1) := by decide +kernel
theorem d_Wr_numberLabels_107 : decode b_Wr_numberLabels 107 = .ok (.iastore, 1) := by decide +kernel
theorem d_Wr_numberLabels_108 : decode b_Wr_numberLabels 108 = .ok (.iinc 4 1, 3) := by decide +kernel
theorem d_Wr_numberLabels_111 : decode b_Wr_numberLabels 111 = .ok (.goto (-46), 3) := by decide +kernel
theorem d_Wr_numberLabels_114 : decode b_Wr_numberLabels 114 = .ok (.iinc 2 1, 3) := by decide +kernel
theorem d_Wr_numberLabels_117 : decode b_Wr_numberLabels 117 = .ok (.goto (-90), 3) := by decide +kernel
theorem d_Wr_numberLabels_120 : decode b_Wr_numberLabels 120 = .ok (.iconst 0, 1) := by decide +kernel
theorem d_Wr_numberLabels_121 : decode b_Wr_numberLabels 121 = .ok (.istore_n 2, 1) := by decide +kernel
theorem d_Wr_numberLabels_122 : decode b_Wr_numberLabels 122 = .ok (.iload_n 2, 1) := by decide +kernel
theorem d_Wr_numberLabels_123 : decode b_Wr_numberLabels 123 = .ok (.aload_n 0, 1) := by decide +kernel
theorem d_Wr_numberLabels_124 : decode b_Wr_numberLabels 124 = .ok (.getfield 39, 3) := by decide +kernel
theorem d_Wr_numberLabels_127 : decode b_Wr_numberLabels 127 = .ok (.aload_n 0, 1) := by decide +kernel
theorem d_Wr_numberLabels_128 : decode b_Wr_numberLabels 128 = .ok (.getfield 20, 3) := by decide +kernel
theorem d_Wr_numberLabels_131 : decode b_Wr_numberLabels 131 = .ok (.aload_n 0, 1) := by decide +kernel
theorem d_Wr_numberLabels_132 : decode b_Wr_numberLabels 132 = .ok (.getfield 24, 3) := by decide +kernel
theorem d_Wr_numberLabels_135 : decode b_Wr_numberLabels 135 = .ok (.bipush 7, 2) := by decide +kernel
theorem d_Wr_numberLabels_137 : decode b_Wr_numberLabels 137 = .ok (.invokevirtual 109, 3) := by decide +kernel
theorem d_Wr_numberLabels_140 : decode b_Wr_numberLabels 140 = .ok (.if_icmp .ge 45, 3) := by decide +kernel
theorem d_Wr_numberLabels_143 : decode b_Wr_numberLabels 143 = .ok (.aload_n 0, 1) := by decide +kernel
theorem d_Wr_numberLabels_144 : decode b_Wr_numberLabels 144 = .ok (.getfield 31, 3) := by decide +kernel
theorem d_Wr_numberLabels_147 : decode b_Wr_numberLabels 147 = .ok (.aload_n 0, 1) := by decide +kernel
theorem d_Wr_numberLabels_148 : decode b_Wr_numberLabels 148 = .ok (.iload_n 2, 1) := by decide +kernel
theorem d_Wr_numberLabels_149 : decode b_Wr_numberLabels 149 = .ok (.iconst 0, 1) := by decide +kernel
theorem d_Wr_numberLabels_150 : decode b_Wr_numberLabels 150 = .ok (.invokevirtual 169, 3) := by decide +kernel
theorem d_Wr_numberLabels_153 : decode b_Wr_numberLabels 153 = .ok (.iconst 0, 1) := by decide +kernel
theorem d_Wr_numberLabels_154 : decode b_Wr_numberLabels 154 = .ok (.iastore, 1) := by decide +kernel
theorem d_Wr_numberLabels_155 : decode b_Wr_numberLabels 155 = .ok (.aload_n 0, 1) := by decide +kernel
theorem d_Wr_numberLabels_156 : decode b_Wr_numberLabels 156 = .ok (.getfield 31, 3) := by decide +kernel
theorem d_Wr_numberLabels_159 : decode b_Wr_numberLabels 159 = .ok (.aload_n 0, 1) := by decide +kernel
theorem d_Wr_numberLabels_160 : decode b_Wr_numberLabels 160 = .ok (.iload_n 2, 1) := by decide +kernel
theorem d_Wr_numberLabels_161 : decode b_Wr_numberLabels 161 = .ok (.iconst 1, 1) := by decide +kernel
theorem d_Wr_numberLabels_162 : decode b_Wr_numberLabels 162 = .ok (.invokevirtual 169, 3) := by decide +kernel
theorem d_Wr_numberLabels_165 : decode b_Wr_numberLabels 165 = .ok (.iconst 0, 1) := by decide +kernel
theorem d_Wr_numberLabels_166 : decode b_Wr_numberLabels 166 = .ok (.iastore, 1) := by decide +kernel
theorem d_Wr_numberLabels_167 : decode b_Wr_numberLabels 167 = .ok (.aload_n 0, 1) := by decide +kernel
theorem d_Wr_numberLabels_168 : decode b_Wr_numberLabels 168 = .ok (.getfield 31, 3) := by decide +kernel
theorem d_Wr_numberLabels_171 : decode b_Wr_numberLabels 171 = .ok (.aload_n 0, 1) := by decide +kernel
theorem d_Wr_numberLabels_172 : decode b_Wr_numberLabels 172 = .ok (.iload_n 2, 1) := by decide +kernel
theorem d_Wr_numberLabels_173 : decode b_Wr_numberLabels 173 = .ok (.iconst 2, 1) := by decide +kernel
theorem d_Wr_numberLabels_174 : decode b_Wr_numberLabels 174 = .ok (.invokevirtual 169, 3) := by decide +kernel
theorem d_Wr_numberLabels_177 : decode b_Wr_numberLabels 177 = .ok (.iconst 0, 1) := by decide +kernel
theorem d_Wr_numberLabels_178 : decode b_Wr_numberLabels 178 = .ok (.iastore, 1) := by decide +kernel
theorem d_Wr_numberLabels_179 : decode b_Wr_numberLabels 179 = .ok (.iinc 2 1, 3) := by decide +kernel
theorem d_Wr_numberLabels_182 : decode b_Wr_numberLabels 182 = .ok (.goto (-60), 3) := by decide +kernel
theorem d_Wr_numberLabels_185 : decode b_Wr_numberLabels 185 = .ok (.iconst 0, 1) := by decide +kernel
theorem d_Wr_numberLabels_186 : decode b_Wr_numberLabels 186 = .ok (.istore_n 2, 1) := by decide +kernel
theorem d_Wr_numberLabels_187 : decode b_Wr_numberLabels 187 = .ok (.iconst 0, 1) := by decide +kernel
theorem d_Wr_numberLabels_188 : decode b_Wr_numberLabels 188 = .ok (.istore_n 3, 1) := by decide +kernel
theorem d_Wr_numberLabels_189 : decode b_Wr_numberLabels 189 = .ok (.iload_n 3, 1) := by decide +kernel
theorem d_Wr_numberLabels_190 : decode b_Wr_numberLabels 190 = .ok (.iload_n 1, 1) := by decide +kernel
theorem d_Wr_numberLabels_191 : decode b_Wr_numberLabels 191 = .ok (.if_icmp .gt 28, 3) := by decide +kernel
theorem d_Wr_numberLabels_194 : decode b_Wr_numberLabels 194 = .ok (.aload_n 0, 1) := by decide +kernel
theorem d_Wr_numberLabels_195 : decode b_Wr_numberLabels 195 = .ok (.getfield 31, 3) := by decide +kernel
theorem d_Wr_numberLabels_198 : decode b_Wr_numberLabels 198 = .ok (.iload_n 3, 1) := by decide +kernel
theorem d_Wr_numberLabels_199 : decode b_Wr_numberLabels 199 = .ok (.iaload, 1) := by decide +kernel
theorem d_Wr_numberLabels_200 : decode b_Wr_numberLabels 200 = .ok (.ifCond .ne 13, 3) := by decide +kernel
theorem d_Wr_numberLabels_203 : decode b_Wr_numberLabels 203 = .ok (.aload_n 0, 1) := by decide +kernel
theorem d_Wr_numberLabels_204 : decode b_Wr_numberLabels 204 = .ok (.getfield 31, 3) := by decide +kernel
theorem d_Wr_numberLabels_207 : decode b_Wr_numberLabels 207 = .ok (.iload_n 3, 1) := by decide +kernel
theorem d_Wr_numberLabels_208 : decode b_Wr_numberLabels 208 = .ok (.iload_n 2, 1) := by decide +kernel
theorem d_Wr_numberLabels_209 : decode b_Wr_numberLabels 209 = .ok (.iastore, 1) := by decide +kernel
theorem d_Wr_numberLabels_210 : decode b_Wr_numberLabels 210 = .ok (.iinc 2 1, 3) := by decide +kernel
theorem d_Wr_numberLabels_213 : decode b_Wr_numberLabels 213 = .ok (.iinc 3 1, 3) := by decide +kernel
theorem d_Wr_numberLabels_216 : decode b_Wr_numberLabels 216 = .ok (.goto (-27), 3) := by decide +kernel
theorem d_Wr_numberLabels_219 : decode b_Wr_numberLabels 219 = .ok (.return_, 1) := by decide +kernel
abbrev ru_Wr_numberLabels : Room := { frames := 4, cells := 0, slots := 0, locals := 85 }
def wj_Wr_numberLabels_213 (y : Ly) (Post : St → Prop) (K_189 : St → Int32 → Int32 → Int32 → Prop) (a0 : Nat) (s_j213 : St) (x1j213 : Int32) (x2j213 : Int32) (x3j213 : Int32) : Prop := K_189 s_j213 x1j213 x2j213 (x3j213 + 1)
def wb_Wr_numberLabels_189 (y : Ly) (Post : St → Prop) (K_189 : St → Int32 → Int32 → Int32 → Prop) (a0 : Nat) (s_h189 : St) (x1h189 : Int32) (x2h189 : Int32) (x3h189 : Int32) : Prop := ((x1h189 < x3h189 → Post s_h189) ∧ (¬ (x1h189 < x3h189) → xA y s_h189 a0 6 x3h189 (fun x_13 : Int32 => ((¬ x_13 = 0 → wj_Wr_numberLabels_213 y Post K_189 a0 s_h189 x1h189 x2h189 x3h189) ∧ (x_13 = 0 → xS y s_h189 a0 6 x3h189 x2h189 (fun s_14 : St => wj_Wr_numberLabels_213 y Post K_189 a0 s_14 x1h189 (x2h189 + 1) x3h189))))))
def wl_Wr_numberLabels_189 (y : Ly) (Post : St → Prop) (a0 : Nat) (s_h189 : St) (x1h189 : Int32) (x2h189 : Int32) (x3h189 : Int32) : Prop := ∃ (I : St → Int32 → Int32 → Int32 → Prop) (μ : St → Int32 → Int32 → Int32 → Nat), I s_h189 x1h189 x2h189 x3h189 ∧ ∀ (u : St) (t0 : Int32) (t1 : Int32) (t2 : Int32), I u t0 t1 t2 → wb_Wr_numberLabels_189 y Post (fun z t0q t1q t2q => I z t0q t1q t2q ∧ μ z t0q t1q t2q < μ u t0 t1 t2) a0 u t0 t1 t2
def wb_Wr_numberLabels_122 (y : Ly) (Post : St → Prop) (K_122 : St → Int32 → Int32 → Prop) (a0 : Nat) (s_h122 : St) (x1h122 : Int32) (x2h122 : Int32) : Prop := ∃ b_8 : Nat, sO s_h122 a0 2 = some b_8 ∧ cl b_8 = 9 ∧ wu_Wd_method y (fun (s_12 : St) (r_11 : Int32) => ((r_11 ≤ x2h122 → wl_Wr_numberLabels_189 y Post a0 s_12 x1h122 0 0) ∧ (¬ (r_11 ≤ x2h122) → wu_Wr_handler y (fun (s_16 : St) (r_15 : Int32) => xS y s_16 a0 6 r_15 0 (fun s_17 : St => wu_Wr_handler y (fun (s_19 : St) (r_18 : Int32) => xS y s_19 a0 6 r_18 0 (fun s_20 : St => wu_Wr_handler y (fun (s_22 : St) (r_21 : Int32) => xS y s_22 a0 6 r_21 0 (fun s_23 : St => K_122 s_23 x1h122 (x2h122 + 1))) s_20 a0 x2h122 2)) s_17 a0 x2h122 1)) s_12 a0 x2h122 0))) s_h122 b_8 (sV s_h122 a0 3) (sV s_h122 a0 4) 7
def wl_Wr_numberLabels_122 (y : Ly) (Post : St → Prop) (a0 : Nat) (s_h122 : St) (x1h122 : Int32) (x2h122 : Int32) : Prop := ∃ (I : St → Int32 → Int32 → Prop) (μ : St → Int32 → Int32 → Nat), I s_h122 x1h122 x2h122 ∧ ∀ (u : St) (t0 : Int32) (t1 : Int32), I u t0 t1 → wb_Wr_numberLabels_122 y Post (fun z t0q t1q => I z t0q t1q ∧ μ z t0q t1q < μ u t0 t1) a0 u t0 t1
def wj_Wr_numberLabels_114 (y : Ly) (Post : St → Prop) (K_27 : St → Int32 → Int32 → Prop) (a0 : Nat) (s_j114 : St) (x1j114 : Int32) (x2j114 : Int32) : Prop := K_27 s_j114 x1j114 (x2j114 + 1)
def wb_Wr_numberLabels_65 (y : Ly) (Post : St → Prop) (K_27 : St → Int32 → Int32 → Prop) (K_65 : St → Int32 → Int32 → Int32 → Int32 → Prop) (a0 : Nat) (s_h65 : St) (x1h65 : Int32) (x2h65 : Int32) (x3h65 : Int32) (x4h65 : Int32) : Prop := ((¬ x3h65 = 80 → wj_Wr_numberLabels_114 y Post K_27 a0 s_h65 x1h65 x2h65) ∧ (x3h65 = 80 → wu_Wr_code y (fun (s_28 : St) (r_27 : Int32) => ((r_27 ≤ x4h65 → wj_Wr_numberLabels_114 y Post K_27 a0 s_28 x1h65 x2h65) ∧ (¬ (r_27 ≤ x4h65) → ∃ b_29 : Nat, sO s_28 a0 2 = some b_29 ∧ cl b_29 = 9 ∧ wu_Wr_code y (fun (s_33 : St) (r_32 : Int32) => xA y s_33 (lk b_29 12) 0 (r_32 + x4h65) (fun x_34 : Int32 => xS y s_33 a0 6 x_34 0 (fun s_35 : St => K_65 s_35 x1h65 x2h65 x3h65 (x4h65 + 1)))) s_28 a0 x2h65 2))) s_h65 a0 x2h65 3))
def wl_Wr_numberLabels_65 (y : Ly) (Post : St → Prop) (K_27 : St → Int32 → Int32 → Prop) (a0 : Nat) (s_h65 : St) (x1h65 : Int32) (x2h65 : Int32) (x3h65 : Int32) (x4h65 : Int32) : Prop := ∃ (I : St → Int32 → Int32 → Int32 → Int32 → Prop) (μ : St → Int32 → Int32 → Int32 → Int32 → Nat), I s_h65 x1h65 x2h65 x3h65 x4h65 ∧ ∀ (u : St) (t0 : Int32) (t1 : Int32) (t2 : Int32) (t3 : Int32), I u t0 t1 t2 t3 → wb_Wr_numberLabels_65 y Post K_27 (fun z t0q t1q t2q t3q => I z t0q t1q t2q t3q ∧ μ z t0q t1q t2q t3q < μ u t0 t1 t2 t3) a0 u t0 t1 t2 t3
def wj_Wr_numberLabels_62 (y : Ly) (Post : St → Prop) (K_27 : St → Int32 → Int32 → Prop) (a0 : Nat) (s_j62 : St) (x1j62 : Int32) (x2j62 : Int32) (x3j62 : Int32) : Prop := wl_Wr_numberLabels_65 y Post K_27 a0 s_j62 x1j62 x2j62 x3j62 0
def wb_Wr_numberLabels_27 (y : Ly) (Post : St → Prop) (K_27 : St → Int32 → Int32 → Prop) (a0 : Nat) (s_h27 : St) (x1h27 : Int32) (x2h27 : Int32) : Prop := ((x1h27 ≤ x2h27 → wl_Wr_numberLabels_122 y Post a0 s_h27 x1h27 0) ∧ (¬ (x1h27 ≤ x2h27) → wu_Wr_code y (fun (s_25 : St) (r_24 : Int32) => xH 12 r_24 (fun x_26 : Int32 => ((¬ x_26 = 76 → wj_Wr_numberLabels_62 y Post K_27 a0 s_25 x1h27 x2h27 x_26) ∧ (x_26 = 76 → wu_Wr_code y (fun (s_37 : St) (r_36 : Int32) => xS y s_37 a0 6 r_36 0 (fun s_38 : St => wj_Wr_numberLabels_62 y Post K_27 a0 s_38 x1h27 x2h27 x_26)) s_25 a0 x2h27 1)))) s_h27 a0 x2h27 0))
def wl_Wr_numberLabels_27 (y : Ly) (Post : St → Prop) (a0 : Nat) (s_h27 : St) (x1h27 : Int32) (x2h27 : Int32) : Prop := ∃ (I : St → Int32 → Int32 → Prop) (μ : St → Int32 → Int32 → Nat), I s_h27 x1h27 x2h27 ∧ ∀ (u : St) (t0 : Int32) (t1 : Int32), I u t0 t1 → wb_Wr_numberLabels_27 y Post (fun z t0q t1q => I z t0q t1q ∧ μ z t0q t1q < μ u t0 t1) a0 u t0 t1
def wu_Wr_numberLabels (y : Ly) (Post : St → Prop) (σ : St) (a0 : Nat) : Prop := ∃ b_1 : Nat, sO σ a0 2 = some b_1 ∧ cl b_1 = 9 ∧ wu_Wd_method y (fun (s_5 : St) (r_4 : Int32) => wu_Ja_fill_aIIV y (fun (s_7 : St) => wl_Wr_numberLabels_27 y Post a0 s_7 r_4 0) s_5 a0 6 (-1)) σ b_1 (sV σ a0 3) (sV σ a0 4) 5
set_option maxHeartbeats 4000000 in
set_option maxRecDepth 100000 in
theorem cu_Wr_numberLabels (l : Launch) (D : va_G) (g : Nat → ClassId) (F : Nat → SL) (sl : List SL) (hF : SOK F sl) (ad : Nat → Nat) (y : Ly) (Post : St → Prop) (σ : St) (a0 : Nat) (sz : Nat) (h_a0 : cl a0 = 10) (h : wu_Wr_numberLabels y Post σ a0) : Met l y_Wr_numberLabels (mw y_Wr_numberLabels b_Wr_numberLabels 5 (none)) ru_Wr_numberLabels (PC g D sl [.ref (ad a0)] sz (ws g ad y σ)) (va_Qv (fun u : St => Post u) (QW D (va_A (ws g ad y σ) sz) (fun u => ws g ad y u)) (va_A (ws g ad y σ) sz)) 0 0 (va_A (ws g ad y σ) sz) := by
  refine ofV (by decide +kernel) (Nat.le_of_ble_eq_true rfl) ?_
  intro p e s m args below meth c A Q ls H locs G hsz hP hD hS hl hret
  subst hsz
  have hl : lv_has ls 5 [(0, .ref (ad a0))] := hl
  unfold wu_Wr_numberLabels at h
  refine lv_aload_n G.1 G.2.1 d_Wr_numberLabels_0 rfl (lv_at hl 0 rfl) ?_
  obtain ⟨b_1, e_2, c_3, h⟩ := h
  refine ugf (v := .ref (ad b_1)) G hP h_a0 iWr rfl 2 (by decide) rfl q774 rfl (by show va_rf ((sO σ a0 2).map ad) = _; rw [e_2]; rfl) d_Wr_numberLabels_1 ?_
  refine lv_aload_n G.1 G.2.1 d_Wr_numberLabels_4 rfl (lv_at hl 0 rfl) ?_
  refine ugf (v := .int (sV σ a0 3)) G hP h_a0 iWr rfl 3 (by decide) rfl q775 rfl rfl d_Wr_numberLabels_5 ?_
  refine lv_aload_n G.1 G.2.1 d_Wr_numberLabels_8 rfl (lv_at hl 0 rfl) ?_
  refine ugf (v := .int (sV σ a0 4)) G hP h_a0 iWr rfl 4 (by decide) rfl q776 rfl rfl d_Wr_numberLabels_9 ?_
  refine lv_iconst (v := 5) G.1 G.2.1 d_Wr_numberLabels_12 (by decide) ?_
  refine ucVi (As := [.int (sV σ a0 3), .int (sV σ a0 4), .int 5]) (rest := []) G hP hD hS (cu_Wd_method l D g ad y _ σ b_1 (sV σ a0 3) (sV σ a0 4) 5 H.size c_3 h) w9_Wd_method q2202 ⟨Nat.le_of_ble_eq_true rfl, Nat.le_of_ble_eq_true rfl⟩ rfl rfl c_3 (q := (RWd, TWd, 17)) rfl rfl hl.1 rfl (Nat.le_of_ble_eq_true rfl) rfl ⟨Nat.le_refl _, Nat.le_refl _⟩ d_Wr_numberLabels_13 (fun r_4 s_5 H locs h hP hD hS => ?_)
  refine lv_istore_n (lv' := [(1, .int r_4), (0, .ref (ad a0))]) G.1 G.2.1 d_Wr_numberLabels_16 rfl hl (by decide) rfl (fun ls hl => ?_)
  refine lv_aload_n G.1 G.2.1 d_Wr_numberLabels_17 rfl (lv_at hl 1 rfl) ?_
  refine ugf (v := .ref (yP y a0 6)) G hP h_a0 iWr rfl 6 (by decide) rfl q778 rfl rfl d_Wr_numberLabels_18 ?_
  refine W.eq (g2 := F0 m 21 ls [.ref (yP y a0 6)]) rfl ?_
  refine lv_iconst (v := (-1)) G.1 G.2.1 d_Wr_numberLabels_21 (by decide) ?_
  refine ucSv (As := [.ref (yP y a0 6), .int (-1)]) (rest := []) G hP hD hS (cu_Ja_fill_aIIV l D g ad y _ s_5 a0 6 (-1) H.size ⟨(kdp h_a0 rfl), (typ h_a0 rfl)⟩ h) w9_Ja_fill_aIIV q2215 ⟨Nat.le_of_ble_eq_true rfl, Nat.le_of_ble_eq_true rfl⟩ rfl rfl hl.1 rfl (Nat.le_of_ble_eq_true rfl) rfl ⟨Nat.le_refl _, Nat.le_refl _⟩ d_Wr_numberLabels_22 (fun s_7 H locs h hP hD hS => ?_)
  refine lv_iconst (v := 0) G.1 G.2.1 d_Wr_numberLabels_25 (by decide) ?_
  refine lv_istore_n (lv' := [(2, .int 0), (1, .int r_4), (0, .ref (ad a0))]) G.1 G.2.1 d_Wr_numberLabels_26 rfl hl (by decide) rfl (fun ls hl => ?_)
  unfold wl_Wr_numberLabels_27 at h
  obtain ⟨I_27, μ_27, hI_27, hB_27⟩ := h
  have L_27 : ∀ (n_27 : Nat) (s_h27 : St) (x1h27 : Int32) (x2h27 : Int32), μ_27 s_h27 x1h27 x2h27 < n_27 → I_27 s_h27 x1h27 x2h27 → ∀ (H : Heap) (locs : List Loc), va_P D CL (ws g ad y s_h27) H → va_D A (ws g ad y s_h27) → va_S A s.heap H locs → ∀ ls, lv_has ls 5 [(0, .ref (ad a0)), (1, .int x1h27), (2, .int x2h27)] → W p l e ru_Wr_numberLabels s m args below meth c H locs 0 0 Q (F0 m 27 ls []) := by
    intro n_27
    induction n_27 with
    | zero => intro s_h27 x1h27 x2h27 hμ; exact absurd hμ (Nat.not_lt_zero _)
    | succ n_27 ih_27 =>
      intro s_h27 x1h27 x2h27 hμ_27 hJ H locs hP hD hS ls hl
      obtain ⟨K_27, hK_27, h⟩ : ∃ K : St → Int32 → Int32 → Prop, (∀ z (t0 : Int32) (t1 : Int32), K z t0 t1 → I_27 z t0 t1 ∧ μ_27 z t0 t1 < μ_27 s_h27 x1h27 x2h27) ∧ wb_Wr_numberLabels_27 y Post K a0 s_h27 x1h27 x2h27 := ⟨_, fun _ _ _ h => h, hB_27 s_h27 x1h27 x2h27 hJ⟩
      unfold wb_Wr_numberLabels_27 at h
      refine lv_iload_n G.1 G.2.1 d_Wr_numberLabels_27 rfl (lv_at hl 2 rfl) ?_
      refine lv_iload_n G.1 G.2.1 d_Wr_numberLabels_28 rfl (lv_at hl 1 rfl) ?_
      refine lv_icmp_ge (tgt := 120) G.1 G.2.1 d_Wr_numberLabels_29 (by decide) (fun c29 => ?_) (fun c29 => ?_)
      · skip
        have h := h.1 c29
        refine lv_iconst (v := 0) G.1 G.2.1 d_Wr_numberLabels_120 (by decide) ?_
        refine lv_istore_n (lv' := [(2, .int 0), (0, .ref (ad a0)), (1, .int x1h27)]) G.1 G.2.1 d_Wr_numberLabels_121 rfl hl (by decide) rfl (fun ls hl => ?_)
        unfold wl_Wr_numberLabels_122 at h
        obtain ⟨I_122, μ_122, hI_122, hB_122⟩ := h
        have L_122 : ∀ (n_122 : Nat) (s_h122 : St) (x1h122 : Int32) (x2h122 : Int32), μ_122 s_h122 x1h122 x2h122 < n_122 → I_122 s_h122 x1h122 x2h122 → ∀ (H : Heap) (locs : List Loc), va_P D CL (ws g ad y s_h122) H → va_D A (ws g ad y s_h122) → va_S A s.heap H locs → ∀ ls, lv_has ls 5 [(0, .ref (ad a0)), (1, .int x1h122), (2, .int x2h122)] → W p l e ru_Wr_numberLabels s m args below meth c H locs 0 0 Q (F0 m 122 ls []) := by
          intro n_122
          induction n_122 with
          | zero => intro s_h122 x1h122 x2h122 hμ; exact absurd hμ (Nat.not_lt_zero _)
          | succ n_122 ih_122 =>
            intro s_h122 x1h122 x2h122 hμ_122 hJ H locs hP hD hS ls hl
            obtain ⟨K_122, hK_122, h⟩ : ∃ K : St → Int32 → Int32 → Prop, (∀ z (t0 : Int32) (t1 : Int32), K z t0 t1 → I_122 z t0 t1 ∧ μ_122 z t0 t1 < μ_122 s_h122 x1h122 x2h122) ∧ wb_Wr_numberLabels_122 y Post K a0 s_h122 x1h122 x2h122 := ⟨_, fun _ _ _ h => h, hB_122 s_h122 x1h122 x2h122 hJ⟩
            unfold wb_Wr_numberLabels_122 at h
            refine lv_iload_n G.1 G.2.1 d_Wr_numberLabels_122 rfl (lv_at hl 2 rfl) ?_
            refine lv_aload_n G.1 G.2.1 d_Wr_numberLabels_123 rfl (lv_at hl 0 rfl) ?_
            obtain ⟨b_8, e_9, c_10, h⟩ := h
            refine ugf (v := .ref (ad b_8)) G hP h_a0 iWr rfl 2 (by decide) rfl q774 rfl (by show va_rf ((sO s_h122 a0 2).map ad) = _; rw [e_9]; rfl) d_Wr_numberLabels_124 ?_
            refine lv_aload_n G.1 G.2.1 d_Wr_numberLabels_127 rfl (lv_at hl 0 rfl) ?_
            refine ugf (v := .int (sV s_h122 a0 3)) G hP h_a0 iWr rfl 3 (by decide) rfl q775 rfl rfl d_Wr_numberLabels_128 ?_
            refine lv_aload_n G.1 G.2.1 d_Wr_numberLabels_131 rfl (lv_at hl 0 rfl) ?_
            refine ugf (v := .int (sV s_h122 a0 4)) G hP h_a0 iWr rfl 4 (by decide) rfl q776 rfl rfl d_Wr_numberLabels_132 ?_
            refine lv_bipush (v := 7) G.1 G.2.1 d_Wr_numberLabels_135 (by decide) ?_
            refine ucVi (As := [.int (sV s_h122 a0 3), .int (sV s_h122 a0 4), .int 7]) (rest := [.int x2h122]) G hP hD hS (cu_Wd_method l D g ad y _ s_h122 b_8 (sV s_h122 a0 3) (sV s_h122 a0 4) 7 H.size c_10 h) w9_Wd_method q2202 ⟨Nat.le_of_ble_eq_true rfl, Nat.le_of_ble_eq_true rfl⟩ rfl rfl c_10 (q := (RWd, TWd, 17)) rfl rfl hl.1 rfl (Nat.le_of_ble_eq_true rfl) rfl ⟨Nat.le_refl _, Nat.le_refl _⟩ d_Wr_numberLabels_137 (fun r_11 s_12 H locs h hP hD hS => ?_)
            refine lv_icmp_ge (tgt := 185) G.1 G.2.1 d_Wr_numberLabels_140 (by decide) (fun c140 => ?_) (fun c140 => ?_)
            · skip
              have h := h.1 c140
              refine lv_iconst (v := 0) G.1 G.2.1 d_Wr_numberLabels_185 (by decide) ?_
              refine W.eq (g2 := F0 m 186 ls [.int 0]) rfl ?_
              refine lv_istore_n (lv' := [(2, .int 0), (0, .ref (ad a0)), (1, .int x1h122)]) G.1 G.2.1 d_Wr_numberLabels_186 rfl hl (by decide) rfl (fun ls hl => ?_)
              refine lv_iconst (v := 0) G.1 G.2.1 d_Wr_numberLabels_187 (by decide) ?_
              refine lv_istore_n (lv' := [(3, .int 0), (2, .int 0), (0, .ref (ad a0)), (1, .int x1h122)]) G.1 G.2.1 d_Wr_numberLabels_188 rfl hl (by decide) rfl (fun ls hl => ?_)
              unfold wl_Wr_numberLabels_189 at h
              obtain ⟨I_189, μ_189, hI_189, hB_189⟩ := h
              have L_189 : ∀ (n_189 : Nat) (s_h189 : St) (x1h189 : Int32) (x2h189 : Int32) (x3h189 : Int32), μ_189 s_h189 x1h189 x2h189 x3h189 < n_189 → I_189 s_h189 x1h189 x2h189 x3h189 → ∀ (H : Heap) (locs : List Loc), va_P D CL (ws g ad y s_h189) H → va_D A (ws g ad y s_h189) → va_S A s.heap H locs → ∀ ls, lv_has ls 5 [(0, .ref (ad a0)), (1, .int x1h189), (2, .int x2h189), (3, .int x3h189)] → W p l e ru_Wr_numberLabels s m args below meth c H locs 0 0 Q (F0 m 189 ls []) := by
                intro n_189
                induction n_189 with
                | zero => intro s_h189 x1h189 x2h189 x3h189 hμ; exact absurd hμ (Nat.not_lt_zero _)
                | succ n_189 ih_189 =>
                  intro s_h189 x1h189 x2h189 x3h189 hμ_189 hJ H locs hP hD hS ls hl
                  obtain ⟨K_189, hK_189, h⟩ : ∃ K : St → Int32 → Int32 → Int32 → Prop, (∀ z (t0 : Int32) (t1 : Int32) (t2 : Int32), K z t0 t1 t2 → I_189 z t0 t1 t2 ∧ μ_189 z t0 t1 t2 < μ_189 s_h189 x1h189 x2h189 x3h189) ∧ wb_Wr_numberLabels_189 y Post K a0 s_h189 x1h189 x2h189 x3h189 := ⟨_, fun _ _ _ _ h => h, hB_189 s_h189 x1h189 x2h189 x3h189 hJ⟩
                  unfold wb_Wr_numberLabels_189 at h
                  refine lv_iload_n G.1 G.2.1 d_Wr_numberLabels_189 rfl (lv_at hl 3 rfl) ?_
                  refine lv_iload_n G.1 G.2.1 d_Wr_numberLabels_190 rfl (lv_at hl 1 rfl) ?_
                  refine lv_icmp_gt (tgt := 219) G.1 G.2.1 d_Wr_numberLabels_191 (by decide) (fun c191 => ?_) (fun c191 => ?_)
                  · skip
                    have h := h.1 c191
                    exact hret _ _ _ _ _ _ ls h hP hD hS (Nat.le_refl _) (Nat.le_refl _) d_Wr_numberLabels_219
                  · skip
                    have h := h.2 c191
                    refine lv_aload_n G.1 G.2.1 d_Wr_numberLabels_194 rfl (lv_at hl 0 rfl) ?_
                    refine ugf (v := .ref (yP y a0 6)) G hP h_a0 iWr rfl 6 (by decide) rfl q778 rfl rfl d_Wr_numberLabels_195 ?_
                    refine lv_iload_n G.1 G.2.1 d_Wr_numberLabels_198 rfl (lv_at hl 3 rfl) ?_
                    refine uiald G hP (kdp h_a0 rfl) (typ h_a0 rfl) h d_Wr_numberLabels_199 (fun x_13 h => ?_)
                    have J_213 : ∀ (s_j213 : St) (x1j213 : Int32) (x2j213 : Int32) (x3j213 : Int32) (H : Heap) (locs : List Loc), wj_Wr_numberLabels_213 y Post K_189 a0 s_j213 x1j213 x2j213 x3j213 → va_P D CL (ws g ad y s_j213) H → va_D A (ws g ad y s_j213) → va_S A s.heap H locs → ∀ ls, lv_has ls 5 [(0, .ref (ad a0)), (1, .int x1j213), (2, .int x2j213), (3, .int x3j213)] → W p l e ru_Wr_numberLabels s m args below meth c H locs 0 0 Q (F0 m 213 ls []) := by
                      intro s_j213 x1j213 x2j213 x3j213 H locs h hP hD hS ls hl
                      unfold wj_Wr_numberLabels_213 at h
                      refine lv_iinc (v := x3j213 + 1) (lv' := [(3, .int (x3j213 + 1)), (0, .ref (ad a0)), (1, .int x1j213), (2, .int x2j213)]) G.1 G.2.1 d_Wr_numberLabels_213 hl (k := 3) rfl rfl (by decide) rfl (fun ls hl => ?_)
                      refine lv_goto (tgt := 189) G.1 G.2.1 d_Wr_numberLabels_216 (by decide) ?_
                      have h := hK_189 s_j213 x1j213 x2j213 (x3j213 + 1) h
                      exact ih_189 s_j213 x1j213 x2j213 (x3j213 + 1) (Nat.lt_of_lt_of_le h.2 (Nat.le_of_lt_succ hμ_189)) h.1 H locs hP hD hS ls (lv_sub hl [1, 2, 3, 0] rfl)
                    refine lv_if_ne (tgt := 213) G.1 G.2.1 d_Wr_numberLabels_200 (by decide) (fun c200 => ?_) (fun c200 => ?_)
                    · skip
                      have h := h.1 c200
                      exact J_213 s_h189 x1h189 x2h189 x3h189 H locs h hP hD hS ls (lv_sub hl [0, 1, 2, 3] rfl)
                    · skip
                      have h := h.2 c200
                      refine lv_aload_n G.1 G.2.1 d_Wr_numberLabels_203 rfl (lv_at hl 0 rfl) ?_
                      refine ugf (v := .ref (yP y a0 6)) G hP h_a0 iWr rfl 6 (by decide) rfl q778 rfl rfl d_Wr_numberLabels_204 ?_
                      refine lv_iload_n G.1 G.2.1 d_Wr_numberLabels_207 rfl (lv_at hl 3 rfl) ?_
                      refine W.eq (g2 := F0 m 208 ls [.int x3h189, .ref (yP y a0 6)]) rfl ?_
                      refine lv_iload_n G.1 G.2.1 d_Wr_numberLabels_208 rfl (lv_at hl 2 rfl) ?_
                      refine uiast G hP hD hS (kdp h_a0 rfl) (typ h_a0 rfl) h d_Wr_numberLabels_209 (fun s_14 H locs h hP hD hS => ?_)
                      refine lv_iinc (v := x2h189 + 1) (lv' := [(2, .int (x2h189 + 1)), (0, .ref (ad a0)), (1, .int x1h189), (3, .int x3h189)]) G.1 G.2.1 d_Wr_numberLabels_210 hl (k := 2) rfl rfl (by decide) rfl (fun ls hl => ?_)
                      exact J_213 s_14 x1h189 (x2h189 + 1) x3h189 H locs h hP hD hS ls (lv_sub hl [1, 2, 0, 3] rfl)
              exact L_189 _ s_12 x1h122 0 0 (Nat.lt_succ_self _) hI_189 H locs hP hD hS ls (lv_sub hl [2, 3, 1, 0] rfl)
            · skip
              have h := h.2 c140
              refine lv_aload_n G.1 G.2.1 d_Wr_numberLabels_143 rfl (lv_at hl 0 rfl) ?_
              refine W.eq (g2 := F0 m 144 ls [.ref (ad a0)]) rfl ?_
              refine ugf (v := .ref (yP y a0 6)) G hP h_a0 iWr rfl 6 (by decide) rfl q778 rfl rfl d_Wr_numberLabels_144 ?_
              refine lv_aload_n G.1 G.2.1 d_Wr_numberLabels_147 rfl (lv_at hl 0 rfl) ?_
              refine lv_iload_n G.1 G.2.1 d_Wr_numberLabels_148 rfl (lv_at hl 2 rfl) ?_
              refine lv_iconst (v := 0) G.1 G.2.1 d_Wr_numberLabels_149 (by decide) ?_
              refine ucVi (As := [.int x2h122, .int 0]) (rest := [.ref (yP y a0 6)]) G hP hD hS (cu_Wr_handler l D g ad y _ s_12 a0 x2h122 0 H.size h_a0 h) w9_Wr_handler q2223 ⟨Nat.le_of_ble_eq_true rfl, Nat.le_of_ble_eq_true rfl⟩ rfl rfl h_a0 (q := (RWr, TWr, 7)) rfl rfl hl.1 rfl (Nat.le_of_ble_eq_true rfl) rfl ⟨Nat.le_refl _, Nat.le_refl _⟩ d_Wr_numberLabels_150 (fun r_15 s_16 H locs h hP hD hS => ?_)
              refine lv_iconst (v := 0) G.1 G.2.1 d_Wr_numberLabels_153 (by decide) ?_
              refine uiast G hP hD hS (kdp h_a0 rfl) (typ h_a0 rfl) h d_Wr_numberLabels_154 (fun s_17 H locs h hP hD hS => ?_)
              refine lv_aload_n G.1 G.2.1 d_Wr_numberLabels_155 rfl (lv_at hl 0 rfl) ?_
              refine ugf (v := .ref (yP y a0 6)) G hP h_a0 iWr rfl 6 (by decide) rfl q778 rfl rfl d_Wr_numberLabels_156 ?_
              refine lv_aload_n G.1 G.2.1 d_Wr_numberLabels_159 rfl (lv_at hl 0 rfl) ?_
              refine lv_iload_n G.1 G.2.1 d_Wr_numberLabels_160 rfl (lv_at hl 2 rfl) ?_
              refine lv_iconst (v := 1) G.1 G.2.1 d_Wr_numberLabels_161 (by decide) ?_
              refine W.eq (g2 := F0 m 162 ls [.int 1, .int x2h122, .ref (ad a0), .ref (yP y a0 6)]) rfl ?_
              refine ucVi (As := [.int x2h122, .int 1]) (rest := [.ref (yP y a0 6)]) G hP hD hS (cu_Wr_handler l D g ad y _ s_17 a0 x2h122 1 H.size h_a0 h) w9_Wr_handler q2223 ⟨Nat.le_of_ble_eq_true rfl, Nat.le_of_ble_eq_true rfl⟩ rfl rfl h_a0 (q := (RWr, TWr, 7)) rfl rfl hl.1 rfl (Nat.le_of_ble_eq_true rfl) rfl ⟨Nat.le_refl _, Nat.le_refl _⟩ d_Wr_numberLabels_162 (fun r_18 s_19 H locs h hP hD hS => ?_)
              refine lv_iconst (v := 0) G.1 G.2.1 d_Wr_numberLabels_165 (by decide) ?_
              refine uiast G hP hD hS (kdp h_a0 rfl) (typ h_a0 rfl) h d_Wr_numberLabels_166 (fun s_20 H locs h hP hD hS => ?_)
              refine lv_aload_n G.1 G.2.1 d_Wr_numberLabels_167 rfl (lv_at hl 0 rfl) ?_
              refine ugf (v := .ref (yP y a0 6)) G hP h_a0 iWr rfl 6 (by decide) rfl q778 rfl rfl d_Wr_numberLabels_168 ?_
              refine lv_aload_n G.1 G.2.1 d_Wr_numberLabels_171 rfl (lv_at hl 0 rfl) ?_
              refine lv_iload_n G.1 G.2.1 d_Wr_numberLabels_172 rfl (lv_at hl 2 rfl) ?_
              refine lv_iconst (v := 2) G.1 G.2.1 d_Wr_numberLabels_173 (by decide) ?_
              refine ucVi (As := [.int x2h122, .int 2]) (rest := [.ref (yP y a0 6)]) G hP hD hS (cu_Wr_handler l D g ad y _ s_20 a0 x2h122 2 H.size h_a0 h) w9_Wr_handler q2223 ⟨Nat.le_of_ble_eq_true rfl, Nat.le_of_ble_eq_true rfl⟩ rfl rfl h_a0 (q := (RWr, TWr, 7)) rfl rfl hl.1 rfl (Nat.le_of_ble_eq_true rfl) rfl ⟨Nat.le_refl _, Nat.le_refl _⟩ d_Wr_numberLabels_174 (fun r_21 s_22 H locs h hP hD hS => ?_)
              refine lv_iconst (v := 0) G.1 G.2.1 d_Wr_numberLabels_177 (by decide) ?_
              refine uiast G hP hD hS (kdp h_a0 rfl) (typ h_a0 rfl) h d_Wr_numberLabels_178 (fun s_23 H locs h hP hD hS => ?_)
              refine lv_iinc (v := x2h122 + 1) (lv' := [(2, .int (x2h122 + 1)), (0, .ref (ad a0)), (1, .int x1h122)]) G.1 G.2.1 d_Wr_numberLabels_179 hl (k := 2) rfl rfl (by decide) rfl (fun ls hl => ?_)
              refine W.eq (g2 := F0 m 182 ls []) rfl ?_
              refine lv_goto (tgt := 122) G.1 G.2.1 d_Wr_numberLabels_182 (by decide) ?_
              have h := hK_122 s_23 x1h122 (x2h122 + 1) h
              exact ih_122 s_23 x1h122 (x2h122 + 1) (Nat.lt_of_lt_of_le h.2 (Nat.le_of_lt_succ hμ_122)) h.1 H locs hP hD hS ls (lv_sub hl [1, 2, 0] rfl)
        exact L_122 _ s_h27 x1h27 0 (Nat.lt_succ_self _) hI_122 H locs hP hD hS ls (lv_sub hl [1, 2, 0] rfl)
      · skip
        have h := h.2 c29
        refine uldc (n := 12) hF rfl G d_Wr_numberLabels_32 ?_
        refine lv_aload_n G.1 G.2.1 d_Wr_numberLabels_34 rfl (lv_at hl 0 rfl) ?_
        refine lv_iload_n G.1 G.2.1 d_Wr_numberLabels_35 rfl (lv_at hl 2 rfl) ?_
        refine lv_iconst (v := 0) G.1 G.2.1 d_Wr_numberLabels_36 (by decide) ?_
        refine ucVi (As := [.int x2h27, .int 0]) (rest := [.ref (sk (F 12))]) G hP hD hS (cu_Wr_code l D g ad y _ s_h27 a0 x2h27 0 H.size h_a0 h) w9_Wr_code q2217 ⟨Nat.le_of_ble_eq_true rfl, Nat.le_of_ble_eq_true rfl⟩ rfl rfl h_a0 (q := (RWr, TWr, 7)) rfl rfl hl.1 rfl (Nat.le_of_ble_eq_true rfl) rfl ⟨Nat.le_refl _, Nat.le_refl _⟩ d_Wr_numberLabels_37 (fun r_24 s_25 H locs h hP hD hS => ?_)
        refine uchar hF (by decide +kernel) G hP hD hS h w9_Js_charAt q2222 ⟨Nat.le_of_ble_eq_true rfl, Nat.le_of_ble_eq_true rfl⟩ hl.1 (Nat.le_of_ble_eq_true rfl) ⟨Nat.le_refl _, Nat.le_refl _⟩ d_Wr_numberLabels_40 (fun x_26 H locs h hP hD hS => ?_)
        refine lv_istore_n (lv' := [(3, .int x_26), (0, .ref (ad a0)), (1, .int x1h27), (2, .int x2h27)]) G.1 G.2.1 d_Wr_numberLabels_43 rfl hl (by decide) rfl (fun ls hl => ?_)
        refine lv_iload_n G.1 G.2.1 d_Wr_numberLabels_44 rfl (lv_at hl 0 rfl) ?_
        refine W.eq (g2 := F0 m 45 ls [.int x_26]) rfl ?_
        refine lv_bipush (v := 76) G.1 G.2.1 d_Wr_numberLabels_45 (by decide) ?_
        have J_62 : ∀ (s_j62 : St) (x1j62 : Int32) (x2j62 : Int32) (x3j62 : Int32) (H : Heap) (locs : List Loc), wj_Wr_numberLabels_62 y Post K_27 a0 s_j62 x1j62 x2j62 x3j62 → va_P D CL (ws g ad y s_j62) H → va_D A (ws g ad y s_j62) → va_S A s.heap H locs → ∀ ls, lv_has ls 5 [(0, .ref (ad a0)), (1, .int x1j62), (2, .int x2j62), (3, .int x3j62)] → W p l e ru_Wr_numberLabels s m args below meth c H locs 0 0 Q (F0 m 62 ls []) := by
          intro s_j62 x1j62 x2j62 x3j62 H locs h hP hD hS ls hl
          unfold wj_Wr_numberLabels_62 at h
          refine lv_iconst (v := 0) G.1 G.2.1 d_Wr_numberLabels_62 (by decide) ?_
          refine lv_istore (lv' := [(4, .int 0), (0, .ref (ad a0)), (1, .int x1j62), (2, .int x2j62), (3, .int x3j62)]) G.1 G.2.1 d_Wr_numberLabels_63 hl (by decide) rfl (fun ls hl => ?_)
          unfold wl_Wr_numberLabels_65 at h
          obtain ⟨I_65, μ_65, hI_65, hB_65⟩ := h
          have L_65 : ∀ (n_65 : Nat) (s_h65 : St) (x1h65 : Int32) (x2h65 : Int32) (x3h65 : Int32) (x4h65 : Int32), μ_65 s_h65 x1h65 x2h65 x3h65 x4h65 < n_65 → I_65 s_h65 x1h65 x2h65 x3h65 x4h65 → ∀ (H : Heap) (locs : List Loc), va_P D CL (ws g ad y s_h65) H → va_D A (ws g ad y s_h65) → va_S A s.heap H locs → ∀ ls, lv_has ls 5 [(0, .ref (ad a0)), (1, .int x1h65), (2, .int x2h65), (3, .int x3h65), (4, .int x4h65)] → W p l e ru_Wr_numberLabels s m args below meth c H locs 0 0 Q (F0 m 65 ls []) := by
            intro n_65
            induction n_65 with
            | zero => intro s_h65 x1h65 x2h65 x3h65 x4h65 hμ; exact absurd hμ (Nat.not_lt_zero _)
            | succ n_65 ih_65 =>
              intro s_h65 x1h65 x2h65 x3h65 x4h65 hμ_65 hJ H locs hP hD hS ls hl
              obtain ⟨K_65, hK_65, h⟩ : ∃ K : St → Int32 → Int32 → Int32 → Int32 → Prop, (∀ z (t0 : Int32) (t1 : Int32) (t2 : Int32) (t3 : Int32), K z t0 t1 t2 t3 → I_65 z t0 t1 t2 t3 ∧ μ_65 z t0 t1 t2 t3 < μ_65 s_h65 x1h65 x2h65 x3h65 x4h65) ∧ wb_Wr_numberLabels_65 y Post K_27 K a0 s_h65 x1h65 x2h65 x3h65 x4h65 := ⟨_, fun _ _ _ _ _ h => h, hB_65 s_h65 x1h65 x2h65 x3h65 x4h65 hJ⟩
              unfold wb_Wr_numberLabels_65 at h
              refine lv_iload_n G.1 G.2.1 d_Wr_numberLabels_65 rfl (lv_at hl 3 rfl) ?_
              refine lv_bipush (v := 80) G.1 G.2.1 d_Wr_numberLabels_66 (by decide) ?_
              have J_114 : ∀ (s_j114 : St) (x1j114 : Int32) (x2j114 : Int32) (H : Heap) (locs : List Loc), wj_Wr_numberLabels_114 y Post K_27 a0 s_j114 x1j114 x2j114 → va_P D CL (ws g ad y s_j114) H → va_D A (ws g ad y s_j114) → va_S A s.heap H locs → ∀ ls, lv_has ls 5 [(0, .ref (ad a0)), (1, .int x1j114), (2, .int x2j114)] → W p l e ru_Wr_numberLabels s m args below meth c H locs 0 0 Q (F0 m 114 ls []) := by
                intro s_j114 x1j114 x2j114 H locs h hP hD hS ls hl
                unfold wj_Wr_numberLabels_114 at h
                refine lv_iinc (v := x2j114 + 1) (lv' := [(2, .int (x2j114 + 1)), (0, .ref (ad a0)), (1, .int x1j114)]) G.1 G.2.1 d_Wr_numberLabels_114 hl (k := 2) rfl rfl (by decide) rfl (fun ls hl => ?_)
                refine lv_goto (tgt := 27) G.1 G.2.1 d_Wr_numberLabels_117 (by decide) ?_
                have h := hK_27 s_j114 x1j114 (x2j114 + 1) h
                exact ih_27 s_j114 x1j114 (x2j114 + 1) (Nat.lt_of_lt_of_le h.2 (Nat.le_of_lt_succ hμ_27)) h.1 H locs hP hD hS ls (lv_sub hl [1, 2, 0] rfl)
              refine lv_icmp_ne (tgt := 114) G.1 G.2.1 d_Wr_numberLabels_68 (by decide) (fun c68 => ?_) (fun c68 => ?_)
              · skip
                have h := h.1 c68
                exact J_114 s_h65 x1h65 x2h65 H locs h hP hD hS ls (lv_sub hl [0, 1, 2] rfl)
              · skip
                have h := h.2 c68
                refine lv_iload G.1 G.2.1 d_Wr_numberLabels_71 (lv_at hl 4 rfl) ?_
                refine lv_aload_n G.1 G.2.1 d_Wr_numberLabels_73 rfl (lv_at hl 0 rfl) ?_
                refine lv_iload_n G.1 G.2.1 d_Wr_numberLabels_74 rfl (lv_at hl 2 rfl) ?_
                refine lv_iconst (v := 3) G.1 G.2.1 d_Wr_numberLabels_75 (by decide) ?_
                refine ucVi (As := [.int x2h65, .int 3]) (rest := [.int x4h65]) G hP hD hS (cu_Wr_code l D g ad y _ s_h65 a0 x2h65 3 H.size h_a0 h) w9_Wr_code q2217 ⟨Nat.le_of_ble_eq_true rfl, Nat.le_of_ble_eq_true rfl⟩ rfl rfl h_a0 (q := (RWr, TWr, 7)) rfl rfl hl.1 rfl (Nat.le_of_ble_eq_true rfl) rfl ⟨Nat.le_refl _, Nat.le_refl _⟩ d_Wr_numberLabels_76 (fun r_27 s_28 H locs h hP hD hS => ?_)
                refine lv_icmp_ge (tgt := 114) G.1 G.2.1 d_Wr_numberLabels_79 (by decide) (fun c79 => ?_) (fun c79 => ?_)
                · skip
                  have h := h.1 c79
                  exact J_114 s_28 x1h65 x2h65 H locs h hP hD hS ls (lv_sub hl [0, 1, 2] rfl)
                · skip
                  have h := h.2 c79
                  refine lv_aload_n G.1 G.2.1 d_Wr_numberLabels_82 rfl (lv_at hl 0 rfl) ?_
                  refine ugf (v := .ref (yP y a0 6)) G hP h_a0 iWr rfl 6 (by decide) rfl q778 rfl rfl d_Wr_numberLabels_83 ?_
                  refine W.eq (g2 := F0 m 86 ls [.ref (yP y a0 6)]) rfl ?_
                  refine lv_aload_n G.1 G.2.1 d_Wr_numberLabels_86 rfl (lv_at hl 0 rfl) ?_
                  obtain ⟨b_29, e_30, c_31, h⟩ := h
                  refine ugf (v := .ref (ad b_29)) G hP h_a0 iWr rfl 2 (by decide) rfl q774 rfl (by show va_rf ((sO s_28 a0 2).map ad) = _; rw [e_30]; rfl) d_Wr_numberLabels_87 ?_
                  refine ugf (v := .ref (ad (lk b_29 12))) G hP c_31 iWd rfl 12 (by decide) rfl q855 rfl rfl d_Wr_numberLabels_90 ?_
                  refine ugf (v := .ref (yP y (lk b_29 12) 0)) G hP (lk_9_12 c_31) iIn rfl 0 (by decide) rfl q386 rfl rfl d_Wr_numberLabels_93 ?_
                  refine lv_aload_n G.1 G.2.1 d_Wr_numberLabels_96 rfl (lv_at hl 0 rfl) ?_
                  refine lv_iload_n G.1 G.2.1 d_Wr_numberLabels_97 rfl (lv_at hl 2 rfl) ?_
                  refine lv_iconst (v := 2) G.1 G.2.1 d_Wr_numberLabels_98 (by decide) ?_
                  refine ucVi (As := [.int x2h65, .int 2]) (rest := [.ref (yP y (lk b_29 12) 0), .ref (yP y a0 6)]) G hP hD hS (cu_Wr_code l D g ad y _ s_28 a0 x2h65 2 H.size h_a0 h) w9_Wr_code q2217 ⟨Nat.le_of_ble_eq_true rfl, Nat.le_of_ble_eq_true rfl⟩ rfl rfl h_a0 (q := (RWr, TWr, 7)) rfl rfl hl.1 rfl (Nat.le_of_ble_eq_true rfl) rfl ⟨Nat.le_refl _, Nat.le_refl _⟩ d_Wr_numberLabels_99 (fun r_32 s_33 H locs h hP hD hS => ?_)
                  refine lv_iload G.1 G.2.1 d_Wr_numberLabels_102 (lv_at hl 4 rfl) ?_
                  refine lv_iadd G.1 G.2.1 d_Wr_numberLabels_104 ?_
                  refine uiald G hP (kdp (lk_9_12 c_31) rfl) (typ (lk_9_12 c_31) rfl) h d_Wr_numberLabels_105 (fun x_34 h => ?_)
                  refine lv_iconst (v := 0) G.1 G.2.1 d_Wr_numberLabels_106 (by decide) ?_
                  refine W.eq (g2 := F0 m 107 ls [.int 0, .int x_34, .ref (yP y a0 6)]) rfl ?_
                  refine uiast G hP hD hS (kdp h_a0 rfl) (typ h_a0 rfl) h d_Wr_numberLabels_107 (fun s_35 H locs h hP hD hS => ?_)
                  refine lv_iinc (v := x4h65 + 1) (lv' := [(4, .int (x4h65 + 1)), (0, .ref (ad a0)), (1, .int x1h65), (2, .int x2h65), (3, .int x3h65)]) G.1 G.2.1 d_Wr_numberLabels_108 hl (k := 4) rfl rfl (by decide) rfl (fun ls hl => ?_)
                  refine lv_goto (tgt := 65) G.1 G.2.1 d_Wr_numberLabels_111 (by decide) ?_
                  have h := hK_65 s_35 x1h65 x2h65 x3h65 (x4h65 + 1) h
                  exact ih_65 s_35 x1h65 x2h65 x3h65 (x4h65 + 1) (Nat.lt_of_lt_of_le h.2 (Nat.le_of_lt_succ hμ_65)) h.1 H locs hP hD hS ls (lv_sub hl [1, 2, 3, 4, 0] rfl)
          exact L_65 _ s_j62 x1j62 x2j62 x3j62 0 (Nat.lt_succ_self _) hI_65 H locs hP hD hS ls (lv_sub hl [1, 2, 3, 4, 0] rfl)
        refine lv_icmp_ne (tgt := 62) G.1 G.2.1 d_Wr_numberLabels_47 (by decide) (fun c47 => ?_) (fun c47 => ?_)
        · skip
          have h := h.1 c47
          exact J_62 s_25 x1h27 x2h27 x_26 H locs h hP hD hS ls (lv_sub hl [1, 2, 3, 0] rfl)
        · skip
          have h := h.2 c47
          refine lv_aload_n G.1 G.2.1 d_Wr_numberLabels_50 rfl (lv_at hl 1 rfl) ?_
          refine ugf (v := .ref (yP y a0 6)) G hP h_a0 iWr rfl 6 (by decide) rfl q778 rfl rfl d_Wr_numberLabels_51 ?_
          refine lv_aload_n G.1 G.2.1 d_Wr_numberLabels_54 rfl (lv_at hl 1 rfl) ?_
          refine lv_iload_n G.1 G.2.1 d_Wr_numberLabels_55 rfl (lv_at hl 3 rfl) ?_
          refine lv_iconst (v := 1) G.1 G.2.1 d_Wr_numberLabels_56 (by decide) ?_
          refine ucVi (As := [.int x2h27, .int 1]) (rest := [.ref (yP y a0 6)]) G hP hD hS (cu_Wr_code l D g ad y _ s_25 a0 x2h27 1 H.size h_a0 h) w9_Wr_code q2217 ⟨Nat.le_of_ble_eq_true rfl, Nat.le_of_ble_eq_true rfl⟩ rfl rfl h_a0 (q := (RWr, TWr, 7)) rfl rfl hl.1 rfl (Nat.le_of_ble_eq_true rfl) rfl ⟨Nat.le_refl _, Nat.le_refl _⟩ d_Wr_numberLabels_57 (fun r_36 s_37 H locs h hP hD hS => ?_)
          refine lv_iconst (v := 0) G.1 G.2.1 d_Wr_numberLabels_60 (by decide) ?_
          refine uiast G hP hD hS (kdp h_a0 rfl) (typ h_a0 rfl) h d_Wr_numberLabels_61 (fun s_38 H locs h hP hD hS => ?_)
          exact J_62 s_38 x1h27 x2h27 x_26 H locs h hP hD hS ls (lv_sub hl [1, 2, 3, 0] rfl)
  exact L_27 _ s_7 r_4 0 (Nat.lt_succ_self _) hI_27 H locs hP hD hS ls (lv_sub hl [2, 1, 0] rfl)
def y_Wr_writeKinds : MethodName := ⟨"ClassWorks$Writer", "writeKinds", "(II)V"⟩
abbrev b_Wr_writeKinds : ByteArray := prog_12_method_23_code
theorem d_Wr_writeKinds_0 : decode b_Wr_writeKinds 0 = .ok (.iconst 0, 1) := by decide +kernel
theorem d_Wr_writeKinds_1 : decode b_Wr_writeKinds 1 = .ok (.istore_n 3, 1) := by decide +kernel
theorem d_Wr_writeKinds_2 : decode b_Wr_writeKinds 2 = .ok (.iload_n 3, 1) := by decide +kernel
theorem d_Wr_writeKinds_3 : decode b_Wr_writeKinds 3 = .ok (.iload_n 2, 1) := by decide +kernel
theorem d_Wr_writeKinds_4 : decode b_Wr_writeKinds 4 = .ok (.if_icmp .ge 37, 3) := by decide +kernel
theorem d_Wr_writeKinds_7 : decode b_Wr_writeKinds 7 = .ok (.iload_n 3, 1) := by decide +kernel
theorem d_Wr_writeKinds_8 : decode b_Wr_writeKinds 8 = .ok (.ifCond .le 9, 3) := by decide +kernel
theorem d_Wr_writeKinds_11 : decode b_Wr_writeKinds 11 = .ok (.aload_n 0, 1) := by decide +kernel
theorem d_Wr_writeKinds_12 : decode b_Wr_writeKinds 12 = .ok (.bipush 44, 2) := by decide +kernel
theorem d_Wr_writeKinds_14 : decode b_Wr_writeKinds 14 = .ok (.invokevirtual 98, 3) := by decide +kernel
theorem d_Wr_writeKinds_17 : decode b_Wr_writeKinds 17 = .ok (.aload_n 0, 1) := by decide +kernel
theorem d_Wr_writeKinds_18 : decode b_Wr_writeKinds 18 = .ok (.aload_n 0, 1) := by decide +kernel
theorem d_Wr_writeKinds_19 : decode b_Wr_writeKinds 19 = .ok (.getfield 39, 3) := by decide +kernel
theorem d_Wr_writeKinds_22 : decode b_Wr_writeKinds 22 = .ok (.getfield 166, 3) := by decide +kernel
theorem d_Wr_writeKinds_25 : decode b_Wr_writeKinds 25 = .ok (.getfield 141, 3) := by decide +kernel
theorem d_Wr_writeKinds_28 : decode b_Wr_writeKinds 28 = .ok (.iload_n 1, 1) := by decide +kernel
theorem d_Wr_writeKinds_29 : decode b_Wr_writeKinds 29 = .ok (.iload_n 3, 1) := by decide +kernel
theorem d_Wr_writeKinds_30 : decode b_Wr_writeKinds 30 = .ok (.iadd, 1) := by decide +kernel
theorem d_Wr_writeKinds_31 : decode b_Wr_writeKinds 31 = .ok (.iaload, 1) := by decide +kernel
theorem d_Wr_writeKinds_32 : decode b_Wr_writeKinds 32 = .ok (.invokevirtual 64, 3) := by decide +kernel
theorem d_Wr_writeKinds_35 : decode b_Wr_writeKinds 35 = .ok (.iinc 3 1, 3) := by decide +kernel
theorem d_Wr_writeKinds_38 : decode b_Wr_writeKinds 38 = .ok (.goto (-36), 3) := by decide +kernel
theorem d_Wr_writeKinds_41 : decode b_Wr_writeKinds 41 = .ok (.return_, 1) := by decide +kernel
abbrev ra_Wr_writeKinds (mc ms : Nat) : Room := { frames := 7, cells := mc, slots := ms, locals := 463 }
def wja_Wr_writeKinds_17 (mc ms : Nat) (Post : Ly → St → Nat → Nat → Prop) (K_2 : Ly → St → Nat → Nat → Int32 → Int32 → Int32 → Prop) (a0 : Nat) (y_j17 : Ly) (s_j17 : St) (d_j17 e_j17 : Nat) (x1j17 : Int32) (x2j17 : Int32) (x3j17 : Int32) : Prop := (d_j17 ≤ mc ∧ e_j17 ≤ ms) ∧ ∃ b_1 : Nat, sO s_j17 a0 2 = some b_1 ∧ cl b_1 = 9 ∧ xA y_j17 s_j17 (lk b_1 12) 0 (x1j17 + x3j17) (fun x_4 : Int32 => ∃ mc_10 ms_11 : Nat, (d_j17 + mc_10 ≤ mc ∧ e_j17 + ms_11 ≤ ms) ∧ wa_Wr_word mc_10 ms_11 y_j17 (fun (y_7 : Ly) (s_6 : St) (d_8 e_9 : Nat) => (d_j17 + d_8 ≤ mc ∧ e_j17 + e_9 ≤ ms) ∧ K_2 y_7 s_6 (d_j17 + d_8) (e_j17 + e_9) x1j17 x2j17 (x3j17 + 1)) s_j17 a0 x_4)
def wba_Wr_writeKinds_2 (mc ms : Nat) (Post : Ly → St → Nat → Nat → Prop) (K_2 : Ly → St → Nat → Nat → Int32 → Int32 → Int32 → Prop) (a0 : Nat) (y_h2 : Ly) (s_h2 : St) (d_h2 e_h2 : Nat) (x1h2 : Int32) (x2h2 : Int32) (x3h2 : Int32) : Prop := (d_h2 ≤ mc ∧ e_h2 ≤ ms) ∧ ((x2h2 ≤ x3h2 → Post y_h2 s_h2 d_h2 e_h2) ∧ (¬ (x2h2 ≤ x3h2) → ((x3h2 ≤ 0 → wja_Wr_writeKinds_17 mc ms Post K_2 a0 y_h2 s_h2 d_h2 e_h2 x1h2 x2h2 x3h2) ∧ (¬ (x3h2 ≤ 0) → ∃ mc_18 ms_19 : Nat, (d_h2 + mc_18 ≤ mc ∧ e_h2 + ms_19 ≤ ms) ∧ wa_Wr_sign mc_18 ms_19 y_h2 (fun (y_15 : Ly) (s_14 : St) (d_16 e_17 : Nat) => (d_h2 + d_16 ≤ mc ∧ e_h2 + e_17 ≤ ms) ∧ wja_Wr_writeKinds_17 mc ms Post K_2 a0 y_15 s_14 (d_h2 + d_16) (e_h2 + e_17) x1h2 x2h2 x3h2) s_h2 a0 44))))
def wla_Wr_writeKinds_2 (mc ms : Nat) (Post : Ly → St → Nat → Nat → Prop) (a0 : Nat) (y_h2 : Ly) (s_h2 : St) (d_h2 e_h2 : Nat) (x1h2 : Int32) (x2h2 : Int32) (x3h2 : Int32) : Prop := ∃ (I : Ly → St → Nat → Nat → Int32 → Int32 → Int32 → Prop) (μ : Ly → St → Nat → Nat → Int32 → Int32 → Int32 → Nat), I y_h2 s_h2 d_h2 e_h2 x1h2 x2h2 x3h2 ∧ ∀ (u1 : Ly) (u2 : St) (u3 u4 : Nat) (t0 : Int32) (t1 : Int32) (t2 : Int32), I u1 u2 u3 u4 t0 t1 t2 → wba_Wr_writeKinds_2 mc ms Post (fun z1 z2 z3 z4 t0q t1q t2q => I z1 z2 z3 z4 t0q t1q t2q ∧ μ z1 z2 z3 z4 t0q t1q t2q < μ u1 u2 u3 u4 t0 t1 t2) a0 u1 u2 u3 u4 t0 t1 t2
def wa_Wr_writeKinds (mc ms : Nat) (y : Ly) (Post : Ly → St → Nat → Nat → Prop) (σ : St) (a0 : Nat) (v1 : Int32) (v2 : Int32) : Prop := wla_Wr_writeKinds_2 mc ms Post a0 y σ 0 0 v1 v2 0
set_option maxHeartbeats 4000000 in
set_option maxRecDepth 100000 in
theorem ca_Wr_writeKinds (l : Launch) (D : va_G) (g : Nat → ClassId) (ad : Nat → Nat) (mc ms : Nat) (y : Ly) (Post : Ly → St → Nat → Nat → Prop) (σ : St) (a0 : Nat) (v1 : Int32) (v2 : Int32) (sz uz : Nat) (h_a0 : cl a0 = 10) (h : wa_Wr_writeKinds mc ms y Post σ a0 v1 v2) : Met l y_Wr_writeKinds (mw y_Wr_writeKinds b_Wr_writeKinds 4 (none)) (ra_Wr_writeKinds mc ms) (PCu g D [] [.ref (ad a0), .int v1, .int v2] sz uz (ws g ad y σ)) (va_Qv (fun (u : Ly × St × Nat × Nat) => Post u.1 u.2.1 u.2.2.1 u.2.2.2) (QU D (va_A (ws g ad y σ) sz) (fun u => ws g ad u.1 u.2.1) sz uz (fun u => u.2.2.1) (fun u => u.2.2.2)) (va_A (ws g ad y σ) sz)) mc ms (va_A (ws g ad y σ) sz) := by
  refine ofVu (by decide +kernel) (Nat.le_of_ble_eq_true rfl) ?_
  intro p e s m args below meth c A Q ls H locs G hsz hP hD hS hl hret
  subst hsz
  have hl : lv_has ls 4 [(0, .ref (ad a0)), (1, .int v1), (2, .int v2)] := hl
  have hd : 0 ≤ mc ∧ 0 ≤ ms := ⟨Nat.zero_le _, Nat.zero_le _⟩
  unfold wa_Wr_writeKinds at h
  refine lv_iconst (v := 0) G.1 G.2.1 d_Wr_writeKinds_0 (by decide) ?_
  refine lv_istore_n (lv' := [(3, .int 0), (0, .ref (ad a0)), (1, .int v1), (2, .int v2)]) G.1 G.2.1 d_Wr_writeKinds_1 rfl hl (by decide) rfl (fun ls hl => ?_)
  unfold wla_Wr_writeKinds_2 at h
  obtain ⟨I_2, μ_2, hI_2, hB_2⟩ := h
  have L_2 : ∀ (n_2 : Nat) (y_h2 : Ly) (s_h2 : St) (d_h2 e_h2 : Nat) (x1h2 : Int32) (x2h2 : Int32) (x3h2 : Int32), μ_2 y_h2 s_h2 d_h2 e_h2 x1h2 x2h2 x3h2 < n_2 → I_2 y_h2 s_h2 d_h2 e_h2 x1h2 x2h2 x3h2 → ∀ (H : Heap) (locs : List Loc), va_P D CL (ws g ad y_h2 s_h2) H → va_D A (ws g ad y_h2 s_h2) → va_S A s.heap H locs → ∀ ls, lv_has ls 4 [(0, .ref (ad a0)), (1, .int x1h2), (2, .int x2h2), (3, .int x3h2)] → W p l e (ra_Wr_writeKinds mc ms) s m args below meth c H locs d_h2 e_h2 Q (F0 m 2 ls []) := by
    intro n_2
    induction n_2 with
    | zero => intro y_h2 s_h2 d_h2 e_h2 x1h2 x2h2 x3h2 hμ; exact absurd hμ (Nat.not_lt_zero _)
    | succ n_2 ih_2 =>
      intro y_h2 s_h2 d_h2 e_h2 x1h2 x2h2 x3h2 hμ_2 hJ H locs hP hD hS ls hl
      obtain ⟨K_2, hK_2, h⟩ : ∃ K : Ly → St → Nat → Nat → Int32 → Int32 → Int32 → Prop, (∀ z1 z2 z3 z4 (t0 : Int32) (t1 : Int32) (t2 : Int32), K z1 z2 z3 z4 t0 t1 t2 → I_2 z1 z2 z3 z4 t0 t1 t2 ∧ μ_2 z1 z2 z3 z4 t0 t1 t2 < μ_2 y_h2 s_h2 d_h2 e_h2 x1h2 x2h2 x3h2) ∧ wba_Wr_writeKinds_2 mc ms Post K a0 y_h2 s_h2 d_h2 e_h2 x1h2 x2h2 x3h2 := ⟨_, fun _ _ _ _ _ _ _ h => h, hB_2 y_h2 s_h2 d_h2 e_h2 x1h2 x2h2 x3h2 hJ⟩
      unfold wba_Wr_writeKinds_2 at h
      obtain ⟨hd, h⟩ := h
      refine lv_iload_n G.1 G.2.1 d_Wr_writeKinds_2 rfl (lv_at hl 3 rfl) ?_
      refine lv_iload_n G.1 G.2.1 d_Wr_writeKinds_3 rfl (lv_at hl 2 rfl) ?_
      refine lv_icmp_ge (tgt := 41) G.1 G.2.1 d_Wr_writeKinds_4 (by decide) (fun c4 => ?_) (fun c4 => ?_)
      · skip
        have h := h.1 c4
        exact hret (y_h2, s_h2, d_h2, e_h2) _ _ _ _ _ ls h hP hD hS (Nat.le_refl _) (Nat.le_refl _) hd.1 hd.2 d_Wr_writeKinds_41
      · skip
        have h := h.2 c4
        refine lv_iload_n G.1 G.2.1 d_Wr_writeKinds_7 rfl (lv_at hl 3 rfl) ?_
        have J_17 : ∀ (y_j17 : Ly) (s_j17 : St) (d_j17 e_j17 : Nat) (x1j17 : Int32) (x2j17 : Int32) (x3j17 : Int32) (H : Heap) (locs : List Loc), wja_Wr_writeKinds_17 mc ms Post K_2 a0 y_j17 s_j17 d_j17 e_j17 x1j17 x2j17 x3j17 → va_P D CL (ws g ad y_j17 s_j17) H → va_D A (ws g ad y_j17 s_j17) → va_S A s.heap H locs → ∀ ls, lv_has ls 4 [(0, .ref (ad a0)), (1, .int x1j17), (2, .int x2j17), (3, .int x3j17)] → W p l e (ra_Wr_writeKinds mc ms) s m args below meth c H locs d_j17 e_j17 Q (F0 m 17 ls []) := by
          intro y_j17 s_j17 d_j17 e_j17 x1j17 x2j17 x3j17 H locs h hP hD hS ls hl
          unfold wja_Wr_writeKinds_17 at h
          obtain ⟨hd, h⟩ := h
          refine lv_aload_n G.1 G.2.1 d_Wr_writeKinds_17 rfl (lv_at hl 0 rfl) ?_
          refine lv_aload_n G.1 G.2.1 d_Wr_writeKinds_18 rfl (lv_at hl 0 rfl) ?_
          obtain ⟨b_1, e_2, c_3, h⟩ := h
          refine ugf (v := .ref (ad b_1)) G hP h_a0 iWr rfl 2 (by decide) rfl q774 rfl (by show va_rf ((sO s_j17 a0 2).map ad) = _; rw [e_2]; rfl) d_Wr_writeKinds_19 ?_
          refine ugf (v := .ref (ad (lk b_1 12))) G hP c_3 iWd rfl 12 (by decide) rfl q855 rfl rfl d_Wr_writeKinds_22 ?_
          refine ugf (v := .ref (yP y_j17 (lk b_1 12) 0)) G hP (lk_9_12 c_3) iIn rfl 0 (by decide) rfl q386 rfl rfl d_Wr_writeKinds_25 ?_
          refine lv_iload_n G.1 G.2.1 d_Wr_writeKinds_28 rfl (lv_at hl 1 rfl) ?_
          refine lv_iload_n G.1 G.2.1 d_Wr_writeKinds_29 rfl (lv_at hl 3 rfl) ?_
          refine lv_iadd G.1 G.2.1 d_Wr_writeKinds_30 ?_
          refine uiald G hP (kdp (lk_9_12 c_3) rfl) (typ (lk_9_12 c_3) rfl) h d_Wr_writeKinds_31 (fun x_4 h => ?_)
          obtain ⟨mc_10, ms_11, hr_12, h⟩ := h
          refine uaVv (As := [.int x_4]) (rest := []) G hP hD hS (ca_Wr_word l D g ad mc_10 ms_11 y_j17 _ s_j17 a0 x_4 H.size (us H) h_a0 h) w9_Wr_word q2164 ⟨Nat.le_of_ble_eq_true rfl, Nat.le_of_ble_eq_true rfl⟩ rfl rfl h_a0 (q := (RWr, TWr, 7)) rfl rfl hl.1 rfl (Nat.le_of_ble_eq_true rfl) rfl hr_12 d_Wr_writeKinds_32 (fun y_7 s_6 d_8 e_9 H locs h hP hD hS => ?_)
          obtain ⟨hd, h⟩ := h
          refine lv_iinc (v := x3j17 + 1) (lv' := [(3, .int (x3j17 + 1)), (0, .ref (ad a0)), (1, .int x1j17), (2, .int x2j17)]) G.1 G.2.1 d_Wr_writeKinds_35 hl (k := 3) rfl rfl (by decide) rfl (fun ls hl => ?_)
          refine W.eq (g2 := F0 m 38 ls []) rfl ?_
          refine lv_goto (tgt := 2) G.1 G.2.1 d_Wr_writeKinds_38 (by decide) ?_
          have h := hK_2 y_7 s_6 (d_j17 + d_8) (e_j17 + e_9) x1j17 x2j17 (x3j17 + 1) h
          exact ih_2 y_7 s_6 (d_j17 + d_8) (e_j17 + e_9) x1j17 x2j17 (x3j17 + 1) (Nat.lt_of_lt_of_le h.2 (Nat.le_of_lt_succ hμ_2)) h.1 H locs hP hD hS ls (lv_sub hl [1, 2, 3, 0] rfl)
        refine lv_if_le (tgt := 17) G.1 G.2.1 d_Wr_writeKinds_8 (by decide) (fun c8 => ?_) (fun c8 => ?_)
        · skip
          have h := h.1 c8
          exact J_17 y_h2 s_h2 d_h2 e_h2 x1h2 x2h2 x3h2 H locs h hP hD hS ls (lv_sub hl [0, 1, 2, 3] rfl)
        · skip
          have h := h.2 c8
          refine lv_aload_n G.1 G.2.1 d_Wr_writeKinds_11 rfl (lv_at hl 0 rfl) ?_
          refine lv_bipush (v := 44) G.1 G.2.1 d_Wr_writeKinds_12 (by decide) ?_
          obtain ⟨mc_18, ms_19, hr_20, h⟩ := h
          refine uaVv (As := [.int 44]) (rest := []) G hP hD hS (ca_Wr_sign l D g ad mc_18 ms_19 y_h2 _ s_h2 a0 44 H.size (us H) h_a0 h) w9_Wr_sign q2174 ⟨Nat.le_of_ble_eq_true rfl, Nat.le_of_ble_eq_true rfl⟩ rfl rfl h_a0 (q := (RWr, TWr, 7)) rfl rfl hl.1 rfl (Nat.le_of_ble_eq_true rfl) rfl hr_20 d_Wr_writeKinds_14 (fun y_15 s_14 d_16 e_17 H locs h hP hD hS => ?_)
          obtain ⟨hd, h⟩ := h
          exact J_17 y_15 s_14 (d_h2 + d_16) (e_h2 + e_17) x1h2 x2h2 x3h2 H locs h hP hD hS ls (lv_sub hl [0, 1, 2, 3] rfl)
  exact L_2 _ y σ 0 0 v1 v2 0 (Nat.lt_succ_self _) hI_2 H locs hP hD hS ls (lv_sub hl [1, 2, 3, 0] rfl)
theorem q2235 : Cond.methodLink "ClassWorks$Writer" 190 y_Wr_writeKinds ∈ lw_ok := lw_okmem (List.mem_of_getElem? (i := 2235) (by decide +kernel)) rfl
theorem q2238 : Cond.code y_Wr_writeKinds b_Wr_writeKinds 4 (none) ∈ lw_ok := lw_okmem (List.mem_of_getElem? (i := 2238) (by decide +kernel)) rfl
theorem q2237 : Cond.instanceMethod y_Wr_writeKinds ∈ lw_ok := lw_okmem (List.mem_of_getElem? (i := 2237) (by decide +kernel)) rfl
theorem q135 : Cond.selects y_Wr_writeKinds.cls y_Wr_writeKinds y_Wr_writeKinds ∈ lw_ok := lw_okmem (List.mem_of_getElem? (i := 135) (by decide +kernel)) rfl
theorem w9_Wr_writeKinds : CWv y_Wr_writeKinds b_Wr_writeKinds 4 (none) 2 ∧ Cond.instanceMethod y_Wr_writeKinds ∈ lw_ok ∧ Cond.selects y_Wr_writeKinds.cls y_Wr_writeKinds y_Wr_writeKinds ∈ lw_ok := ⟨⟨q2238, q343, by decide +kernel, by decide +kernel, by decide +kernel⟩, q2237, q135⟩
def y_Wr_writeFrame : MethodName := ⟨"ClassWorks$Writer", "writeFrame", "(I)V"⟩
abbrev b_Wr_writeFrame : ByteArray := prog_12_method_22_code
theorem d_Wr_writeFrame_0 : decode b_Wr_writeFrame 0 = .ok (.aload_n 0, 1) := by decide +kernel
theorem d_Wr_writeFrame_1 : decode b_Wr_writeFrame 1 = .ok (.getfield 39, 3) := by decide +kernel
theorem d_Wr_writeFrame_4 : decode b_Wr_writeFrame 4 = .ok (.getfield 166, 3) := by decide +kernel
theorem d_Wr_writeFrame_7 : decode b_Wr_writeFrame 7 = .ok (.getfield 141, 3) := by decide +kernel
theorem d_Wr_writeFrame_10 : decode b_Wr_writeFrame 10 = .ok (.iload_n 1, 1) := by decide +kernel
theorem d_Wr_writeFrame_11 : decode b_Wr_writeFrame 11 = .ok (.iaload, 1) := by decide +kernel
theorem d_Wr_writeFrame_12 : decode b_Wr_writeFrame 12 = .ok (.istore_n 2, 1) := by decide +kernel
theorem d_Wr_writeFrame_13 : decode b_Wr_writeFrame 13 = .ok (.aload_n 0, 1) := by decide +kernel
theorem d_Wr_writeFrame_14 : decode b_Wr_writeFrame 14 = .ok (.iconst 2, 1) := by decide +kernel
theorem d_Wr_writeFrame_15 : decode b_Wr_writeFrame 15 = .ok (.invokevirtual 61, 3) := by decide +kernel
theorem d_Wr_writeFrame_18 : decode b_Wr_writeFrame 18 = .ok (.aload_n 0, 1) := by decide +kernel
theorem d_Wr_writeFrame_19 : decode b_Wr_writeFrame 19 = .ok (.bipush 34, 2) := by decide +kernel
theorem d_Wr_writeFrame_21 : decode b_Wr_writeFrame 21 = .ok (.invokevirtual 64, 3) := by decide +kernel
theorem d_Wr_writeFrame_24 : decode b_Wr_writeFrame 24 = .ok (.aload_n 0, 1) := by decide +kernel
theorem d_Wr_writeFrame_25 : decode b_Wr_writeFrame 25 = .ok (.iload_n 1, 1) := by decide +kernel
theorem d_Wr_writeFrame_26 : decode b_Wr_writeFrame 26 = .ok (.iconst 1, 1) := by decide +kernel
theorem d_Wr_writeFrame_27 : decode b_Wr_writeFrame 27 = .ok (.iadd, 1) := by decide +kernel
theorem d_Wr_writeFrame_28 : decode b_Wr_writeFrame 28 = .ok (.iload_n 2, 1) := by decide +kernel
theorem d_Wr_writeFrame_29 : decode b_Wr_writeFrame 29 = .ok (.invokevirtual 190, 3) := by decide +kernel
theorem d_Wr_writeFrame_32 : decode b_Wr_writeFrame 32 = .ok (.aload_n 0, 1) := by decide +kernel
theorem d_Wr_writeFrame_33 : decode b_Wr_writeFrame 33 = .ok (.bipush 59, 2) := by decide +kernel
theorem d_Wr_writeFrame_35 : decode b_Wr_writeFrame 35 = .ok (.invokevirtual 98, 3) := by decide +kernel
theorem d_Wr_writeFrame_38 : decode b_Wr_writeFrame 38 = .ok (.aload_n 0, 1) := by decide +kernel
theorem d_Wr_writeFrame_39 : decode b_Wr_writeFrame 39 = .ok (.iload_n 1, 1) := by decide +kernel
theorem d_Wr_writeFrame_40 : decode b_Wr_writeFrame 40 = .ok (.iconst 2, 1) := by decide +kernel
theorem d_Wr_writeFrame_41 : decode b_Wr_writeFrame 41 = .ok (.iadd, 1) := by decide +kernel
theorem d_Wr_writeFrame_42 : decode b_Wr_writeFrame 42 = .ok (.iload_n 2, 1) := by decide +kernel
theorem d_Wr_writeFrame_43 : decode b_Wr_writeFrame 43 = .ok (.iadd, 1) := by decide +kernel
theorem d_Wr_writeFrame_44 : decode b_Wr_writeFrame 44 = .ok (.aload_n 0, 1) := by decide +kernel
theorem d_Wr_writeFrame_45 : decode b_Wr_writeFrame 45 = .ok (.getfield 39, 3) := by decide +kernel
theorem d_Wr_writeFrame_48 : decode b_Wr_writeFrame 48 = .ok (.getfield 166, 3) := by decide +kernel
theorem d_Wr_writeFrame_51 : decode b_Wr_writeFrame 51 = .ok (.getfield 141, 3) := by decide +kernel
theorem d_Wr_writeFrame_54 : decode b_Wr_writeFrame 54 = .ok (.iload_n 1, 1) := by decide +kernel
theorem d_Wr_writeFrame_55 : decode b_Wr_writeFrame 55 = .ok (.iconst 1, 1) := by decide +kernel
theorem d_Wr_writeFrame_56 : decode b_Wr_writeFrame 56 = .ok (.iadd, 1) := by decide +kernel
theorem d_Wr_writeFrame_57 : decode b_Wr_writeFrame 57 = .ok (.iload_n 2, 1) := by decide +kernel
theorem d_Wr_writeFrame_58 : decode b_Wr_writeFrame 58 = .ok (.iadd, 1) := by decide +kernel
theorem d_Wr_writeFrame_59 : decode b_Wr_writeFrame 59 = .ok (.iaload, 1) := by decide +kernel
theorem d_Wr_writeFrame_60 : decode b_Wr_writeFrame 60 = .ok (.invokevirtual 190, 3) := by decide +kernel
theorem d_Wr_writeFrame_63 : decode b_Wr_writeFrame 63 = .ok (.aload_n 0, 1) := by decide +kernel
theorem d_Wr_writeFrame_64 : decode b_Wr_writeFrame 64 = .ok (.invokevirtual 67, 3) := by decide +kernel
theorem d_Wr_writeFrame_67 : decode b_Wr_writeFrame 67 = .ok (.return_, 1) := by decide +kernel
abbrev ra_Wr_writeFrame (mc ms : Nat) : Room := { frames := 8, cells := mc, slots := ms, locals := 486 }
def wa_Wr_writeFrame (mc ms : Nat) (y : Ly) (Post : Ly → St → Nat → Nat → Prop) (σ : St) (a0 : Nat) (v1 : Int32) : Prop := ∃ b_1 : Nat, sO σ a0 2 = some b_1 ∧ cl b_1 = 9 ∧ xA y σ (lk b_1 12) 0 v1 (fun x_4 : Int32 => ∃ mc_10 ms_11 : Nat, (0 + mc_10 ≤ mc ∧ 0 + ms_11 ≤ ms) ∧ wa_Wr_beginLine mc_10 ms_11 y (fun (y_7 : Ly) (s_6 : St) (d_8 e_9 : Nat) => (0 + d_8 ≤ mc ∧ 0 + e_9 ≤ ms) ∧ ∃ mc_18 ms_19 : Nat, (0 + d_8 + mc_18 ≤ mc ∧ 0 + e_9 + ms_19 ≤ ms) ∧ wa_Wr_word mc_18 ms_19 y_7 (fun (y_15 : Ly) (s_14 : St) (d_16 e_17 : Nat) => (0 + d_8 + d_16 ≤ mc ∧ 0 + e_9 + e_17 ≤ ms) ∧ ∃ mc_26 ms_27 : Nat, (0 + d_8 + d_16 + mc_26 ≤ mc ∧ 0 + e_9 + e_17 + ms_27 ≤ ms) ∧ wa_Wr_writeKinds mc_26 ms_27 y_15 (fun (y_23 : Ly) (s_22 : St) (d_24 e_25 : Nat) => (0 + d_8 + d_16 + d_24 ≤ mc ∧ 0 + e_9 + e_17 + e_25 ≤ ms) ∧ ∃ mc_34 ms_35 : Nat, (0 + d_8 + d_16 + d_24 + mc_34 ≤ mc ∧ 0 + e_9 + e_17 + e_25 + ms_35 ≤ ms) ∧ wa_Wr_sign mc_34 ms_35 y_23 (fun (y_31 : Ly) (s_30 : St) (d_32 e_33 : Nat) => (0 + d_8 + d_16 + d_24 + d_32 ≤ mc ∧ 0 + e_9 + e_17 + e_25 + e_33 ≤ ms) ∧ ∃ b_37 : Nat, sO s_30 a0 2 = some b_37 ∧ cl b_37 = 9 ∧ xA y_31 s_30 (lk b_37 12) 0 ((v1 + 1) + x_4) (fun x_40 : Int32 => ∃ mc_46 ms_47 : Nat, (0 + d_8 + d_16 + d_24 + d_32 + mc_46 ≤ mc ∧ 0 + e_9 + e_17 + e_25 + e_33 + ms_47 ≤ ms) ∧ wa_Wr_writeKinds mc_46 ms_47 y_31 (fun (y_43 : Ly) (s_42 : St) (d_44 e_45 : Nat) => (0 + d_8 + d_16 + d_24 + d_32 + d_44 ≤ mc ∧ 0 + e_9 + e_17 + e_25 + e_33 + e_45 ≤ ms) ∧ ∃ mc_54 ms_55 : Nat, (0 + d_8 + d_16 + d_24 + d_32 + d_44 + mc_54 ≤ mc ∧ 0 + e_9 + e_17 + e_25 + e_33 + e_45 + ms_55 ≤ ms) ∧ wa_Wr_endLine mc_54 ms_55 y_43 (fun (y_51 : Ly) (s_50 : St) (d_52 e_53 : Nat) => (0 + d_8 + d_16 + d_24 + d_32 + d_44 + d_52 ≤ mc ∧ 0 + e_9 + e_17 + e_25 + e_33 + e_45 + e_53 ≤ ms) ∧ Post y_51 s_50 (0 + d_8 + d_16 + d_24 + d_32 + d_44 + d_52) (0 + e_9 + e_17 + e_25 + e_33 + e_45 + e_53)) s_42 a0) s_30 a0 ((v1 + 2) + x_4) x_40)) s_22 a0 59) s_14 a0 (v1 + 1) x_4) s_6 a0 34) σ a0 2)
set_option maxHeartbeats 4000000 in
set_option maxRecDepth 100000 in
theorem ca_Wr_writeFrame (l : Launch) (D : va_G) (g : Nat → ClassId) (ad : Nat → Nat) (mc ms : Nat) (y : Ly) (Post : Ly → St → Nat → Nat → Prop) (σ : St) (a0 : Nat) (v1 : Int32) (sz uz : Nat) (h_a0 : cl a0 = 10) (h : wa_Wr_writeFrame mc ms y Post σ a0 v1) : Met l y_Wr_writeFrame (mw y_Wr_writeFrame b_Wr_writeFrame 3 (none)) (ra_Wr_writeFrame mc ms) (PCu g D [] [.ref (ad a0), .int v1] sz uz (ws g ad y σ)) (va_Qv (fun (u : Ly × St × Nat × Nat) => Post u.1 u.2.1 u.2.2.1 u.2.2.2) (QU D (va_A (ws g ad y σ) sz) (fun u => ws g ad u.1 u.2.1) sz uz (fun u => u.2.2.1) (fun u => u.2.2.2)) (va_A (ws g ad y σ) sz)) mc ms (va_A (ws g ad y σ) sz) := by
  refine ofVu (by decide +kernel) (Nat.le_of_ble_eq_true rfl) ?_
  intro p e s m args below meth c A Q ls H locs G hsz hP hD hS hl hret
  subst hsz
  have hl : lv_has ls 3 [(0, .ref (ad a0)), (1, .int v1)] := hl
  have hd : 0 ≤ mc ∧ 0 ≤ ms := ⟨Nat.zero_le _, Nat.zero_le _⟩
  unfold wa_Wr_writeFrame at h
  refine lv_aload_n G.1 G.2.1 d_Wr_writeFrame_0 rfl (lv_at hl 0 rfl) ?_
  obtain ⟨b_1, e_2, c_3, h⟩ := h
  refine ugf (v := .ref (ad b_1)) G hP h_a0 iWr rfl 2 (by decide) rfl q774 rfl (by show va_rf ((sO σ a0 2).map ad) = _; rw [e_2]; rfl) d_Wr_writeFrame_1 ?_
  refine ugf (v := .ref (ad (lk b_1 12))) G hP c_3 iWd rfl 12 (by decide) rfl q855 rfl rfl d_Wr_writeFrame_4 ?_
  refine ugf (v := .ref (yP y (lk b_1 12) 0)) G hP (lk_9_12 c_3) iIn rfl 0 (by decide) rfl q386 rfl rfl d_Wr_writeFrame_7 ?_
  refine lv_iload_n G.1 G.2.1 d_Wr_writeFrame_10 rfl (lv_at hl 1 rfl) ?_
  refine uiald G hP (kdp (lk_9_12 c_3) rfl) (typ (lk_9_12 c_3) rfl) h d_Wr_writeFrame_11 (fun x_4 h => ?_)
  refine lv_istore_n (lv' := [(2, .int x_4), (0, .ref (ad a0)), (1, .int v1)]) G.1 G.2.1 d_Wr_writeFrame_12 rfl hl (by decide) rfl (fun ls hl => ?_)
  refine lv_aload_n G.1 G.2.1 d_Wr_writeFrame_13 rfl (lv_at hl 1 rfl) ?_
  refine lv_iconst (v := 2) G.1 G.2.1 d_Wr_writeFrame_14 (by decide) ?_
  obtain ⟨mc_10, ms_11, hr_12, h⟩ := h
  refine uaVv (As := [.int 2]) (rest := []) G hP hD hS (ca_Wr_beginLine l D g ad mc_10 ms_11 y _ σ a0 2 H.size (us H) h_a0 h) w9_Wr_beginLine q2155 ⟨Nat.le_of_ble_eq_true rfl, Nat.le_of_ble_eq_true rfl⟩ rfl rfl h_a0 (q := (RWr, TWr, 7)) rfl rfl hl.1 rfl (Nat.le_of_ble_eq_true rfl) rfl hr_12 d_Wr_writeFrame_15 (fun y_7 s_6 d_8 e_9 H locs h hP hD hS => ?_)
  obtain ⟨hd, h⟩ := h
  refine lv_aload_n G.1 G.2.1 d_Wr_writeFrame_18 rfl (lv_at hl 1 rfl) ?_
  refine W.eq (g2 := F0 m 19 ls [.ref (ad a0)]) rfl ?_
  refine lv_bipush (v := 34) G.1 G.2.1 d_Wr_writeFrame_19 (by decide) ?_
  obtain ⟨mc_18, ms_19, hr_20, h⟩ := h
  refine uaVv (As := [.int 34]) (rest := []) G hP hD hS (ca_Wr_word l D g ad mc_18 ms_19 y_7 _ s_6 a0 34 H.size (us H) h_a0 h) w9_Wr_word q2164 ⟨Nat.le_of_ble_eq_true rfl, Nat.le_of_ble_eq_true rfl⟩ rfl rfl h_a0 (q := (RWr, TWr, 7)) rfl rfl hl.1 rfl (Nat.le_of_ble_eq_true rfl) rfl hr_20 d_Wr_writeFrame_21 (fun y_15 s_14 d_16 e_17 H locs h hP hD hS => ?_)
  obtain ⟨hd, h⟩ := h
  refine lv_aload_n G.1 G.2.1 d_Wr_writeFrame_24 rfl (lv_at hl 1 rfl) ?_
  refine lv_iload_n G.1 G.2.1 d_Wr_writeFrame_25 rfl (lv_at hl 2 rfl) ?_
  refine lv_iconst (v := 1) G.1 G.2.1 d_Wr_writeFrame_26 (by decide) ?_
  refine lv_iadd G.1 G.2.1 d_Wr_writeFrame_27 ?_
  refine lv_iload_n G.1 G.2.1 d_Wr_writeFrame_28 rfl (lv_at hl 0 rfl) ?_
  obtain ⟨mc_26, ms_27, hr_28, h⟩ := h
  refine uaVv (As := [.int (v1 + 1), .int x_4]) (rest := []) G hP hD hS (ca_Wr_writeKinds l D g ad mc_26 ms_27 y_15 _ s_14 a0 (v1 + 1) x_4 H.size (us H) h_a0 h) w9_Wr_writeKinds q2235 ⟨Nat.le_of_ble_eq_true rfl, Nat.le_of_ble_eq_true rfl⟩ rfl rfl h_a0 (q := (RWr, TWr, 7)) rfl rfl hl.1 rfl (Nat.le_of_ble_eq_true rfl) rfl hr_28 d_Wr_writeFrame_29 (fun y_23 s_22 d_24 e_25 H locs h hP hD hS => ?_)
  obtain ⟨hd, h⟩ := h
  refine lv_aload_n G.1 G.2.1 d_Wr_writeFrame_32 rfl (lv_at hl 1 rfl) ?_
  refine lv_bipush (v := 59) G.1 G.2.1 d_Wr_writeFrame_33 (by decide) ?_
  obtain ⟨mc_34, ms_35, hr_36, h⟩ := h
  refine uaVv (As := [.int 59]) (rest := []) G hP hD hS (ca_Wr_sign l D g ad mc_34 ms_35 y_23 _ s_22 a0 59 H.size (us H) h_a0 h) w9_Wr_sign q2174 ⟨Nat.le_of_ble_eq_true rfl, Nat.le_of_ble_eq_true rfl⟩ rfl rfl h_a0 (q := (RWr, TWr, 7)) rfl rfl hl.1 rfl (Nat.le_of_ble_eq_true rfl) rfl hr_36 d_Wr_writeFrame_35 (fun y_31 s_30 d_32 e_33 H locs h hP hD hS => ?_)
  obtain ⟨hd, h⟩ := h
  refine lv_aload_n G.1 G.2.1 d_Wr_writeFrame_38 rfl (lv_at hl 1 rfl) ?_
  refine W.eq (g2 := F0 m 39 ls [.ref (ad a0)]) rfl ?_
  refine lv_iload_n G.1 G.2.1 d_Wr_writeFrame_39 rfl (lv_at hl 2 rfl) ?_
  refine lv_iconst (v := 2) G.1 G.2.1 d_Wr_writeFrame_40 (by decide) ?_
  refine lv_iadd G.1 G.2.1 d_Wr_writeFrame_41 ?_
  refine lv_iload_n G.1 G.2.1 d_Wr_writeFrame_42 rfl (lv_at hl 0 rfl) ?_
  refine lv_iadd G.1 G.2.1 d_Wr_writeFrame_43 ?_
  refine lv_aload_n G.1 G.2.1 d_Wr_writeFrame_44 rfl (lv_at hl 1 rfl) ?_
  obtain ⟨b_37, e_38, c_39, h⟩ := h
  refine ugf (v := .ref (ad b_37)) G hP h_a0 iWr rfl 2 (by decide) rfl q774 rfl (by show va_rf ((sO s_30 a0 2).map ad) = _; rw [e_38]; rfl) d_Wr_writeFrame_45 ?_
  refine ugf (v := .ref (ad (lk b_37 12))) G hP c_39 iWd rfl 12 (by decide) rfl q855 rfl rfl d_Wr_writeFrame_48 ?_
  refine ugf (v := .ref (yP y_31 (lk b_37 12) 0)) G hP (lk_9_12 c_39) iIn rfl 0 (by decide) rfl q386 rfl rfl d_Wr_writeFrame_51 ?_
  refine lv_iload_n G.1 G.2.1 d_Wr_writeFrame_54 rfl (lv_at hl 2 rfl) ?_
  refine lv_iconst (v := 1) G.1 G.2.1 d_Wr_writeFrame_55 (by decide) ?_
  refine lv_iadd G.1 G.2.1 d_Wr_writeFrame_56 ?_
  refine W.eq (g2 := F0 m 57 ls [.int (v1 + 1), .ref (yP y_31 (lk b_37 12) 0), .int ((v1 + 2) + x_4), .ref (ad a0)]) rfl ?_
  refine lv_iload_n G.1 G.2.1 d_Wr_writeFrame_57 rfl (lv_at hl 0 rfl) ?_
  refine lv_iadd G.1 G.2.1 d_Wr_writeFrame_58 ?_
  refine uiald G hP (kdp (lk_9_12 c_39) rfl) (typ (lk_9_12 c_39) rfl) h d_Wr_writeFrame_59 (fun x_40 h => ?_)
  obtain ⟨mc_46, ms_47, hr_48, h⟩ := h
  refine uaVv (As := [.int ((v1 + 2) + x_4), .int x_40]) (rest := []) G hP hD hS (ca_Wr_writeKinds l D g ad mc_46 ms_47 y_31 _ s_30 a0 ((v1 + 2) + x_4) x_40 H.size (us H) h_a0 h) w9_Wr_writeKinds q2235 ⟨Nat.le_of_ble_eq_true rfl, Nat.le_of_ble_eq_true rfl⟩ rfl rfl h_a0 (q := (RWr, TWr, 7)) rfl rfl hl.1 rfl (Nat.le_of_ble_eq_true rfl) rfl hr_48 d_Wr_writeFrame_60 (fun y_43 s_42 d_44 e_45 H locs h hP hD hS => ?_)
  have hl := lv_sub (l' := [(0, .ref (ad a0))]) hl [1] rfl
  obtain ⟨hd, h⟩ := h
  refine lv_aload_n G.1 G.2.1 d_Wr_writeFrame_63 rfl (lv_at hl 0 rfl) ?_
  obtain ⟨mc_54, ms_55, hr_56, h⟩ := h
  refine uaVv (As := []) (rest := []) G hP hD hS (ca_Wr_endLine l D g ad mc_54 ms_55 y_43 _ s_42 a0 H.size (us H) h_a0 h) w9_Wr_endLine q2178 ⟨Nat.le_of_ble_eq_true rfl, Nat.le_of_ble_eq_true rfl⟩ rfl rfl h_a0 (q := (RWr, TWr, 7)) rfl rfl hl.1 rfl (Nat.le_of_ble_eq_true rfl) rfl hr_56 d_Wr_writeFrame_64 (fun y_51 s_50 d_52 e_53 H locs h hP hD hS => ?_)
  have hl := lv_sub (l' := []) hl [] rfl
  obtain ⟨hd, h⟩ := h
  exact hret (y_51, s_50, 0 + d_8 + d_16 + d_24 + d_32 + d_44 + d_52, 0 + e_9 + e_17 + e_25 + e_33 + e_45 + e_53) _ _ _ _ _ ls h hP hD hS (Nat.le_refl _) (Nat.le_refl _) hd.1 hd.2 d_Wr_writeFrame_67
def y_Wr_label : MethodName := ⟨"ClassWorks$Writer", "label", "(I)V"⟩
abbrev b_Wr_label : ByteArray := prog_12_method_18_code
theorem d_Wr_label_0 : decode b_Wr_label 0 = .ok (.aload_n 0, 1) := by decide +kernel
theorem d_Wr_label_1 : decode b_Wr_label 1 = .ok (.invokevirtual 74, 3) := by decide +kernel
theorem d_Wr_label_4 : decode b_Wr_label 4 = .ok (.aload_n 0, 1) := by decide +kernel
theorem d_Wr_label_5 : decode b_Wr_label 5 = .ok (.getfield 14, 3) := by decide +kernel
theorem d_Wr_label_8 : decode b_Wr_label 8 = .ok (.bipush 76, 2) := by decide +kernel
theorem d_Wr_label_10 : decode b_Wr_label 10 = .ok (.invokevirtual 70, 3) := by decide +kernel
theorem d_Wr_label_13 : decode b_Wr_label 13 = .ok (.pop, 1) := by decide +kernel
theorem d_Wr_label_14 : decode b_Wr_label 14 = .ok (.aload_n 0, 1) := by decide +kernel
theorem d_Wr_label_15 : decode b_Wr_label 15 = .ok (.aload_n 0, 1) := by decide +kernel
theorem d_Wr_label_16 : decode b_Wr_label 16 = .ok (.getfield 31, 3) := by decide +kernel
theorem d_Wr_label_19 : decode b_Wr_label 19 = .ok (.iload_n 1, 1) := by decide +kernel
theorem d_Wr_label_20 : decode b_Wr_label 20 = .ok (.iaload, 1) := by decide +kernel
theorem d_Wr_label_21 : decode b_Wr_label 21 = .ok (.invokevirtual 85, 3) := by decide +kernel
theorem d_Wr_label_24 : decode b_Wr_label 24 = .ok (.return_, 1) := by decide +kernel
abbrev ra_Wr_label (mc ms : Nat) : Room := { frames := 6, cells := mc, slots := ms, locals := 447 }
def wa_Wr_label (mc ms : Nat) (y : Ly) (Post : Ly → St → Nat → Nat → Prop) (σ : St) (a0 : Nat) (v1 : Int32) : Prop := ∃ mc_6 ms_7 : Nat, (0 + mc_6 ≤ mc ∧ 0 + ms_7 ≤ ms) ∧ wa_Wr_beforeWord mc_6 ms_7 y (fun (y_3 : Ly) (s_2 : St) (d_4 e_5 : Nat) => (0 + d_4 ≤ mc ∧ 0 + e_5 ≤ ms) ∧ ∃ mc_14 ms_15 : Nat, (0 + d_4 + mc_14 ≤ mc ∧ 0 + e_5 + ms_15 ≤ ms) ∧ wa_In_add mc_14 ms_15 y_3 (fun (y_11 : Ly) (s_10 : St) (r_9 : Int32) (d_12 e_13 : Nat) => (0 + d_4 + d_12 ≤ mc ∧ 0 + e_5 + e_13 ≤ ms) ∧ xA y_11 s_10 a0 6 v1 (fun x_17 : Int32 => ∃ mc_23 ms_24 : Nat, (0 + d_4 + d_12 + mc_23 ≤ mc ∧ 0 + e_5 + e_13 + ms_24 ≤ ms) ∧ wa_Wr_digits mc_23 ms_24 y_11 (fun (y_20 : Ly) (s_19 : St) (d_21 e_22 : Nat) => (0 + d_4 + d_12 + d_21 ≤ mc ∧ 0 + e_5 + e_13 + e_22 ≤ ms) ∧ Post y_20 s_19 (0 + d_4 + d_12 + d_21) (0 + e_5 + e_13 + e_22)) s_10 a0 x_17)) s_2 (lk a0 0) 76) σ a0
set_option maxHeartbeats 4000000 in
set_option maxRecDepth 100000 in
theorem ca_Wr_label (l : Launch) (D : va_G) (g : Nat → ClassId) (ad : Nat → Nat) (mc ms : Nat) (y : Ly) (Post : Ly → St → Nat → Nat → Prop) (σ : St) (a0 : Nat) (v1 : Int32) (sz uz : Nat) (h_a0 : cl a0 = 10) (h : wa_Wr_label mc ms y Post σ a0 v1) : Met l y_Wr_label (mw y_Wr_label b_Wr_label 2 (none)) (ra_Wr_label mc ms) (PCu g D [] [.ref (ad a0), .int v1] sz uz (ws g ad y σ)) (va_Qv (fun (u : Ly × St × Nat × Nat) => Post u.1 u.2.1 u.2.2.1 u.2.2.2) (QU D (va_A (ws g ad y σ) sz) (fun u => ws g ad u.1 u.2.1) sz uz (fun u => u.2.2.1) (fun u => u.2.2.2)) (va_A (ws g ad y σ) sz)) mc ms (va_A (ws g ad y σ) sz) := by
  refine ofVu (by decide +kernel) (Nat.le_of_ble_eq_true rfl) ?_
  intro p e s m args below meth c A Q ls H locs G hsz hP hD hS hl hret
  subst hsz
  have hl : lv_has ls 2 [(0, .ref (ad a0)), (1, .int v1)] := hl
  have hd : 0 ≤ mc ∧ 0 ≤ ms := ⟨Nat.zero_le _, Nat.zero_le _⟩
  unfold wa_Wr_label at h
  refine lv_aload_n G.1 G.2.1 d_Wr_label_0 rfl (lv_at hl 0 rfl) ?_
  obtain ⟨mc_6, ms_7, hr_8, h⟩ := h
  refine uaVv (As := []) (rest := []) G hP hD hS (ca_Wr_beforeWord l D g ad mc_6 ms_7 y _ σ a0 H.size (us H) h_a0 h) w9_Wr_beforeWord q2168 ⟨Nat.le_of_ble_eq_true rfl, Nat.le_of_ble_eq_true rfl⟩ rfl rfl h_a0 (q := (RWr, TWr, 7)) rfl rfl hl.1 rfl (Nat.le_of_ble_eq_true rfl) rfl hr_8 d_Wr_label_1 (fun y_3 s_2 d_4 e_5 H locs h hP hD hS => ?_)
  obtain ⟨hd, h⟩ := h
  refine lv_aload_n G.1 G.2.1 d_Wr_label_4 rfl (lv_at hl 0 rfl) ?_
  refine ugf (v := .ref (ad (lk a0 0))) G hP h_a0 iWr rfl 0 (by decide) rfl q771 rfl rfl d_Wr_label_5 ?_
  refine lv_bipush (v := 76) G.1 G.2.1 d_Wr_label_8 (by decide) ?_
  obtain ⟨mc_14, ms_15, hr_16, h⟩ := h
  refine uaVi (As := [.int 76]) (rest := []) G hP hD hS (ca_In_add l D g [] ad mc_14 ms_15 y_3 _ s_2 (lk a0 0) 76 H.size (us H) (lk_10_0 h_a0) h) w9_In_add q2159 ⟨Nat.le_of_ble_eq_true rfl, Nat.le_of_ble_eq_true rfl⟩ rfl rfl (lk_10_0 h_a0) (q := (RIn, TIn, 2)) rfl rfl hl.1 rfl (Nat.le_of_ble_eq_true rfl) rfl hr_16 d_Wr_label_10 (fun r_9 y_11 s_10 d_12 e_13 H locs h hP hD hS => ?_)
  obtain ⟨hd, h⟩ := h
  refine lv_pop G.1 G.2.1 d_Wr_label_13 rfl ?_
  refine lv_aload_n G.1 G.2.1 d_Wr_label_14 rfl (lv_at hl 0 rfl) ?_
  refine lv_aload_n G.1 G.2.1 d_Wr_label_15 rfl (lv_at hl 0 rfl) ?_
  refine ugf (v := .ref (yP y_11 a0 6)) G hP h_a0 iWr rfl 6 (by decide) rfl q778 rfl rfl d_Wr_label_16 ?_
  refine lv_iload_n G.1 G.2.1 d_Wr_label_19 rfl (lv_at hl 1 rfl) ?_
  refine W.eq (g2 := F0 m 20 ls [.int v1, .ref (yP y_11 a0 6), .ref (ad a0)]) rfl ?_
  refine uiald G hP (kdp h_a0 rfl) (typ h_a0 rfl) h d_Wr_label_20 (fun x_17 h => ?_)
  obtain ⟨mc_23, ms_24, hr_25, h⟩ := h
  refine uaVv (As := [.int x_17]) (rest := []) G hP hD hS (ca_Wr_digits l D g ad mc_23 ms_24 y_11 _ s_10 a0 x_17 H.size (us H) h_a0 h) w9_Wr_digits q2191 ⟨Nat.le_of_ble_eq_true rfl, Nat.le_of_ble_eq_true rfl⟩ rfl rfl h_a0 (q := (RWr, TWr, 7)) rfl rfl hl.1 rfl (Nat.le_of_ble_eq_true rfl) rfl hr_25 d_Wr_label_21 (fun y_20 s_19 d_21 e_22 H locs h hP hD hS => ?_)
  have hl := lv_sub (l' := []) hl [] rfl
  obtain ⟨hd, h⟩ := h
  exact hret (y_20, s_19, 0 + d_4 + d_12 + d_21, 0 + e_5 + e_13 + e_22) _ _ _ _ _ ls h hP hD hS (Nat.le_refl _) (Nat.le_refl _) hd.1 hd.2 d_Wr_label_24
def y_Wr_operation : MethodName := ⟨"ClassWorks$Writer", "operation", "(I)V"⟩
abbrev b_Wr_operation : ByteArray := prog_12_method_20_code
theorem q2250 : Cond.methodLink "ClassWorks$Writer" 187 y_Js_length ∈ lw_ok := lw_okmem (List.mem_of_getElem? (i := 2250) (by decide +kernel)) rfl
theorem d_Wr_operation_0 : decode b_Wr_operation 0 = .ok (.aload_n 0, 1) := by decide +kernel
theorem d_Wr_operation_1 : decode b_Wr_operation 1 = .ok (.invokevirtual 74, 3) := by decide +kernel
theorem d_Wr_operation_4 : decode b_Wr_operation 4 = .ok (.iload_n 1, 1) := by decide +kernel
theorem d_Wr_operation_5 : decode b_Wr_operation 5 = .ok (.bipush 23, 2) := by decide +kernel
theorem d_Wr_operation_7 : decode b_Wr_operation 7 = .ok (.if_icmp .ge 8, 3) := by decide +kernel
theorem d_Wr_operation_10 : decode b_Wr_operation 10 = .ok (.ldc 181, 2) := by decide +kernel
theorem d_Wr_operation_12 : decode b_Wr_operation 12 = .ok (.goto 16, 3) := by decide +kernel
theorem d_Wr_operation_15 : decode b_Wr_operation 15 = .ok (.iload_n 1, 1) := by decide +kernel
theorem d_Wr_operation_16 : decode b_Wr_operation 16 = .ok (.bipush 41, 2) := by decide +kernel
theorem d_Wr_operation_18 : decode b_Wr_operation 18 = .ok (.if_icmp .ge 8, 3) := by decide +kernel
theorem d_Wr_operation_21 : decode b_Wr_operation 21 = .ok (.ldc 183, 2) := by decide +kernel
theorem d_Wr_operation_23 : decode b_Wr_operation 23 = .ok (.goto 5, 3) := by decide +kernel
theorem d_Wr_operation_26 : decode b_Wr_operation 26 = .ok (.ldc 185, 2) := by decide +kernel
theorem d_Wr_operation_28 : decode b_Wr_operation 28 = .ok (.astore_n 2, 1) := by decide +kernel
theorem d_Wr_operation_29 : decode b_Wr_operation 29 = .ok (.iload_n 1, 1) := by decide +kernel
theorem d_Wr_operation_30 : decode b_Wr_operation 30 = .ok (.bipush 23, 2) := by decide +kernel
theorem d_Wr_operation_32 : decode b_Wr_operation 32 = .ok (.if_icmp .ge 7, 3) := by decide +kernel
theorem d_Wr_operation_35 : decode b_Wr_operation 35 = .ok (.iload_n 1, 1) := by decide +kernel
theorem d_Wr_operation_36 : decode b_Wr_operation 36 = .ok (.goto 20, 3) := by decide +kernel
theorem d_Wr_operation_39 : decode b_Wr_operation 39 = .ok (.iload_n 1, 1) := by decide +kernel
theorem d_Wr_operation_40 : decode b_Wr_operation 40 = .ok (.bipush 41, 2) := by decide +kernel
theorem d_Wr_operation_42 : decode b_Wr_operation 42 = .ok (.if_icmp .ge 10, 3) := by decide +kernel
theorem d_Wr_operation_45 : decode b_Wr_operation 45 = .ok (.iload_n 1, 1) := by decide +kernel
theorem d_Wr_operation_46 : decode b_Wr_operation 46 = .ok (.bipush 23, 2) := by decide +kernel
theorem d_Wr_operation_48 : decode b_Wr_operation 48 = .ok (.isub, 1) := by decide +kernel
theorem d_Wr_operation_49 : decode b_Wr_operation 49 = .ok (.goto 7, 3) := by decide +kernel
theorem d_Wr_operation_52 : decode b_Wr_operation 52 = .ok (.iload_n 1, 1) := by decide +kernel
theorem d_Wr_operation_53 : decode b_Wr_operation 53 = .ok (.bipush 41, 2) := by decide +kernel
theorem d_Wr_operation_55 : decode b_Wr_operation 55 = .ok (.isub, 1) := by decide +kernel
theorem d_Wr_operation_56 : decode b_Wr_operation 56 = .ok (.istore_n 3, 1) := by decide +kernel
theorem d_Wr_operation_57 : decode b_Wr_operation 57 = .ok (.iconst 0, 1) := by decide +kernel
theorem d_Wr_operation_58 : decode b_Wr_operation 58 = .ok (.istore 4, 2) := by decide +kernel
theorem d_Wr_operation_60 : decode b_Wr_operation 60 = .ok (.iload 4, 2) := by decide +kernel
theorem d_Wr_operation_62 : decode b_Wr_operation 62 = .ok (.aload_n 2, 1) := by decide +kernel
theorem d_Wr_operation_63 : decode b_Wr_operation 63 = .ok (.invokevirtual 187, 3) := by decide +kernel
theorem d_Wr_operation_66 : decode b_Wr_operation 66 = .ok (.if_icmp .ge 48, 3) := by decide +kernel
theorem d_Wr_operation_69 : decode b_Wr_operation 69 = .ok (.iload_n 3, 1) := by decide +kernel
theorem d_Wr_operation_70 : decode b_Wr_operation 70 = .ok (.ifCond .lt 44, 3) := by decide +kernel
theorem d_Wr_operation_73 : decode b_Wr_operation 73 = .ok (.aload_n 2, 1) := by decide +kernel
theorem d_Wr_operation_74 : decode b_Wr_operation 74 = .ok (.iload 4, 2) := by decide +kernel
theorem d_Wr_operation_76 : decode b_Wr_operation 76 = .ok (.invokevirtual 160, 3) := by decide +kernel
theorem d_Wr_operation_79 : decode b_Wr_operation 79 = .ok (.bipush 32, 2) := by decide +kernel
theorem d_Wr_operation_81 : decode b_Wr_operation 81 = .ok (.if_icmp .ne 9, 3) := by decide +kernel
theorem d_Wr_operation_84 : decode b_Wr_operation 84 = .ok (.iinc 3 (-1), 3) := by decide +kernel
theorem d_Wr_operation_87 : decode b_Wr_operation 87 = .ok (.goto 21, 3) := by decide +kernel
theorem d_Wr_operation_90 : decode b_Wr_operation 90 = .ok (.iload_n 3, 1) := by decide +kernel
theorem d_Wr_operation_91 : decode b_Wr_operation 91 = .ok (.ifCond .ne 17, 3) := by decide +kernel
theorem d_Wr_operation_94 : decode b_Wr_operation 94 = .ok (.aload_n 0, 1) := by decide +kernel
theorem d_Wr_operation_95 : decode b_Wr_operation 95 = .ok (.getfield 14, 3) := by decide +kernel
theorem d_Wr_operation_98 : decode b_Wr_operation 98 = .ok (.aload_n 2, 1) := by decide +kernel
theorem d_Wr_operation_99 : decode b_Wr_operation 99 = .ok (.iload 4, 2) := by decide +kernel
theorem d_Wr_operation_101 : decode b_Wr_operation 101 = .ok (.invokevirtual 160, 3) := by decide +kernel
theorem d_Wr_operation_104 : decode b_Wr_operation 104 = .ok (.invokevirtual 70, 3) := by decide +kernel
theorem d_Wr_operation_107 : decode b_Wr_operation 107 = .ok (.pop, 1) := by decide +kernel
theorem d_Wr_operation_108 : decode b_Wr_operation 108 = .ok (.iinc 4 1, 3) := by decide +kernel
theorem d_Wr_operation_111 : decode b_Wr_operation 111 = .ok (.goto (-51), 3) := by decide +kernel
theorem d_Wr_operation_114 : decode b_Wr_operation 114 = .ok (.return_, 1) := by decide +kernel
abbrev ra_Wr_operation (mc ms : Nat) : Room := { frames := 6, cells := mc, slots := ms, locals := 441 }
def wja_Wr_operation_114 (mc ms : Nat) (Post : Ly → St → Nat → Nat → Prop) (a0 : Nat) (y_j114 : Ly) (s_j114 : St) (d_j114 e_j114 : Nat) : Prop := (d_j114 ≤ mc ∧ e_j114 ≤ ms) ∧ Post y_j114 s_j114 d_j114 e_j114
def wja_Wr_operation_108 (mc ms : Nat) (Post : Ly → St → Nat → Nat → Prop) (K_60 : Ly → St → Nat → Nat → Nat → Int32 → Int32 → Prop) (a0 : Nat) (y_j108 : Ly) (s_j108 : St) (d_j108 e_j108 : Nat) (x2j108 : Nat) (x3j108 : Int32) (x4j108 : Int32) : Prop := (d_j108 ≤ mc ∧ e_j108 ≤ ms) ∧ x2j108 < strT.length ∧ K_60 y_j108 s_j108 d_j108 e_j108 x2j108 x3j108 (x4j108 + 1)
def wba_Wr_operation_60 (mc ms : Nat) (Post : Ly → St → Nat → Nat → Prop) (K_60 : Ly → St → Nat → Nat → Nat → Int32 → Int32 → Prop) (a0 : Nat) (y_h60 : Ly) (s_h60 : St) (d_h60 e_h60 : Nat) (x2h60 : Nat) (x3h60 : Int32) (x4h60 : Int32) : Prop := (d_h60 ≤ mc ∧ e_h60 ≤ ms) ∧ x2h60 < strT.length ∧ (((nI (stb x2h60).length) ≤ x4h60 → wja_Wr_operation_114 mc ms Post a0 y_h60 s_h60 d_h60 e_h60) ∧ (¬ ((nI (stb x2h60).length) ≤ x4h60) → ((x3h60 < 0 → wja_Wr_operation_114 mc ms Post a0 y_h60 s_h60 d_h60 e_h60) ∧ (¬ (x3h60 < 0) → xH x2h60 x4h60 (fun x_9 : Int32 => ((¬ x_9 = 32 → ((¬ x3h60 = 0 → wja_Wr_operation_108 mc ms Post K_60 a0 y_h60 s_h60 d_h60 e_h60 x2h60 x3h60 x4h60) ∧ (x3h60 = 0 → xH x2h60 x4h60 (fun x_10 : Int32 => ∃ mc_16 ms_17 : Nat, (d_h60 + mc_16 ≤ mc ∧ e_h60 + ms_17 ≤ ms) ∧ wa_In_add mc_16 ms_17 y_h60 (fun (y_13 : Ly) (s_12 : St) (r_11 : Int32) (d_14 e_15 : Nat) => (d_h60 + d_14 ≤ mc ∧ e_h60 + e_15 ≤ ms) ∧ wja_Wr_operation_108 mc ms Post K_60 a0 y_13 s_12 (d_h60 + d_14) (e_h60 + e_15) x2h60 x3h60 x4h60) s_h60 (lk a0 0) x_10)))) ∧ (x_9 = 32 → wja_Wr_operation_108 mc ms Post K_60 a0 y_h60 s_h60 d_h60 e_h60 x2h60 (x3h60 + (-1)) x4h60)))))))
def wla_Wr_operation_60 (mc ms : Nat) (Post : Ly → St → Nat → Nat → Prop) (a0 : Nat) (y_h60 : Ly) (s_h60 : St) (d_h60 e_h60 : Nat) (x2h60 : Nat) (x3h60 : Int32) (x4h60 : Int32) : Prop := ∃ (I : Ly → St → Nat → Nat → Nat → Int32 → Int32 → Prop) (μ : Ly → St → Nat → Nat → Nat → Int32 → Int32 → Nat), I y_h60 s_h60 d_h60 e_h60 x2h60 x3h60 x4h60 ∧ ∀ (u1 : Ly) (u2 : St) (u3 u4 : Nat) (t0 : Nat) (t1 : Int32) (t2 : Int32), I u1 u2 u3 u4 t0 t1 t2 → wba_Wr_operation_60 mc ms Post (fun z1 z2 z3 z4 t0q t1q t2q => I z1 z2 z3 z4 t0q t1q t2q ∧ μ z1 z2 z3 z4 t0q t1q t2q < μ u1 u2 u3 u4 t0 t1 t2) a0 u1 u2 u3 u4 t0 t1 t2
def wja_Wr_operation_56 (mc ms : Nat) (Post : Ly → St → Nat → Nat → Prop) (a0 : Nat) (y_j56 : Ly) (s_j56 : St) (d_j56 e_j56 : Nat) (x2j56 : Nat) (z0j56 : Int32) : Prop := (d_j56 ≤ mc ∧ e_j56 ≤ ms) ∧ x2j56 < strT.length ∧ wla_Wr_operation_60 mc ms Post a0 y_j56 s_j56 d_j56 e_j56 x2j56 z0j56 0
def wja_Wr_operation_28 (mc ms : Nat) (Post : Ly → St → Nat → Nat → Prop) (a0 : Nat) (y_j28 : Ly) (s_j28 : St) (d_j28 e_j28 : Nat) (x1j28 : Int32) (z0j28 : Nat) : Prop := (d_j28 ≤ mc ∧ e_j28 ≤ ms) ∧ z0j28 < strT.length ∧ ((23 ≤ x1j28 → ((41 ≤ x1j28 → wja_Wr_operation_56 mc ms Post a0 y_j28 s_j28 d_j28 e_j28 z0j28 (x1j28 - 41)) ∧ (¬ (41 ≤ x1j28) → wja_Wr_operation_56 mc ms Post a0 y_j28 s_j28 d_j28 e_j28 z0j28 (x1j28 - 23)))) ∧ (¬ (23 ≤ x1j28) → wja_Wr_operation_56 mc ms Post a0 y_j28 s_j28 d_j28 e_j28 z0j28 x1j28))
def wa_Wr_operation (mc ms : Nat) (y : Ly) (Post : Ly → St → Nat → Nat → Prop) (σ : St) (a0 : Nat) (v1 : Int32) : Prop := ∃ mc_6 ms_7 : Nat, (0 + mc_6 ≤ mc ∧ 0 + ms_7 ≤ ms) ∧ wa_Wr_beforeWord mc_6 ms_7 y (fun (y_3 : Ly) (s_2 : St) (d_4 e_5 : Nat) => (0 + d_4 ≤ mc ∧ 0 + e_5 ≤ ms) ∧ ((23 ≤ v1 → ((41 ≤ v1 → wja_Wr_operation_28 mc ms Post a0 y_3 s_2 (0 + d_4) (0 + e_5) v1 15) ∧ (¬ (41 ≤ v1) → wja_Wr_operation_28 mc ms Post a0 y_3 s_2 (0 + d_4) (0 + e_5) v1 14))) ∧ (¬ (23 ≤ v1) → wja_Wr_operation_28 mc ms Post a0 y_3 s_2 (0 + d_4) (0 + e_5) v1 13))) σ a0
set_option maxHeartbeats 4000000 in
set_option maxRecDepth 100000 in
theorem ca_Wr_operation (l : Launch) (D : va_G) (g : Nat → ClassId) (F : Nat → SL) (sl : List SL) (hF : SOK F sl) (ad : Nat → Nat) (mc ms : Nat) (y : Ly) (Post : Ly → St → Nat → Nat → Prop) (σ : St) (a0 : Nat) (v1 : Int32) (sz uz : Nat) (h_a0 : cl a0 = 10) (h : wa_Wr_operation mc ms y Post σ a0 v1) : Met l y_Wr_operation (mw y_Wr_operation b_Wr_operation 5 (none)) (ra_Wr_operation mc ms) (PCu g D sl [.ref (ad a0), .int v1] sz uz (ws g ad y σ)) (va_Qv (fun (u : Ly × St × Nat × Nat) => Post u.1 u.2.1 u.2.2.1 u.2.2.2) (QU D (va_A (ws g ad y σ) sz) (fun u => ws g ad u.1 u.2.1) sz uz (fun u => u.2.2.1) (fun u => u.2.2.2)) (va_A (ws g ad y σ) sz)) mc ms (va_A (ws g ad y σ) sz) := by
  refine ofVu (by decide +kernel) (Nat.le_of_ble_eq_true rfl) ?_
  intro p e s m args below meth c A Q ls H locs G hsz hP hD hS hl hret
  subst hsz
  have hl : lv_has ls 5 [(0, .ref (ad a0)), (1, .int v1)] := hl
  have hd : 0 ≤ mc ∧ 0 ≤ ms := ⟨Nat.zero_le _, Nat.zero_le _⟩
  unfold wa_Wr_operation at h
  refine lv_aload_n G.1 G.2.1 d_Wr_operation_0 rfl (lv_at hl 0 rfl) ?_
  obtain ⟨mc_6, ms_7, hr_8, h⟩ := h
  refine uaVv (As := []) (rest := []) G hP hD hS (ca_Wr_beforeWord l D g ad mc_6 ms_7 y _ σ a0 H.size (us H) h_a0 h) w9_Wr_beforeWord q2168 ⟨Nat.le_of_ble_eq_true rfl, Nat.le_of_ble_eq_true rfl⟩ rfl rfl h_a0 (q := (RWr, TWr, 7)) rfl rfl hl.1 rfl (Nat.le_of_ble_eq_true rfl) rfl hr_8 d_Wr_operation_1 (fun y_3 s_2 d_4 e_5 H locs h hP hD hS => ?_)
  obtain ⟨hd, h⟩ := h
  refine lv_iload_n G.1 G.2.1 d_Wr_operation_4 rfl (lv_at hl 1 rfl) ?_
  refine lv_bipush (v := 23) G.1 G.2.1 d_Wr_operation_5 (by decide) ?_
  have J_28 : ∀ (y_j28 : Ly) (s_j28 : St) (d_j28 e_j28 : Nat) (x1j28 : Int32) (z0j28 : Nat) (H : Heap) (locs : List Loc), wja_Wr_operation_28 mc ms Post a0 y_j28 s_j28 d_j28 e_j28 x1j28 z0j28 → va_P D CL (ws g ad y_j28 s_j28) H → va_D A (ws g ad y_j28 s_j28) → va_S A s.heap H locs → ∀ ls, lv_has ls 5 [(0, .ref (ad a0)), (1, .int x1j28)] → W p l e (ra_Wr_operation mc ms) s m args below meth c H locs d_j28 e_j28 Q (F0 m 28 ls [.ref (sk (F z0j28))]) := by
    intro y_j28 s_j28 d_j28 e_j28 x1j28 z0j28 H locs h hP hD hS ls hl
    unfold wja_Wr_operation_28 at h
    obtain ⟨hd, h⟩ := h
    obtain ⟨c_z0j28, h⟩ := h
    refine lv_astore_n (lv' := [(2, .ref (sk (F z0j28))), (0, .ref (ad a0)), (1, .int x1j28)]) G.1 G.2.1 d_Wr_operation_28 rfl hl (by decide) rfl (fun ls hl => ?_)
    refine lv_iload_n G.1 G.2.1 d_Wr_operation_29 rfl (lv_at hl 2 rfl) ?_
    refine lv_bipush (v := 23) G.1 G.2.1 d_Wr_operation_30 (by decide) ?_
    have J_56 : ∀ (y_j56 : Ly) (s_j56 : St) (d_j56 e_j56 : Nat) (x2j56 : Nat) (z0j56 : Int32) (H : Heap) (locs : List Loc), wja_Wr_operation_56 mc ms Post a0 y_j56 s_j56 d_j56 e_j56 x2j56 z0j56 → va_P D CL (ws g ad y_j56 s_j56) H → va_D A (ws g ad y_j56 s_j56) → va_S A s.heap H locs → ∀ ls, lv_has ls 5 [(0, .ref (ad a0)), (2, .ref (sk (F x2j56)))] → W p l e (ra_Wr_operation mc ms) s m args below meth c H locs d_j56 e_j56 Q (F0 m 56 ls [.int z0j56]) := by
      intro y_j56 s_j56 d_j56 e_j56 x2j56 z0j56 H locs h hP hD hS ls hl
      unfold wja_Wr_operation_56 at h
      obtain ⟨hd, h⟩ := h
      obtain ⟨c_x2j56, h⟩ := h
      refine lv_istore_n (lv' := [(3, .int z0j56), (0, .ref (ad a0)), (2, .ref (sk (F x2j56)))]) G.1 G.2.1 d_Wr_operation_56 rfl hl (by decide) rfl (fun ls hl => ?_)
      refine lv_iconst (v := 0) G.1 G.2.1 d_Wr_operation_57 (by decide) ?_
      refine lv_istore (lv' := [(4, .int 0), (3, .int z0j56), (0, .ref (ad a0)), (2, .ref (sk (F x2j56)))]) G.1 G.2.1 d_Wr_operation_58 hl (by decide) rfl (fun ls hl => ?_)
      unfold wla_Wr_operation_60 at h
      obtain ⟨I_60, μ_60, hI_60, hB_60⟩ := h
      have L_60 : ∀ (n_60 : Nat) (y_h60 : Ly) (s_h60 : St) (d_h60 e_h60 : Nat) (x2h60 : Nat) (x3h60 : Int32) (x4h60 : Int32), μ_60 y_h60 s_h60 d_h60 e_h60 x2h60 x3h60 x4h60 < n_60 → I_60 y_h60 s_h60 d_h60 e_h60 x2h60 x3h60 x4h60 → ∀ (H : Heap) (locs : List Loc), va_P D CL (ws g ad y_h60 s_h60) H → va_D A (ws g ad y_h60 s_h60) → va_S A s.heap H locs → ∀ ls, lv_has ls 5 [(0, .ref (ad a0)), (2, .ref (sk (F x2h60))), (3, .int x3h60), (4, .int x4h60)] → W p l e (ra_Wr_operation mc ms) s m args below meth c H locs d_h60 e_h60 Q (F0 m 60 ls []) := by
        intro n_60
        induction n_60 with
        | zero => intro y_h60 s_h60 d_h60 e_h60 x2h60 x3h60 x4h60 hμ; exact absurd hμ (Nat.not_lt_zero _)
        | succ n_60 ih_60 =>
          intro y_h60 s_h60 d_h60 e_h60 x2h60 x3h60 x4h60 hμ_60 hJ H locs hP hD hS ls hl
          obtain ⟨K_60, hK_60, h⟩ : ∃ K : Ly → St → Nat → Nat → Nat → Int32 → Int32 → Prop, (∀ z1 z2 z3 z4 (t0 : Nat) (t1 : Int32) (t2 : Int32), K z1 z2 z3 z4 t0 t1 t2 → I_60 z1 z2 z3 z4 t0 t1 t2 ∧ μ_60 z1 z2 z3 z4 t0 t1 t2 < μ_60 y_h60 s_h60 d_h60 e_h60 x2h60 x3h60 x4h60) ∧ wba_Wr_operation_60 mc ms Post K a0 y_h60 s_h60 d_h60 e_h60 x2h60 x3h60 x4h60 := ⟨_, fun _ _ _ _ _ _ _ h => h, hB_60 y_h60 s_h60 d_h60 e_h60 x2h60 x3h60 x4h60 hJ⟩
          unfold wba_Wr_operation_60 at h
          obtain ⟨hd, h⟩ := h
          obtain ⟨c_x2h60, h⟩ := h
          refine lv_iload G.1 G.2.1 d_Wr_operation_60 (lv_at hl 3 rfl) ?_
          refine lv_aload_n G.1 G.2.1 d_Wr_operation_62 rfl (lv_at hl 1 rfl) ?_
          refine ulen hF c_x2h60 G hP hD hS w9_Js_length q2250 ⟨Nat.le_of_ble_eq_true rfl, Nat.le_of_ble_eq_true rfl⟩ hl.1 (Nat.le_of_ble_eq_true rfl) hd d_Wr_operation_63 (fun H locs hP hD hS => ?_)
          have J_114 : ∀ (y_j114 : Ly) (s_j114 : St) (d_j114 e_j114 : Nat) (H : Heap) (locs : List Loc), wja_Wr_operation_114 mc ms Post a0 y_j114 s_j114 d_j114 e_j114 → va_P D CL (ws g ad y_j114 s_j114) H → va_D A (ws g ad y_j114 s_j114) → va_S A s.heap H locs → ∀ ls, lv_has ls 5 [] → W p l e (ra_Wr_operation mc ms) s m args below meth c H locs d_j114 e_j114 Q (F0 m 114 ls []) := by
            intro y_j114 s_j114 d_j114 e_j114 H locs h hP hD hS ls hl
            unfold wja_Wr_operation_114 at h
            obtain ⟨hd, h⟩ := h
            exact hret (y_j114, s_j114, d_j114, e_j114) _ _ _ _ _ ls h hP hD hS (Nat.le_refl _) (Nat.le_refl _) hd.1 hd.2 d_Wr_operation_114
          refine lv_icmp_ge (tgt := 114) G.1 G.2.1 d_Wr_operation_66 (by decide) (fun c66 => ?_) (fun c66 => ?_)
          · skip
            have h := h.1 c66
            exact J_114 y_h60 s_h60 d_h60 e_h60 H locs h hP hD hS ls (lv_sub hl [] rfl)
          · skip
            have h := h.2 c66
            refine lv_iload_n G.1 G.2.1 d_Wr_operation_69 rfl (lv_at hl 2 rfl) ?_
            refine lv_if_lt (tgt := 114) G.1 G.2.1 d_Wr_operation_70 (by decide) (fun c70 => ?_) (fun c70 => ?_)
            · skip
              have h := h.1 c70
              exact J_114 y_h60 s_h60 d_h60 e_h60 H locs h hP hD hS ls (lv_sub hl [] rfl)
            · skip
              have h := h.2 c70
              refine lv_aload_n G.1 G.2.1 d_Wr_operation_73 rfl (lv_at hl 1 rfl) ?_
              refine lv_iload G.1 G.2.1 d_Wr_operation_74 (lv_at hl 3 rfl) ?_
              refine uchar hF c_x2h60 G hP hD hS h w9_Js_charAt q2222 ⟨Nat.le_of_ble_eq_true rfl, Nat.le_of_ble_eq_true rfl⟩ hl.1 (Nat.le_of_ble_eq_true rfl) hd d_Wr_operation_76 (fun x_9 H locs h hP hD hS => ?_)
              refine lv_bipush (v := 32) G.1 G.2.1 d_Wr_operation_79 (by decide) ?_
              have J_108 : ∀ (y_j108 : Ly) (s_j108 : St) (d_j108 e_j108 : Nat) (x2j108 : Nat) (x3j108 : Int32) (x4j108 : Int32) (H : Heap) (locs : List Loc), wja_Wr_operation_108 mc ms Post K_60 a0 y_j108 s_j108 d_j108 e_j108 x2j108 x3j108 x4j108 → va_P D CL (ws g ad y_j108 s_j108) H → va_D A (ws g ad y_j108 s_j108) → va_S A s.heap H locs → ∀ ls, lv_has ls 5 [(0, .ref (ad a0)), (2, .ref (sk (F x2j108))), (3, .int x3j108), (4, .int x4j108)] → W p l e (ra_Wr_operation mc ms) s m args below meth c H locs d_j108 e_j108 Q (F0 m 108 ls []) := by
                intro y_j108 s_j108 d_j108 e_j108 x2j108 x3j108 x4j108 H locs h hP hD hS ls hl
                unfold wja_Wr_operation_108 at h
                obtain ⟨hd, h⟩ := h
                obtain ⟨c_x2j108, h⟩ := h
                refine lv_iinc (v := x4j108 + 1) (lv' := [(4, .int (x4j108 + 1)), (0, .ref (ad a0)), (2, .ref (sk (F x2j108))), (3, .int x3j108)]) G.1 G.2.1 d_Wr_operation_108 hl (k := 3) rfl rfl (by decide) rfl (fun ls hl => ?_)
                refine lv_goto (tgt := 60) G.1 G.2.1 d_Wr_operation_111 (by decide) ?_
                have h := hK_60 y_j108 s_j108 d_j108 e_j108 x2j108 x3j108 (x4j108 + 1) h
                exact ih_60 y_j108 s_j108 d_j108 e_j108 x2j108 x3j108 (x4j108 + 1) (Nat.lt_of_lt_of_le h.2 (Nat.le_of_lt_succ hμ_60)) h.1 H locs hP hD hS ls (lv_sub hl [1, 2, 3, 0] rfl)
              refine lv_icmp_ne (tgt := 90) G.1 G.2.1 d_Wr_operation_81 (by decide) (fun c81 => ?_) (fun c81 => ?_)
              · skip
                have h := h.1 c81
                refine W.eq (g2 := F0 m 90 ls []) rfl ?_
                refine lv_iload_n G.1 G.2.1 d_Wr_operation_90 rfl (lv_at hl 2 rfl) ?_
                refine lv_if_ne (tgt := 108) G.1 G.2.1 d_Wr_operation_91 (by decide) (fun c91 => ?_) (fun c91 => ?_)
                · skip
                  have h := h.1 c91
                  exact J_108 y_h60 s_h60 d_h60 e_h60 x2h60 x3h60 x4h60 H locs h hP hD hS ls (lv_sub hl [0, 1, 2, 3] rfl)
                · skip
                  have h := h.2 c91
                  refine lv_aload_n G.1 G.2.1 d_Wr_operation_94 rfl (lv_at hl 0 rfl) ?_
                  refine ugf (v := .ref (ad (lk a0 0))) G hP h_a0 iWr rfl 0 (by decide) rfl q771 rfl rfl d_Wr_operation_95 ?_
                  refine lv_aload_n G.1 G.2.1 d_Wr_operation_98 rfl (lv_at hl 1 rfl) ?_
                  refine lv_iload G.1 G.2.1 d_Wr_operation_99 (lv_at hl 3 rfl) ?_
                  refine uchar hF c_x2h60 G hP hD hS h w9_Js_charAt q2222 ⟨Nat.le_of_ble_eq_true rfl, Nat.le_of_ble_eq_true rfl⟩ hl.1 (Nat.le_of_ble_eq_true rfl) hd d_Wr_operation_101 (fun x_10 H locs h hP hD hS => ?_)
                  obtain ⟨mc_16, ms_17, hr_18, h⟩ := h
                  refine uaVi (As := [.int x_10]) (rest := []) G hP hD hS (ca_In_add l D g [] ad mc_16 ms_17 y_h60 _ s_h60 (lk a0 0) x_10 H.size (us H) (lk_10_0 h_a0) h) w9_In_add q2159 ⟨Nat.le_of_ble_eq_true rfl, Nat.le_of_ble_eq_true rfl⟩ rfl rfl (lk_10_0 h_a0) (q := (RIn, TIn, 2)) rfl rfl hl.1 rfl (Nat.le_of_ble_eq_true rfl) rfl hr_18 d_Wr_operation_104 (fun r_11 y_13 s_12 d_14 e_15 H locs h hP hD hS => ?_)
                  obtain ⟨hd, h⟩ := h
                  refine lv_pop G.1 G.2.1 d_Wr_operation_107 rfl ?_
                  exact J_108 y_13 s_12 (d_h60 + d_14) (e_h60 + e_15) x2h60 x3h60 x4h60 H locs h hP hD hS ls (lv_sub hl [0, 1, 2, 3] rfl)
              · skip
                have h := h.2 c81
                refine W.eq (g2 := F0 m 84 ls []) rfl ?_
                refine lv_iinc (v := x3h60 + (-1)) (lv' := [(3, .int (x3h60 + (-1))), (0, .ref (ad a0)), (2, .ref (sk (F x2h60))), (4, .int x4h60)]) G.1 G.2.1 d_Wr_operation_84 hl (k := 2) rfl rfl (by decide) rfl (fun ls hl => ?_)
                refine lv_goto (tgt := 108) G.1 G.2.1 d_Wr_operation_87 (by decide) ?_
                exact J_108 y_h60 s_h60 d_h60 e_h60 x2h60 (x3h60 + (-1)) x4h60 H locs h hP hD hS ls (lv_sub hl [1, 2, 0, 3] rfl)
      exact L_60 _ y_j56 s_j56 d_j56 e_j56 x2j56 z0j56 0 (Nat.lt_succ_self _) hI_60 H locs hP hD hS ls (lv_sub hl [2, 3, 1, 0] rfl)
    refine lv_icmp_ge (tgt := 39) G.1 G.2.1 d_Wr_operation_32 (by decide) (fun c32 => ?_) (fun c32 => ?_)
    · skip
      have h := h.1 c32
      refine lv_iload_n G.1 G.2.1 d_Wr_operation_39 rfl (lv_at hl 2 rfl) ?_
      refine lv_bipush (v := 41) G.1 G.2.1 d_Wr_operation_40 (by decide) ?_
      refine lv_icmp_ge (tgt := 52) G.1 G.2.1 d_Wr_operation_42 (by decide) (fun c42 => ?_) (fun c42 => ?_)
      · skip
        have h := h.1 c42
        refine lv_iload_n G.1 G.2.1 d_Wr_operation_52 rfl (lv_at hl 2 rfl) ?_
        refine lv_bipush (v := 41) G.1 G.2.1 d_Wr_operation_53 (by decide) ?_
        refine lv_isub G.1 G.2.1 d_Wr_operation_55 ?_
        exact J_56 y_j28 s_j28 d_j28 e_j28 z0j28 (x1j28 - 41) H locs h hP hD hS ls (lv_sub hl [1, 0] rfl)
      · skip
        have h := h.2 c42
        refine lv_iload_n G.1 G.2.1 d_Wr_operation_45 rfl (lv_at hl 2 rfl) ?_
        refine lv_bipush (v := 23) G.1 G.2.1 d_Wr_operation_46 (by decide) ?_
        refine lv_isub G.1 G.2.1 d_Wr_operation_48 ?_
        refine lv_goto (tgt := 56) G.1 G.2.1 d_Wr_operation_49 (by decide) ?_
        exact J_56 y_j28 s_j28 d_j28 e_j28 z0j28 (x1j28 - 23) H locs h hP hD hS ls (lv_sub hl [1, 0] rfl)
    · skip
      have h := h.2 c32
      refine lv_iload_n G.1 G.2.1 d_Wr_operation_35 rfl (lv_at hl 2 rfl) ?_
      refine lv_goto (tgt := 56) G.1 G.2.1 d_Wr_operation_36 (by decide) ?_
      exact J_56 y_j28 s_j28 d_j28 e_j28 z0j28 x1j28 H locs h hP hD hS ls (lv_sub hl [1, 0] rfl)
  refine lv_icmp_ge (tgt := 15) G.1 G.2.1 d_Wr_operation_7 (by decide) (fun c7 => ?_) (fun c7 => ?_)
  · skip
    have h := h.1 c7
    refine lv_iload_n G.1 G.2.1 d_Wr_operation_15 rfl (lv_at hl 1 rfl) ?_
    refine lv_bipush (v := 41) G.1 G.2.1 d_Wr_operation_16 (by decide) ?_
    refine lv_icmp_ge (tgt := 26) G.1 G.2.1 d_Wr_operation_18 (by decide) (fun c18 => ?_) (fun c18 => ?_)
    · skip
      have h := h.1 c18
      refine uldc (n := 15) hF rfl G d_Wr_operation_26 ?_
      exact J_28 y_3 s_2 (0 + d_4) (0 + e_5) v1 15 H locs h hP hD hS ls (lv_sub hl [0, 1] rfl)
    · skip
      have h := h.2 c18
      refine uldc (n := 14) hF rfl G d_Wr_operation_21 ?_
      refine lv_goto (tgt := 28) G.1 G.2.1 d_Wr_operation_23 (by decide) ?_
      exact J_28 y_3 s_2 (0 + d_4) (0 + e_5) v1 14 H locs h hP hD hS ls (lv_sub hl [0, 1] rfl)
  · skip
    have h := h.2 c7
    refine uldc (n := 13) hF rfl G d_Wr_operation_10 ?_
    refine lv_goto (tgt := 28) G.1 G.2.1 d_Wr_operation_12 (by decide) ?_
    exact J_28 y_3 s_2 (0 + d_4) (0 + e_5) v1 13 H locs h hP hD hS ls (lv_sub hl [0, 1] rfl)
theorem q2239 : Cond.methodLink "ClassWorks$Writer" 120 y_Wr_label ∈ lw_ok := lw_okmem (List.mem_of_getElem? (i := 2239) (by decide +kernel)) rfl
theorem q2242 : Cond.code y_Wr_label b_Wr_label 2 (none) ∈ lw_ok := lw_okmem (List.mem_of_getElem? (i := 2242) (by decide +kernel)) rfl
theorem q2241 : Cond.instanceMethod y_Wr_label ∈ lw_ok := lw_okmem (List.mem_of_getElem? (i := 2241) (by decide +kernel)) rfl
theorem q136 : Cond.selects y_Wr_label.cls y_Wr_label y_Wr_label ∈ lw_ok := lw_okmem (List.mem_of_getElem? (i := 136) (by decide +kernel)) rfl
theorem w9_Wr_label : CWv y_Wr_label b_Wr_label 2 (none) 1 ∧ Cond.instanceMethod y_Wr_label ∈ lw_ok ∧ Cond.selects y_Wr_label.cls y_Wr_label y_Wr_label ∈ lw_ok := ⟨⟨q2242, q343, by decide +kernel, by decide +kernel, by decide +kernel⟩, q2241, q136⟩
def y_Wr_writePicks : MethodName := ⟨"ClassWorks$Writer", "writePicks", "(I)V"⟩
abbrev b_Wr_writePicks : ByteArray := prog_12_method_21_code
theorem d_Wr_writePicks_0 : decode b_Wr_writePicks 0 = .ok (.iconst 0, 1) := by decide +kernel
theorem d_Wr_writePicks_1 : decode b_Wr_writePicks 1 = .ok (.istore_n 2, 1) := by decide +kernel
theorem d_Wr_writePicks_2 : decode b_Wr_writePicks 2 = .ok (.iload_n 2, 1) := by decide +kernel
theorem d_Wr_writePicks_3 : decode b_Wr_writePicks 3 = .ok (.aload_n 0, 1) := by decide +kernel
theorem d_Wr_writePicks_4 : decode b_Wr_writePicks 4 = .ok (.iload_n 1, 1) := by decide +kernel
theorem d_Wr_writePicks_5 : decode b_Wr_writePicks 5 = .ok (.iconst 3, 1) := by decide +kernel
theorem d_Wr_writePicks_6 : decode b_Wr_writePicks 6 = .ok (.invokevirtual 158, 3) := by decide +kernel
theorem d_Wr_writePicks_9 : decode b_Wr_writePicks 9 = .ok (.if_icmp .ge 42, 3) := by decide +kernel
theorem d_Wr_writePicks_12 : decode b_Wr_writePicks 12 = .ok (.iload_n 2, 1) := by decide +kernel
theorem d_Wr_writePicks_13 : decode b_Wr_writePicks 13 = .ok (.ifCond .le 9, 3) := by decide +kernel
theorem d_Wr_writePicks_16 : decode b_Wr_writePicks 16 = .ok (.aload_n 0, 1) := by decide +kernel
theorem d_Wr_writePicks_17 : decode b_Wr_writePicks 17 = .ok (.bipush 44, 2) := by decide +kernel
theorem d_Wr_writePicks_19 : decode b_Wr_writePicks 19 = .ok (.invokevirtual 98, 3) := by decide +kernel
theorem d_Wr_writePicks_22 : decode b_Wr_writePicks 22 = .ok (.aload_n 0, 1) := by decide +kernel
theorem d_Wr_writePicks_23 : decode b_Wr_writePicks 23 = .ok (.aload_n 0, 1) := by decide +kernel
theorem d_Wr_writePicks_24 : decode b_Wr_writePicks 24 = .ok (.getfield 39, 3) := by decide +kernel
theorem d_Wr_writePicks_27 : decode b_Wr_writePicks 27 = .ok (.getfield 166, 3) := by decide +kernel
theorem d_Wr_writePicks_30 : decode b_Wr_writePicks 30 = .ok (.getfield 141, 3) := by decide +kernel
theorem d_Wr_writePicks_33 : decode b_Wr_writePicks 33 = .ok (.aload_n 0, 1) := by decide +kernel
theorem d_Wr_writePicks_34 : decode b_Wr_writePicks 34 = .ok (.iload_n 1, 1) := by decide +kernel
theorem d_Wr_writePicks_35 : decode b_Wr_writePicks 35 = .ok (.iconst 2, 1) := by decide +kernel
theorem d_Wr_writePicks_36 : decode b_Wr_writePicks 36 = .ok (.invokevirtual 158, 3) := by decide +kernel
theorem d_Wr_writePicks_39 : decode b_Wr_writePicks 39 = .ok (.iload_n 2, 1) := by decide +kernel
theorem d_Wr_writePicks_40 : decode b_Wr_writePicks 40 = .ok (.iadd, 1) := by decide +kernel
theorem d_Wr_writePicks_41 : decode b_Wr_writePicks 41 = .ok (.iaload, 1) := by decide +kernel
theorem d_Wr_writePicks_42 : decode b_Wr_writePicks 42 = .ok (.invokevirtual 120, 3) := by decide +kernel
theorem d_Wr_writePicks_45 : decode b_Wr_writePicks 45 = .ok (.iinc 2 1, 3) := by decide +kernel
theorem d_Wr_writePicks_48 : decode b_Wr_writePicks 48 = .ok (.goto (-46), 3) := by decide +kernel
theorem d_Wr_writePicks_51 : decode b_Wr_writePicks 51 = .ok (.return_, 1) := by decide +kernel
abbrev ra_Wr_writePicks (mc ms : Nat) : Room := { frames := 7, cells := mc, slots := ms, locals := 468 }
def wja_Wr_writePicks_22 (mc ms : Nat) (Post : Ly → St → Nat → Nat → Prop) (K_2 : Ly → St → Nat → Nat → Int32 → Int32 → Prop) (a0 : Nat) (y_j22 : Ly) (s_j22 : St) (d_j22 e_j22 : Nat) (x1j22 : Int32) (x2j22 : Int32) : Prop := (d_j22 ≤ mc ∧ e_j22 ≤ ms) ∧ ∃ b_3 : Nat, sO s_j22 a0 2 = some b_3 ∧ cl b_3 = 9 ∧ wu_Wr_code y_j22 (fun (s_7 : St) (r_6 : Int32) => xA y_j22 s_7 (lk b_3 12) 0 (r_6 + x2j22) (fun x_8 : Int32 => ∃ mc_14 ms_15 : Nat, (d_j22 + mc_14 ≤ mc ∧ e_j22 + ms_15 ≤ ms) ∧ wa_Wr_label mc_14 ms_15 y_j22 (fun (y_11 : Ly) (s_10 : St) (d_12 e_13 : Nat) => (d_j22 + d_12 ≤ mc ∧ e_j22 + e_13 ≤ ms) ∧ K_2 y_11 s_10 (d_j22 + d_12) (e_j22 + e_13) x1j22 (x2j22 + 1)) s_7 a0 x_8)) s_j22 a0 x1j22 2
def wba_Wr_writePicks_2 (mc ms : Nat) (Post : Ly → St → Nat → Nat → Prop) (K_2 : Ly → St → Nat → Nat → Int32 → Int32 → Prop) (a0 : Nat) (y_h2 : Ly) (s_h2 : St) (d_h2 e_h2 : Nat) (x1h2 : Int32) (x2h2 : Int32) : Prop := (d_h2 ≤ mc ∧ e_h2 ≤ ms) ∧ wu_Wr_code y_h2 (fun (s_2 : St) (r_1 : Int32) => ((r_1 ≤ x2h2 → Post y_h2 s_2 d_h2 e_h2) ∧ (¬ (r_1 ≤ x2h2) → ((x2h2 ≤ 0 → wja_Wr_writePicks_22 mc ms Post K_2 a0 y_h2 s_2 d_h2 e_h2 x1h2 x2h2) ∧ (¬ (x2h2 ≤ 0) → ∃ mc_22 ms_23 : Nat, (d_h2 + mc_22 ≤ mc ∧ e_h2 + ms_23 ≤ ms) ∧ wa_Wr_sign mc_22 ms_23 y_h2 (fun (y_19 : Ly) (s_18 : St) (d_20 e_21 : Nat) => (d_h2 + d_20 ≤ mc ∧ e_h2 + e_21 ≤ ms) ∧ wja_Wr_writePicks_22 mc ms Post K_2 a0 y_19 s_18 (d_h2 + d_20) (e_h2 + e_21) x1h2 x2h2) s_2 a0 44))))) s_h2 a0 x1h2 3
def wla_Wr_writePicks_2 (mc ms : Nat) (Post : Ly → St → Nat → Nat → Prop) (a0 : Nat) (y_h2 : Ly) (s_h2 : St) (d_h2 e_h2 : Nat) (x1h2 : Int32) (x2h2 : Int32) : Prop := ∃ (I : Ly → St → Nat → Nat → Int32 → Int32 → Prop) (μ : Ly → St → Nat → Nat → Int32 → Int32 → Nat), I y_h2 s_h2 d_h2 e_h2 x1h2 x2h2 ∧ ∀ (u1 : Ly) (u2 : St) (u3 u4 : Nat) (t0 : Int32) (t1 : Int32), I u1 u2 u3 u4 t0 t1 → wba_Wr_writePicks_2 mc ms Post (fun z1 z2 z3 z4 t0q t1q => I z1 z2 z3 z4 t0q t1q ∧ μ z1 z2 z3 z4 t0q t1q < μ u1 u2 u3 u4 t0 t1) a0 u1 u2 u3 u4 t0 t1
def wa_Wr_writePicks (mc ms : Nat) (y : Ly) (Post : Ly → St → Nat → Nat → Prop) (σ : St) (a0 : Nat) (v1 : Int32) : Prop := wla_Wr_writePicks_2 mc ms Post a0 y σ 0 0 v1 0
set_option maxHeartbeats 4000000 in
set_option maxRecDepth 100000 in
theorem ca_Wr_writePicks (l : Launch) (D : va_G) (g : Nat → ClassId) (ad : Nat → Nat) (mc ms : Nat) (y : Ly) (Post : Ly → St → Nat → Nat → Prop) (σ : St) (a0 : Nat) (v1 : Int32) (sz uz : Nat) (h_a0 : cl a0 = 10) (h : wa_Wr_writePicks mc ms y Post σ a0 v1) : Met l y_Wr_writePicks (mw y_Wr_writePicks b_Wr_writePicks 3 (none)) (ra_Wr_writePicks mc ms) (PCu g D [] [.ref (ad a0), .int v1] sz uz (ws g ad y σ)) (va_Qv (fun (u : Ly × St × Nat × Nat) => Post u.1 u.2.1 u.2.2.1 u.2.2.2) (QU D (va_A (ws g ad y σ) sz) (fun u => ws g ad u.1 u.2.1) sz uz (fun u => u.2.2.1) (fun u => u.2.2.2)) (va_A (ws g ad y σ) sz)) mc ms (va_A (ws g ad y σ) sz) := by
  refine ofVu (by decide +kernel) (Nat.le_of_ble_eq_true rfl) ?_
  intro p e s m args below meth c A Q ls H locs G hsz hP hD hS hl hret
  subst hsz
  have hl : lv_has ls 3 [(0, .ref (ad a0)), (1, .int v1)] := hl
  have hd : 0 ≤ mc ∧ 0 ≤ ms := ⟨Nat.zero_le _, Nat.zero_le _⟩
  unfold wa_Wr_writePicks at h
  refine lv_iconst (v := 0) G.1 G.2.1 d_Wr_writePicks_0 (by decide) ?_
  refine lv_istore_n (lv' := [(2, .int 0), (0, .ref (ad a0)), (1, .int v1)]) G.1 G.2.1 d_Wr_writePicks_1 rfl hl (by decide) rfl (fun ls hl => ?_)
  unfold wla_Wr_writePicks_2 at h
  obtain ⟨I_2, μ_2, hI_2, hB_2⟩ := h
  have L_2 : ∀ (n_2 : Nat) (y_h2 : Ly) (s_h2 : St) (d_h2 e_h2 : Nat) (x1h2 : Int32) (x2h2 : Int32), μ_2 y_h2 s_h2 d_h2 e_h2 x1h2 x2h2 < n_2 → I_2 y_h2 s_h2 d_h2 e_h2 x1h2 x2h2 → ∀ (H : Heap) (locs : List Loc), va_P D CL (ws g ad y_h2 s_h2) H → va_D A (ws g ad y_h2 s_h2) → va_S A s.heap H locs → ∀ ls, lv_has ls 3 [(0, .ref (ad a0)), (1, .int x1h2), (2, .int x2h2)] → W p l e (ra_Wr_writePicks mc ms) s m args below meth c H locs d_h2 e_h2 Q (F0 m 2 ls []) := by
    intro n_2
    induction n_2 with
    | zero => intro y_h2 s_h2 d_h2 e_h2 x1h2 x2h2 hμ; exact absurd hμ (Nat.not_lt_zero _)
    | succ n_2 ih_2 =>
      intro y_h2 s_h2 d_h2 e_h2 x1h2 x2h2 hμ_2 hJ H locs hP hD hS ls hl
      obtain ⟨K_2, hK_2, h⟩ : ∃ K : Ly → St → Nat → Nat → Int32 → Int32 → Prop, (∀ z1 z2 z3 z4 (t0 : Int32) (t1 : Int32), K z1 z2 z3 z4 t0 t1 → I_2 z1 z2 z3 z4 t0 t1 ∧ μ_2 z1 z2 z3 z4 t0 t1 < μ_2 y_h2 s_h2 d_h2 e_h2 x1h2 x2h2) ∧ wba_Wr_writePicks_2 mc ms Post K a0 y_h2 s_h2 d_h2 e_h2 x1h2 x2h2 := ⟨_, fun _ _ _ _ _ _ h => h, hB_2 y_h2 s_h2 d_h2 e_h2 x1h2 x2h2 hJ⟩
      unfold wba_Wr_writePicks_2 at h
      obtain ⟨hd, h⟩ := h
      refine lv_iload_n G.1 G.2.1 d_Wr_writePicks_2 rfl (lv_at hl 2 rfl) ?_
      refine lv_aload_n G.1 G.2.1 d_Wr_writePicks_3 rfl (lv_at hl 0 rfl) ?_
      refine lv_iload_n G.1 G.2.1 d_Wr_writePicks_4 rfl (lv_at hl 1 rfl) ?_
      refine lv_iconst (v := 3) G.1 G.2.1 d_Wr_writePicks_5 (by decide) ?_
      refine ucVi (As := [.int x1h2, .int 3]) (rest := [.int x2h2]) G hP hD hS (cu_Wr_code l D g ad y_h2 _ s_h2 a0 x1h2 3 H.size h_a0 h) w9_Wr_code q2217 ⟨Nat.le_of_ble_eq_true rfl, Nat.le_of_ble_eq_true rfl⟩ rfl rfl h_a0 (q := (RWr, TWr, 7)) rfl rfl hl.1 rfl (Nat.le_of_ble_eq_true rfl) rfl hd d_Wr_writePicks_6 (fun r_1 s_2 H locs h hP hD hS => ?_)
      refine lv_icmp_ge (tgt := 51) G.1 G.2.1 d_Wr_writePicks_9 (by decide) (fun c9 => ?_) (fun c9 => ?_)
      · skip
        have h := h.1 c9
        exact hret (y_h2, s_2, d_h2, e_h2) _ _ _ _ _ ls h hP hD hS (Nat.le_refl _) (Nat.le_refl _) hd.1 hd.2 d_Wr_writePicks_51
      · skip
        have h := h.2 c9
        refine lv_iload_n G.1 G.2.1 d_Wr_writePicks_12 rfl (lv_at hl 2 rfl) ?_
        have J_22 : ∀ (y_j22 : Ly) (s_j22 : St) (d_j22 e_j22 : Nat) (x1j22 : Int32) (x2j22 : Int32) (H : Heap) (locs : List Loc), wja_Wr_writePicks_22 mc ms Post K_2 a0 y_j22 s_j22 d_j22 e_j22 x1j22 x2j22 → va_P D CL (ws g ad y_j22 s_j22) H → va_D A (ws g ad y_j22 s_j22) → va_S A s.heap H locs → ∀ ls, lv_has ls 3 [(0, .ref (ad a0)), (1, .int x1j22), (2, .int x2j22)] → W p l e (ra_Wr_writePicks mc ms) s m args below meth c H locs d_j22 e_j22 Q (F0 m 22 ls []) := by
          intro y_j22 s_j22 d_j22 e_j22 x1j22 x2j22 H locs h hP hD hS ls hl
          unfold wja_Wr_writePicks_22 at h
          obtain ⟨hd, h⟩ := h
          refine lv_aload_n G.1 G.2.1 d_Wr_writePicks_22 rfl (lv_at hl 0 rfl) ?_
          refine lv_aload_n G.1 G.2.1 d_Wr_writePicks_23 rfl (lv_at hl 0 rfl) ?_
          obtain ⟨b_3, e_4, c_5, h⟩ := h
          refine ugf (v := .ref (ad b_3)) G hP h_a0 iWr rfl 2 (by decide) rfl q774 rfl (by show va_rf ((sO s_j22 a0 2).map ad) = _; rw [e_4]; rfl) d_Wr_writePicks_24 ?_
          refine ugf (v := .ref (ad (lk b_3 12))) G hP c_5 iWd rfl 12 (by decide) rfl q855 rfl rfl d_Wr_writePicks_27 ?_
          refine ugf (v := .ref (yP y_j22 (lk b_3 12) 0)) G hP (lk_9_12 c_5) iIn rfl 0 (by decide) rfl q386 rfl rfl d_Wr_writePicks_30 ?_
          refine lv_aload_n G.1 G.2.1 d_Wr_writePicks_33 rfl (lv_at hl 0 rfl) ?_
          refine lv_iload_n G.1 G.2.1 d_Wr_writePicks_34 rfl (lv_at hl 1 rfl) ?_
          refine lv_iconst (v := 2) G.1 G.2.1 d_Wr_writePicks_35 (by decide) ?_
          refine ucVi (As := [.int x1j22, .int 2]) (rest := [.ref (yP y_j22 (lk b_3 12) 0), .ref (ad a0)]) G hP hD hS (cu_Wr_code l D g ad y_j22 _ s_j22 a0 x1j22 2 H.size h_a0 h) w9_Wr_code q2217 ⟨Nat.le_of_ble_eq_true rfl, Nat.le_of_ble_eq_true rfl⟩ rfl rfl h_a0 (q := (RWr, TWr, 7)) rfl rfl hl.1 rfl (Nat.le_of_ble_eq_true rfl) rfl hd d_Wr_writePicks_36 (fun r_6 s_7 H locs h hP hD hS => ?_)
          refine lv_iload_n G.1 G.2.1 d_Wr_writePicks_39 rfl (lv_at hl 2 rfl) ?_
          refine lv_iadd G.1 G.2.1 d_Wr_writePicks_40 ?_
          refine W.eq (g2 := F0 m 41 ls [.int (r_6 + x2j22), .ref (yP y_j22 (lk b_3 12) 0), .ref (ad a0)]) rfl ?_
          refine uiald G hP (kdp (lk_9_12 c_5) rfl) (typ (lk_9_12 c_5) rfl) h d_Wr_writePicks_41 (fun x_8 h => ?_)
          obtain ⟨mc_14, ms_15, hr_16, h⟩ := h
          refine uaVv (As := [.int x_8]) (rest := []) G hP hD hS (ca_Wr_label l D g ad mc_14 ms_15 y_j22 _ s_7 a0 x_8 H.size (us H) h_a0 h) w9_Wr_label q2239 ⟨Nat.le_of_ble_eq_true rfl, Nat.le_of_ble_eq_true rfl⟩ rfl rfl h_a0 (q := (RWr, TWr, 7)) rfl rfl hl.1 rfl (Nat.le_of_ble_eq_true rfl) rfl hr_16 d_Wr_writePicks_42 (fun y_11 s_10 d_12 e_13 H locs h hP hD hS => ?_)
          obtain ⟨hd, h⟩ := h
          refine lv_iinc (v := x2j22 + 1) (lv' := [(2, .int (x2j22 + 1)), (0, .ref (ad a0)), (1, .int x1j22)]) G.1 G.2.1 d_Wr_writePicks_45 hl (k := 2) rfl rfl (by decide) rfl (fun ls hl => ?_)
          refine lv_goto (tgt := 2) G.1 G.2.1 d_Wr_writePicks_48 (by decide) ?_
          have h := hK_2 y_11 s_10 (d_j22 + d_12) (e_j22 + e_13) x1j22 (x2j22 + 1) h
          exact ih_2 y_11 s_10 (d_j22 + d_12) (e_j22 + e_13) x1j22 (x2j22 + 1) (Nat.lt_of_lt_of_le h.2 (Nat.le_of_lt_succ hμ_2)) h.1 H locs hP hD hS ls (lv_sub hl [1, 2, 0] rfl)
        refine lv_if_le (tgt := 22) G.1 G.2.1 d_Wr_writePicks_13 (by decide) (fun c13 => ?_) (fun c13 => ?_)
        · skip
          have h := h.1 c13
          exact J_22 y_h2 s_2 d_h2 e_h2 x1h2 x2h2 H locs h hP hD hS ls (lv_sub hl [0, 1, 2] rfl)
        · skip
          have h := h.2 c13
          refine lv_aload_n G.1 G.2.1 d_Wr_writePicks_16 rfl (lv_at hl 0 rfl) ?_
          refine lv_bipush (v := 44) G.1 G.2.1 d_Wr_writePicks_17 (by decide) ?_
          obtain ⟨mc_22, ms_23, hr_24, h⟩ := h
          refine uaVv (As := [.int 44]) (rest := []) G hP hD hS (ca_Wr_sign l D g ad mc_22 ms_23 y_h2 _ s_2 a0 44 H.size (us H) h_a0 h) w9_Wr_sign q2174 ⟨Nat.le_of_ble_eq_true rfl, Nat.le_of_ble_eq_true rfl⟩ rfl rfl h_a0 (q := (RWr, TWr, 7)) rfl rfl hl.1 rfl (Nat.le_of_ble_eq_true rfl) rfl hr_24 d_Wr_writePicks_19 (fun y_19 s_18 d_20 e_21 H locs h hP hD hS => ?_)
          obtain ⟨hd, h⟩ := h
          exact J_22 y_19 s_18 (d_h2 + d_20) (e_h2 + e_21) x1h2 x2h2 H locs h hP hD hS ls (lv_sub hl [0, 1, 2] rfl)
  exact L_2 _ y σ 0 0 v1 0 (Nat.lt_succ_self _) hI_2 H locs hP hD hS ls (lv_sub hl [1, 2, 0] rfl)
theorem q2243 : Cond.methodLink "ClassWorks$Writer" 175 y_Wr_operation ∈ lw_ok := lw_okmem (List.mem_of_getElem? (i := 2243) (by decide +kernel)) rfl
theorem q2246 : Cond.code y_Wr_operation b_Wr_operation 5 (none) ∈ lw_ok := lw_okmem (List.mem_of_getElem? (i := 2246) (by decide +kernel)) rfl
theorem q2245 : Cond.instanceMethod y_Wr_operation ∈ lw_ok := lw_okmem (List.mem_of_getElem? (i := 2245) (by decide +kernel)) rfl
theorem q137 : Cond.selects y_Wr_operation.cls y_Wr_operation y_Wr_operation ∈ lw_ok := lw_okmem (List.mem_of_getElem? (i := 137) (by decide +kernel)) rfl
theorem w9_Wr_operation : CWv y_Wr_operation b_Wr_operation 5 (none) 1 ∧ Cond.instanceMethod y_Wr_operation ∈ lw_ok ∧ Cond.selects y_Wr_operation.cls y_Wr_operation y_Wr_operation ∈ lw_ok := ⟨⟨q2246, q343, by decide +kernel, by decide +kernel, by decide +kernel⟩, q2245, q137⟩
theorem q2203 : Cond.methodLink "ClassWorks$Writer" 111 y_Wr_writeSign ∈ lw_ok := lw_okmem (List.mem_of_getElem? (i := 2203) (by decide +kernel)) rfl
theorem q2206 : Cond.code y_Wr_writeSign b_Wr_writeSign 3 (none) ∈ lw_ok := lw_okmem (List.mem_of_getElem? (i := 2206) (by decide +kernel)) rfl
theorem q2205 : Cond.instanceMethod y_Wr_writeSign ∈ lw_ok := lw_okmem (List.mem_of_getElem? (i := 2205) (by decide +kernel)) rfl
theorem q129 : Cond.selects y_Wr_writeSign.cls y_Wr_writeSign y_Wr_writeSign ∈ lw_ok := lw_okmem (List.mem_of_getElem? (i := 129) (by decide +kernel)) rfl
theorem w9_Wr_writeSign : CWv y_Wr_writeSign b_Wr_writeSign 3 (none) 1 ∧ Cond.instanceMethod y_Wr_writeSign ∈ lw_ok ∧ Cond.selects y_Wr_writeSign.cls y_Wr_writeSign y_Wr_writeSign ∈ lw_ok := ⟨⟨q2206, q343, by decide +kernel, by decide +kernel, by decide +kernel⟩, q2205, q129⟩
theorem q2251 : Cond.methodLink "ClassWorks$Writer" 178 y_Wr_writePicks ∈ lw_ok := lw_okmem (List.mem_of_getElem? (i := 2251) (by decide +kernel)) rfl
theorem q2254 : Cond.code y_Wr_writePicks b_Wr_writePicks 3 (none) ∈ lw_ok := lw_okmem (List.mem_of_getElem? (i := 2254) (by decide +kernel)) rfl
theorem q2253 : Cond.instanceMethod y_Wr_writePicks ∈ lw_ok := lw_okmem (List.mem_of_getElem? (i := 2253) (by decide +kernel)) rfl
theorem q138 : Cond.selects y_Wr_writePicks.cls y_Wr_writePicks y_Wr_writePicks ∈ lw_ok := lw_okmem (List.mem_of_getElem? (i := 138) (by decide +kernel)) rfl
theorem w9_Wr_writePicks : CWv y_Wr_writePicks b_Wr_writePicks 3 (none) 1 ∧ Cond.instanceMethod y_Wr_writePicks ∈ lw_ok ∧ Cond.selects y_Wr_writePicks.cls y_Wr_writePicks y_Wr_writePicks ∈ lw_ok := ⟨⟨q2254, q343, by decide +kernel, by decide +kernel, by decide +kernel⟩, q2253, q138⟩
theorem q2231 : Cond.methodLink "ClassWorks$Writer" 172 y_Wr_writeFrame ∈ lw_ok := lw_okmem (List.mem_of_getElem? (i := 2231) (by decide +kernel)) rfl
theorem q2234 : Cond.code y_Wr_writeFrame b_Wr_writeFrame 3 (none) ∈ lw_ok := lw_okmem (List.mem_of_getElem? (i := 2234) (by decide +kernel)) rfl
theorem q2233 : Cond.instanceMethod y_Wr_writeFrame ∈ lw_ok := lw_okmem (List.mem_of_getElem? (i := 2233) (by decide +kernel)) rfl
theorem q134 : Cond.selects y_Wr_writeFrame.cls y_Wr_writeFrame y_Wr_writeFrame ∈ lw_ok := lw_okmem (List.mem_of_getElem? (i := 134) (by decide +kernel)) rfl
theorem w9_Wr_writeFrame : CWv y_Wr_writeFrame b_Wr_writeFrame 3 (none) 1 ∧ Cond.instanceMethod y_Wr_writeFrame ∈ lw_ok ∧ Cond.selects y_Wr_writeFrame.cls y_Wr_writeFrame y_Wr_writeFrame ∈ lw_ok := ⟨⟨q2234, q343, by decide +kernel, by decide +kernel, by decide +kernel⟩, q2233, q134⟩
def y_Wr_writeCode : MethodName := ⟨"ClassWorks$Writer", "writeCode", "(I)V"⟩
abbrev b_Wr_writeCode : ByteArray := prog_12_method_19_code
theorem d_Wr_writeCode_0 : decode b_Wr_writeCode 0 = .ok (.aload_n 0, 1) := by decide +kernel
theorem d_Wr_writeCode_1 : decode b_Wr_writeCode 1 = .ok (.iload_n 1, 1) := by decide +kernel
theorem d_Wr_writeCode_2 : decode b_Wr_writeCode 2 = .ok (.iconst 4, 1) := by decide +kernel
theorem d_Wr_writeCode_3 : decode b_Wr_writeCode 3 = .ok (.invokevirtual 158, 3) := by decide +kernel
theorem d_Wr_writeCode_6 : decode b_Wr_writeCode 6 = .ok (.ifCond .lt 13, 3) := by decide +kernel
theorem d_Wr_writeCode_9 : decode b_Wr_writeCode 9 = .ok (.aload_n 0, 1) := by decide +kernel
theorem d_Wr_writeCode_10 : decode b_Wr_writeCode 10 = .ok (.aload_n 0, 1) := by decide +kernel
theorem d_Wr_writeCode_11 : decode b_Wr_writeCode 11 = .ok (.iload_n 1, 1) := by decide +kernel
theorem d_Wr_writeCode_12 : decode b_Wr_writeCode 12 = .ok (.iconst 4, 1) := by decide +kernel
theorem d_Wr_writeCode_13 : decode b_Wr_writeCode 13 = .ok (.invokevirtual 158, 3) := by decide +kernel
theorem d_Wr_writeCode_16 : decode b_Wr_writeCode 16 = .ok (.invokevirtual 172, 3) := by decide +kernel
theorem d_Wr_writeCode_19 : decode b_Wr_writeCode 19 = .ok (.aload_n 0, 1) := by decide +kernel
theorem d_Wr_writeCode_20 : decode b_Wr_writeCode 20 = .ok (.iconst 2, 1) := by decide +kernel
theorem d_Wr_writeCode_21 : decode b_Wr_writeCode 21 = .ok (.invokevirtual 61, 3) := by decide +kernel
theorem d_Wr_writeCode_24 : decode b_Wr_writeCode 24 = .ok (.aload_n 0, 1) := by decide +kernel
theorem d_Wr_writeCode_25 : decode b_Wr_writeCode 25 = .ok (.getfield 31, 3) := by decide +kernel
theorem d_Wr_writeCode_28 : decode b_Wr_writeCode 28 = .ok (.iload_n 1, 1) := by decide +kernel
theorem d_Wr_writeCode_29 : decode b_Wr_writeCode 29 = .ok (.iaload, 1) := by decide +kernel
theorem d_Wr_writeCode_30 : decode b_Wr_writeCode 30 = .ok (.ifCond .lt 14, 3) := by decide +kernel
theorem d_Wr_writeCode_33 : decode b_Wr_writeCode 33 = .ok (.aload_n 0, 1) := by decide +kernel
theorem d_Wr_writeCode_34 : decode b_Wr_writeCode 34 = .ok (.iload_n 1, 1) := by decide +kernel
theorem d_Wr_writeCode_35 : decode b_Wr_writeCode 35 = .ok (.invokevirtual 120, 3) := by decide +kernel
theorem d_Wr_writeCode_38 : decode b_Wr_writeCode 38 = .ok (.aload_n 0, 1) := by decide +kernel
theorem d_Wr_writeCode_39 : decode b_Wr_writeCode 39 = .ok (.bipush 58, 2) := by decide +kernel
theorem d_Wr_writeCode_41 : decode b_Wr_writeCode 41 = .ok (.invokevirtual 98, 3) := by decide +kernel
theorem d_Wr_writeCode_44 : decode b_Wr_writeCode 44 = .ok (.aload_n 0, 1) := by decide +kernel
theorem d_Wr_writeCode_45 : decode b_Wr_writeCode 45 = .ok (.iload_n 1, 1) := by decide +kernel
theorem d_Wr_writeCode_46 : decode b_Wr_writeCode 46 = .ok (.iconst 0, 1) := by decide +kernel
theorem d_Wr_writeCode_47 : decode b_Wr_writeCode 47 = .ok (.invokevirtual 158, 3) := by decide +kernel
theorem d_Wr_writeCode_50 : decode b_Wr_writeCode 50 = .ok (.istore_n 2, 1) := by decide +kernel
theorem d_Wr_writeCode_51 : decode b_Wr_writeCode 51 = .ok (.aload_n 0, 1) := by decide +kernel
theorem d_Wr_writeCode_52 : decode b_Wr_writeCode 52 = .ok (.iload_n 2, 1) := by decide +kernel
theorem d_Wr_writeCode_53 : decode b_Wr_writeCode 53 = .ok (.invokevirtual 175, 3) := by decide +kernel
theorem d_Wr_writeCode_56 : decode b_Wr_writeCode 56 = .ok (.ldc 156, 2) := by decide +kernel
theorem d_Wr_writeCode_58 : decode b_Wr_writeCode 58 = .ok (.iload_n 2, 1) := by decide +kernel
theorem d_Wr_writeCode_59 : decode b_Wr_writeCode 59 = .ok (.invokevirtual 160, 3) := by decide +kernel
theorem d_Wr_writeCode_62 : decode b_Wr_writeCode 62 = .ok (.istore_n 3, 1) := by decide +kernel
theorem d_Wr_writeCode_63 : decode b_Wr_writeCode 63 = .ok (.iload_n 3, 1) := by decide +kernel
theorem d_Wr_writeCode_64 : decode b_Wr_writeCode 64 = .ok (.bipush 76, 2) := by decide +kernel
theorem d_Wr_writeCode_66 : decode b_Wr_writeCode 66 = .ok (.if_icmp .ne 16, 3) := by decide +kernel
theorem d_Wr_writeCode_69 : decode b_Wr_writeCode 69 = .ok (.aload_n 0, 1) := by decide +kernel
theorem d_Wr_writeCode_70 : decode b_Wr_writeCode 70 = .ok (.aload_n 0, 1) := by decide +kernel
theorem d_Wr_writeCode_71 : decode b_Wr_writeCode 71 = .ok (.iload_n 1, 1) := by decide +kernel
theorem d_Wr_writeCode_72 : decode b_Wr_writeCode 72 = .ok (.iconst 1, 1) := by decide +kernel
theorem d_Wr_writeCode_73 : decode b_Wr_writeCode 73 = .ok (.invokevirtual 158, 3) := by decide +kernel
theorem d_Wr_writeCode_76 : decode b_Wr_writeCode 76 = .ok (.invokevirtual 120, 3) := by decide +kernel
theorem d_Wr_writeCode_79 : decode b_Wr_writeCode 79 = .ok (.goto 56, 3) := by decide +kernel
theorem d_Wr_writeCode_82 : decode b_Wr_writeCode 82 = .ok (.iload_n 3, 1) := by decide +kernel
theorem d_Wr_writeCode_83 : decode b_Wr_writeCode 83 = .ok (.bipush 105, 2) := by decide +kernel
theorem d_Wr_writeCode_85 : decode b_Wr_writeCode 85 = .ok (.if_icmp .eq 21, 3) := by decide +kernel
theorem d_Wr_writeCode_88 : decode b_Wr_writeCode 88 = .ok (.iload_n 3, 1) := by decide +kernel
theorem d_Wr_writeCode_89 : decode b_Wr_writeCode 89 = .ok (.bipush 106, 2) := by decide +kernel
theorem d_Wr_writeCode_91 : decode b_Wr_writeCode 91 = .ok (.if_icmp .eq 15, 3) := by decide +kernel
theorem d_Wr_writeCode_94 : decode b_Wr_writeCode 94 = .ok (.iload_n 3, 1) := by decide +kernel
theorem d_Wr_writeCode_95 : decode b_Wr_writeCode 95 = .ok (.bipush 107, 2) := by decide +kernel
theorem d_Wr_writeCode_97 : decode b_Wr_writeCode 97 = .ok (.if_icmp .eq 9, 3) := by decide +kernel
theorem d_Wr_writeCode_100 : decode b_Wr_writeCode 100 = .ok (.iload_n 3, 1) := by decide +kernel
theorem d_Wr_writeCode_101 : decode b_Wr_writeCode 101 = .ok (.bipush 80, 2) := by decide +kernel
theorem d_Wr_writeCode_103 : decode b_Wr_writeCode 103 = .ok (.if_icmp .ne 16, 3) := by decide +kernel
theorem d_Wr_writeCode_106 : decode b_Wr_writeCode 106 = .ok (.aload_n 0, 1) := by decide +kernel
theorem d_Wr_writeCode_107 : decode b_Wr_writeCode 107 = .ok (.aload_n 0, 1) := by decide +kernel
theorem d_Wr_writeCode_108 : decode b_Wr_writeCode 108 = .ok (.iload_n 1, 1) := by decide +kernel
theorem d_Wr_writeCode_109 : decode b_Wr_writeCode 109 = .ok (.iconst 1, 1) := by decide +kernel
theorem d_Wr_writeCode_110 : decode b_Wr_writeCode 110 = .ok (.invokevirtual 158, 3) := by decide +kernel
theorem d_Wr_writeCode_113 : decode b_Wr_writeCode 113 = .ok (.invokevirtual 106, 3) := by decide +kernel
theorem d_Wr_writeCode_116 : decode b_Wr_writeCode 116 = .ok (.goto 19, 3) := by decide +kernel
theorem d_Wr_writeCode_119 : decode b_Wr_writeCode 119 = .ok (.iload_n 3, 1) := by decide +kernel
theorem d_Wr_writeCode_120 : decode b_Wr_writeCode 120 = .ok (.bipush 45, 2) := by decide +kernel
theorem d_Wr_writeCode_122 : decode b_Wr_writeCode 122 = .ok (.if_icmp .eq 13, 3) := by decide +kernel
theorem d_Wr_writeCode_125 : decode b_Wr_writeCode 125 = .ok (.aload_n 0, 1) := by decide +kernel
theorem d_Wr_writeCode_126 : decode b_Wr_writeCode 126 = .ok (.aload_n 0, 1) := by decide +kernel
theorem d_Wr_writeCode_127 : decode b_Wr_writeCode 127 = .ok (.iload_n 1, 1) := by decide +kernel
theorem d_Wr_writeCode_128 : decode b_Wr_writeCode 128 = .ok (.iconst 1, 1) := by decide +kernel
theorem d_Wr_writeCode_129 : decode b_Wr_writeCode 129 = .ok (.invokevirtual 158, 3) := by decide +kernel
theorem d_Wr_writeCode_132 : decode b_Wr_writeCode 132 = .ok (.invokevirtual 64, 3) := by decide +kernel
theorem d_Wr_writeCode_135 : decode b_Wr_writeCode 135 = .ok (.iload_n 3, 1) := by decide +kernel
theorem d_Wr_writeCode_136 : decode b_Wr_writeCode 136 = .ok (.bipush 106, 2) := by decide +kernel
theorem d_Wr_writeCode_138 : decode b_Wr_writeCode 138 = .ok (.if_icmp .ne 16, 3) := by decide +kernel
theorem d_Wr_writeCode_141 : decode b_Wr_writeCode 141 = .ok (.aload_n 0, 1) := by decide +kernel
theorem d_Wr_writeCode_142 : decode b_Wr_writeCode 142 = .ok (.aload_n 0, 1) := by decide +kernel
theorem d_Wr_writeCode_143 : decode b_Wr_writeCode 143 = .ok (.iload_n 1, 1) := by decide +kernel
theorem d_Wr_writeCode_144 : decode b_Wr_writeCode 144 = .ok (.iconst 2, 1) := by decide +kernel
theorem d_Wr_writeCode_145 : decode b_Wr_writeCode 145 = .ok (.invokevirtual 158, 3) := by decide +kernel
theorem d_Wr_writeCode_148 : decode b_Wr_writeCode 148 = .ok (.invokevirtual 106, 3) := by decide +kernel
theorem d_Wr_writeCode_151 : decode b_Wr_writeCode 151 = .ok (.goto 74, 3) := by decide +kernel
theorem d_Wr_writeCode_154 : decode b_Wr_writeCode 154 = .ok (.iload_n 3, 1) := by decide +kernel
theorem d_Wr_writeCode_155 : decode b_Wr_writeCode 155 = .ok (.bipush 80, 2) := by decide +kernel
theorem d_Wr_writeCode_157 : decode b_Wr_writeCode 157 = .ok (.if_icmp .ne 11, 3) := by decide +kernel
theorem d_Wr_writeCode_160 : decode b_Wr_writeCode 160 = .ok (.aload_n 0, 1) := by decide +kernel
theorem d_Wr_writeCode_161 : decode b_Wr_writeCode 161 = .ok (.iload_n 1, 1) := by decide +kernel
theorem d_Wr_writeCode_162 : decode b_Wr_writeCode 162 = .ok (.invokevirtual 178, 3) := by decide +kernel
theorem d_Wr_writeCode_165 : decode b_Wr_writeCode 165 = .ok (.goto 60, 3) := by decide +kernel
theorem d_Wr_writeCode_168 : decode b_Wr_writeCode 168 = .ok (.iload_n 3, 1) := by decide +kernel
theorem d_Wr_writeCode_169 : decode b_Wr_writeCode 169 = .ok (.bipush 70, 2) := by decide +kernel
theorem d_Wr_writeCode_171 : decode b_Wr_writeCode 171 = .ok (.if_icmp .ne 32, 3) := by decide +kernel
theorem d_Wr_writeCode_174 : decode b_Wr_writeCode 174 = .ok (.aload_n 0, 1) := by decide +kernel
theorem d_Wr_writeCode_175 : decode b_Wr_writeCode 175 = .ok (.bipush 46, 2) := by decide +kernel
theorem d_Wr_writeCode_177 : decode b_Wr_writeCode 177 = .ok (.invokevirtual 98, 3) := by decide +kernel
theorem d_Wr_writeCode_180 : decode b_Wr_writeCode 180 = .ok (.aload_n 0, 1) := by decide +kernel
theorem d_Wr_writeCode_181 : decode b_Wr_writeCode 181 = .ok (.aload_n 0, 1) := by decide +kernel
theorem d_Wr_writeCode_182 : decode b_Wr_writeCode 182 = .ok (.iload_n 1, 1) := by decide +kernel
theorem d_Wr_writeCode_183 : decode b_Wr_writeCode 183 = .ok (.iconst 2, 1) := by decide +kernel
theorem d_Wr_writeCode_184 : decode b_Wr_writeCode 184 = .ok (.invokevirtual 158, 3) := by decide +kernel
theorem d_Wr_writeCode_187 : decode b_Wr_writeCode 187 = .ok (.invokevirtual 64, 3) := by decide +kernel
theorem d_Wr_writeCode_190 : decode b_Wr_writeCode 190 = .ok (.aload_n 0, 1) := by decide +kernel
theorem d_Wr_writeCode_191 : decode b_Wr_writeCode 191 = .ok (.aload_n 0, 1) := by decide +kernel
theorem d_Wr_writeCode_192 : decode b_Wr_writeCode 192 = .ok (.iload_n 1, 1) := by decide +kernel
theorem d_Wr_writeCode_193 : decode b_Wr_writeCode 193 = .ok (.iconst 3, 1) := by decide +kernel
theorem d_Wr_writeCode_194 : decode b_Wr_writeCode 194 = .ok (.invokevirtual 158, 3) := by decide +kernel
theorem d_Wr_writeCode_197 : decode b_Wr_writeCode 197 = .ok (.invokevirtual 64, 3) := by decide +kernel
theorem d_Wr_writeCode_200 : decode b_Wr_writeCode 200 = .ok (.goto 25, 3) := by decide +kernel
theorem d_Wr_writeCode_203 : decode b_Wr_writeCode 203 = .ok (.iload_n 3, 1) := by decide +kernel
theorem d_Wr_writeCode_204 : decode b_Wr_writeCode 204 = .ok (.bipush 77, 2) := by decide +kernel
theorem d_Wr_writeCode_206 : decode b_Wr_writeCode 206 = .ok (.if_icmp .ne 19, 3) := by decide +kernel
theorem d_Wr_writeCode_209 : decode b_Wr_writeCode 209 = .ok (.aload_n 0, 1) := by decide +kernel
theorem d_Wr_writeCode_210 : decode b_Wr_writeCode 210 = .ok (.bipush 46, 2) := by decide +kernel
theorem d_Wr_writeCode_212 : decode b_Wr_writeCode 212 = .ok (.invokevirtual 98, 3) := by decide +kernel
theorem d_Wr_writeCode_215 : decode b_Wr_writeCode 215 = .ok (.aload_n 0, 1) := by decide +kernel
theorem d_Wr_writeCode_216 : decode b_Wr_writeCode 216 = .ok (.aload_n 0, 1) := by decide +kernel
theorem d_Wr_writeCode_217 : decode b_Wr_writeCode 217 = .ok (.iload_n 1, 1) := by decide +kernel
theorem d_Wr_writeCode_218 : decode b_Wr_writeCode 218 = .ok (.iconst 2, 1) := by decide +kernel
theorem d_Wr_writeCode_219 : decode b_Wr_writeCode 219 = .ok (.invokevirtual 158, 3) := by decide +kernel
theorem d_Wr_writeCode_222 : decode b_Wr_writeCode 222 = .ok (.invokevirtual 111, 3) := by decide +kernel
theorem d_Wr_writeCode_225 : decode b_Wr_writeCode 225 = .ok (.aload_n 0, 1) := by decide +kernel
theorem d_Wr_writeCode_226 : decode b_Wr_writeCode 226 = .ok (.invokevirtual 67, 3) := by decide +kernel
theorem d_Wr_writeCode_229 : decode b_Wr_writeCode 229 = .ok (.return_, 1) := by decide +kernel
abbrev ra_Wr_writeCode (mc ms : Nat) : Room := { frames := 9, cells := mc, slots := ms, locals := 508 }
def wja_Wr_writeCode_225 (mc ms : Nat) (Post : Ly → St → Nat → Nat → Prop) (a0 : Nat) (y_j225 : Ly) (s_j225 : St) (d_j225 e_j225 : Nat) : Prop := (d_j225 ≤ mc ∧ e_j225 ≤ ms) ∧ ∃ mc_28 ms_29 : Nat, (d_j225 + mc_28 ≤ mc ∧ e_j225 + ms_29 ≤ ms) ∧ wa_Wr_endLine mc_28 ms_29 y_j225 (fun (y_25 : Ly) (s_24 : St) (d_26 e_27 : Nat) => (d_j225 + d_26 ≤ mc ∧ e_j225 + e_27 ≤ ms) ∧ Post y_25 s_24 (d_j225 + d_26) (e_j225 + e_27)) s_j225 a0
def wja_Wr_writeCode_135 (mc ms : Nat) (Post : Ly → St → Nat → Nat → Prop) (a0 : Nat) (y_j135 : Ly) (s_j135 : St) (d_j135 e_j135 : Nat) (x1j135 : Int32) (x3j135 : Int32) : Prop := (d_j135 ≤ mc ∧ e_j135 ≤ ms) ∧ ((¬ x3j135 = 106 → ((¬ x3j135 = 80 → ((¬ x3j135 = 70 → ((¬ x3j135 = 77 → wja_Wr_writeCode_225 mc ms Post a0 y_j135 s_j135 d_j135 e_j135) ∧ (x3j135 = 77 → ∃ mc_36 ms_37 : Nat, (d_j135 + mc_36 ≤ mc ∧ e_j135 + ms_37 ≤ ms) ∧ wa_Wr_sign mc_36 ms_37 y_j135 (fun (y_33 : Ly) (s_32 : St) (d_34 e_35 : Nat) => (d_j135 + d_34 ≤ mc ∧ e_j135 + e_35 ≤ ms) ∧ wu_Wr_code y_33 (fun (s_40 : St) (r_39 : Int32) => ∃ mc_46 ms_47 : Nat, (d_j135 + d_34 + mc_46 ≤ mc ∧ e_j135 + e_35 + ms_47 ≤ ms) ∧ wa_Wr_writeSign mc_46 ms_47 y_33 (fun (y_43 : Ly) (s_42 : St) (d_44 e_45 : Nat) => (d_j135 + d_34 + d_44 ≤ mc ∧ e_j135 + e_35 + e_45 ≤ ms) ∧ wja_Wr_writeCode_225 mc ms Post a0 y_43 s_42 (d_j135 + d_34 + d_44) (e_j135 + e_35 + e_45)) s_40 a0 r_39) s_32 a0 x1j135 2) s_j135 a0 46))) ∧ (x3j135 = 70 → ∃ mc_54 ms_55 : Nat, (d_j135 + mc_54 ≤ mc ∧ e_j135 + ms_55 ≤ ms) ∧ wa_Wr_sign mc_54 ms_55 y_j135 (fun (y_51 : Ly) (s_50 : St) (d_52 e_53 : Nat) => (d_j135 + d_52 ≤ mc ∧ e_j135 + e_53 ≤ ms) ∧ wu_Wr_code y_51 (fun (s_58 : St) (r_57 : Int32) => ∃ mc_64 ms_65 : Nat, (d_j135 + d_52 + mc_64 ≤ mc ∧ e_j135 + e_53 + ms_65 ≤ ms) ∧ wa_Wr_word mc_64 ms_65 y_51 (fun (y_61 : Ly) (s_60 : St) (d_62 e_63 : Nat) => (d_j135 + d_52 + d_62 ≤ mc ∧ e_j135 + e_53 + e_63 ≤ ms) ∧ wu_Wr_code y_61 (fun (s_68 : St) (r_67 : Int32) => ∃ mc_74 ms_75 : Nat, (d_j135 + d_52 + d_62 + mc_74 ≤ mc ∧ e_j135 + e_53 + e_63 + ms_75 ≤ ms) ∧ wa_Wr_word mc_74 ms_75 y_61 (fun (y_71 : Ly) (s_70 : St) (d_72 e_73 : Nat) => (d_j135 + d_52 + d_62 + d_72 ≤ mc ∧ e_j135 + e_53 + e_63 + e_73 ≤ ms) ∧ wja_Wr_writeCode_225 mc ms Post a0 y_71 s_70 (d_j135 + d_52 + d_62 + d_72) (e_j135 + e_53 + e_63 + e_73)) s_68 a0 r_67) s_60 a0 x1j135 3) s_58 a0 r_57) s_50 a0 x1j135 2) s_j135 a0 46))) ∧ (x3j135 = 80 → ∃ mc_82 ms_83 : Nat, (d_j135 + mc_82 ≤ mc ∧ e_j135 + ms_83 ≤ ms) ∧ wa_Wr_writePicks mc_82 ms_83 y_j135 (fun (y_79 : Ly) (s_78 : St) (d_80 e_81 : Nat) => (d_j135 + d_80 ≤ mc ∧ e_j135 + e_81 ≤ ms) ∧ wja_Wr_writeCode_225 mc ms Post a0 y_79 s_78 (d_j135 + d_80) (e_j135 + e_81)) s_j135 a0 x1j135))) ∧ (x3j135 = 106 → wu_Wr_code y_j135 (fun (s_86 : St) (r_85 : Int32) => ∃ mc_92 ms_93 : Nat, (d_j135 + mc_92 ≤ mc ∧ e_j135 + ms_93 ≤ ms) ∧ wa_Wr_number mc_92 ms_93 y_j135 (fun (y_89 : Ly) (s_88 : St) (d_90 e_91 : Nat) => (d_j135 + d_90 ≤ mc ∧ e_j135 + e_91 ≤ ms) ∧ wja_Wr_writeCode_225 mc ms Post a0 y_89 s_88 (d_j135 + d_90) (e_j135 + e_91)) s_86 a0 r_85) s_j135 a0 x1j135 2))
def wja_Wr_writeCode_106 (mc ms : Nat) (Post : Ly → St → Nat → Nat → Prop) (a0 : Nat) (y_j106 : Ly) (s_j106 : St) (d_j106 e_j106 : Nat) (x1j106 : Int32) (x3j106 : Int32) : Prop := (d_j106 ≤ mc ∧ e_j106 ≤ ms) ∧ wu_Wr_code y_j106 (fun (s_96 : St) (r_95 : Int32) => ∃ mc_102 ms_103 : Nat, (d_j106 + mc_102 ≤ mc ∧ e_j106 + ms_103 ≤ ms) ∧ wa_Wr_number mc_102 ms_103 y_j106 (fun (y_99 : Ly) (s_98 : St) (d_100 e_101 : Nat) => (d_j106 + d_100 ≤ mc ∧ e_j106 + e_101 ≤ ms) ∧ wja_Wr_writeCode_135 mc ms Post a0 y_99 s_98 (d_j106 + d_100) (e_j106 + e_101) x1j106 x3j106) s_96 a0 r_95) s_j106 a0 x1j106 1
def wja_Wr_writeCode_44 (mc ms : Nat) (Post : Ly → St → Nat → Nat → Prop) (a0 : Nat) (y_j44 : Ly) (s_j44 : St) (d_j44 e_j44 : Nat) (x1j44 : Int32) : Prop := (d_j44 ≤ mc ∧ e_j44 ≤ ms) ∧ wu_Wr_code y_j44 (fun (s_13 : St) (r_12 : Int32) => ∃ mc_19 ms_20 : Nat, (d_j44 + mc_19 ≤ mc ∧ e_j44 + ms_20 ≤ ms) ∧ wa_Wr_operation mc_19 ms_20 y_j44 (fun (y_16 : Ly) (s_15 : St) (d_17 e_18 : Nat) => (d_j44 + d_17 ≤ mc ∧ e_j44 + e_18 ≤ ms) ∧ xH 12 r_12 (fun x_22 : Int32 => ((¬ x_22 = 76 → ((x_22 = 105 → wja_Wr_writeCode_106 mc ms Post a0 y_16 s_15 (d_j44 + d_17) (e_j44 + e_18) x1j44 x_22) ∧ (¬ (x_22 = 105) → ((x_22 = 106 → wja_Wr_writeCode_106 mc ms Post a0 y_16 s_15 (d_j44 + d_17) (e_j44 + e_18) x1j44 x_22) ∧ (¬ (x_22 = 106) → ((x_22 = 107 → wja_Wr_writeCode_106 mc ms Post a0 y_16 s_15 (d_j44 + d_17) (e_j44 + e_18) x1j44 x_22) ∧ (¬ (x_22 = 107) → ((¬ x_22 = 80 → ((x_22 = 45 → wja_Wr_writeCode_135 mc ms Post a0 y_16 s_15 (d_j44 + d_17) (e_j44 + e_18) x1j44 x_22) ∧ (¬ (x_22 = 45) → wu_Wr_code y_16 (fun (s_106 : St) (r_105 : Int32) => ∃ mc_112 ms_113 : Nat, (d_j44 + d_17 + mc_112 ≤ mc ∧ e_j44 + e_18 + ms_113 ≤ ms) ∧ wa_Wr_word mc_112 ms_113 y_16 (fun (y_109 : Ly) (s_108 : St) (d_110 e_111 : Nat) => (d_j44 + d_17 + d_110 ≤ mc ∧ e_j44 + e_18 + e_111 ≤ ms) ∧ wja_Wr_writeCode_135 mc ms Post a0 y_109 s_108 (d_j44 + d_17 + d_110) (e_j44 + e_18 + e_111) x1j44 x_22) s_106 a0 r_105) s_15 a0 x1j44 1))) ∧ (x_22 = 80 → wja_Wr_writeCode_106 mc ms Post a0 y_16 s_15 (d_j44 + d_17) (e_j44 + e_18) x1j44 x_22))))))))) ∧ (x_22 = 76 → wu_Wr_code y_16 (fun (s_116 : St) (r_115 : Int32) => ∃ mc_122 ms_123 : Nat, (d_j44 + d_17 + mc_122 ≤ mc ∧ e_j44 + e_18 + ms_123 ≤ ms) ∧ wa_Wr_label mc_122 ms_123 y_16 (fun (y_119 : Ly) (s_118 : St) (d_120 e_121 : Nat) => (d_j44 + d_17 + d_120 ≤ mc ∧ e_j44 + e_18 + e_121 ≤ ms) ∧ wja_Wr_writeCode_135 mc ms Post a0 y_119 s_118 (d_j44 + d_17 + d_120) (e_j44 + e_18 + e_121) x1j44 x_22) s_116 a0 r_115) s_15 a0 x1j44 1)))) s_13 a0 r_12) s_j44 a0 x1j44 0
def wja_Wr_writeCode_19 (mc ms : Nat) (Post : Ly → St → Nat → Nat → Prop) (a0 : Nat) (y_j19 : Ly) (s_j19 : St) (d_j19 e_j19 : Nat) (x1j19 : Int32) : Prop := (d_j19 ≤ mc ∧ e_j19 ≤ ms) ∧ ∃ mc_8 ms_9 : Nat, (d_j19 + mc_8 ≤ mc ∧ e_j19 + ms_9 ≤ ms) ∧ wa_Wr_beginLine mc_8 ms_9 y_j19 (fun (y_5 : Ly) (s_4 : St) (d_6 e_7 : Nat) => (d_j19 + d_6 ≤ mc ∧ e_j19 + e_7 ≤ ms) ∧ xA y_5 s_4 a0 6 x1j19 (fun x_11 : Int32 => ((x_11 < 0 → wja_Wr_writeCode_44 mc ms Post a0 y_5 s_4 (d_j19 + d_6) (e_j19 + e_7) x1j19) ∧ (¬ (x_11 < 0) → ∃ mc_130 ms_131 : Nat, (d_j19 + d_6 + mc_130 ≤ mc ∧ e_j19 + e_7 + ms_131 ≤ ms) ∧ wa_Wr_label mc_130 ms_131 y_5 (fun (y_127 : Ly) (s_126 : St) (d_128 e_129 : Nat) => (d_j19 + d_6 + d_128 ≤ mc ∧ e_j19 + e_7 + e_129 ≤ ms) ∧ ∃ mc_138 ms_139 : Nat, (d_j19 + d_6 + d_128 + mc_138 ≤ mc ∧ e_j19 + e_7 + e_129 + ms_139 ≤ ms) ∧ wa_Wr_sign mc_138 ms_139 y_127 (fun (y_135 : Ly) (s_134 : St) (d_136 e_137 : Nat) => (d_j19 + d_6 + d_128 + d_136 ≤ mc ∧ e_j19 + e_7 + e_129 + e_137 ≤ ms) ∧ wja_Wr_writeCode_44 mc ms Post a0 y_135 s_134 (d_j19 + d_6 + d_128 + d_136) (e_j19 + e_7 + e_129 + e_137) x1j19) s_126 a0 58) s_4 a0 x1j19)))) s_j19 a0 2
def wa_Wr_writeCode (mc ms : Nat) (y : Ly) (Post : Ly → St → Nat → Nat → Prop) (σ : St) (a0 : Nat) (v1 : Int32) : Prop := wu_Wr_code y (fun (s_2 : St) (r_1 : Int32) => ((r_1 < 0 → wja_Wr_writeCode_19 mc ms Post a0 y s_2 0 0 v1) ∧ (¬ (r_1 < 0) → wu_Wr_code y (fun (s_142 : St) (r_141 : Int32) => ∃ mc_148 ms_149 : Nat, (0 + mc_148 ≤ mc ∧ 0 + ms_149 ≤ ms) ∧ wa_Wr_writeFrame mc_148 ms_149 y (fun (y_145 : Ly) (s_144 : St) (d_146 e_147 : Nat) => (0 + d_146 ≤ mc ∧ 0 + e_147 ≤ ms) ∧ wja_Wr_writeCode_19 mc ms Post a0 y_145 s_144 (0 + d_146) (0 + e_147) v1) s_142 a0 r_141) s_2 a0 v1 4))) σ a0 v1 4
set_option maxHeartbeats 4000000 in
set_option maxRecDepth 100000 in
theorem ca_Wr_writeCode (l : Launch) (D : va_G) (g : Nat → ClassId) (F : Nat → SL) (sl : List SL) (hF : SOK F sl) (ad : Nat → Nat) (mc ms : Nat) (y : Ly) (Post : Ly → St → Nat → Nat → Prop) (σ : St) (a0 : Nat) (v1 : Int32) (sz uz : Nat) (h_a0 : cl a0 = 10) (h : wa_Wr_writeCode mc ms y Post σ a0 v1) : Met l y_Wr_writeCode (mw y_Wr_writeCode b_Wr_writeCode 4 (none)) (ra_Wr_writeCode mc ms) (PCu g D sl [.ref (ad a0), .int v1] sz uz (ws g ad y σ)) (va_Qv (fun (u : Ly × St × Nat × Nat) => Post u.1 u.2.1 u.2.2.1 u.2.2.2) (QU D (va_A (ws g ad y σ) sz) (fun u => ws g ad u.1 u.2.1) sz uz (fun u => u.2.2.1) (fun u => u.2.2.2)) (va_A (ws g ad y σ) sz)) mc ms (va_A (ws g ad y σ) sz) := by
  refine ofVu (by decide +kernel) (Nat.le_of_ble_eq_true rfl) ?_
  intro p e s m args below meth c A Q ls H locs G hsz hP hD hS hl hret
  subst hsz
  have hl : lv_has ls 4 [(0, .ref (ad a0)), (1, .int v1)] := hl
  have hd : 0 ≤ mc ∧ 0 ≤ ms := ⟨Nat.zero_le _, Nat.zero_le _⟩
  unfold wa_Wr_writeCode at h
  refine lv_aload_n G.1 G.2.1 d_Wr_writeCode_0 rfl (lv_at hl 0 rfl) ?_
  refine lv_iload_n G.1 G.2.1 d_Wr_writeCode_1 rfl (lv_at hl 1 rfl) ?_
  refine lv_iconst (v := 4) G.1 G.2.1 d_Wr_writeCode_2 (by decide) ?_
  refine ucVi (As := [.int v1, .int 4]) (rest := []) G hP hD hS (cu_Wr_code l D g ad y _ σ a0 v1 4 H.size h_a0 h) w9_Wr_code q2217 ⟨Nat.le_of_ble_eq_true rfl, Nat.le_of_ble_eq_true rfl⟩ rfl rfl h_a0 (q := (RWr, TWr, 7)) rfl rfl hl.1 rfl (Nat.le_of_ble_eq_true rfl) rfl hd d_Wr_writeCode_3 (fun r_1 s_2 H locs h hP hD hS => ?_)
  have J_19 : ∀ (y_j19 : Ly) (s_j19 : St) (d_j19 e_j19 : Nat) (x1j19 : Int32) (H : Heap) (locs : List Loc), wja_Wr_writeCode_19 mc ms Post a0 y_j19 s_j19 d_j19 e_j19 x1j19 → va_P D CL (ws g ad y_j19 s_j19) H → va_D A (ws g ad y_j19 s_j19) → va_S A s.heap H locs → ∀ ls, lv_has ls 4 [(0, .ref (ad a0)), (1, .int x1j19)] → W p l e (ra_Wr_writeCode mc ms) s m args below meth c H locs d_j19 e_j19 Q (F0 m 19 ls []) := by
    intro y_j19 s_j19 d_j19 e_j19 x1j19 H locs h hP hD hS ls hl
    unfold wja_Wr_writeCode_19 at h
    obtain ⟨hd, h⟩ := h
    refine lv_aload_n G.1 G.2.1 d_Wr_writeCode_19 rfl (lv_at hl 0 rfl) ?_
    refine lv_iconst (v := 2) G.1 G.2.1 d_Wr_writeCode_20 (by decide) ?_
    obtain ⟨mc_8, ms_9, hr_10, h⟩ := h
    refine uaVv (As := [.int 2]) (rest := []) G hP hD hS (ca_Wr_beginLine l D g ad mc_8 ms_9 y_j19 _ s_j19 a0 2 H.size (us H) h_a0 h) w9_Wr_beginLine q2155 ⟨Nat.le_of_ble_eq_true rfl, Nat.le_of_ble_eq_true rfl⟩ rfl rfl h_a0 (q := (RWr, TWr, 7)) rfl rfl hl.1 rfl (Nat.le_of_ble_eq_true rfl) rfl hr_10 d_Wr_writeCode_21 (fun y_5 s_4 d_6 e_7 H locs h hP hD hS => ?_)
    obtain ⟨hd, h⟩ := h
    refine lv_aload_n G.1 G.2.1 d_Wr_writeCode_24 rfl (lv_at hl 0 rfl) ?_
    refine ugf (v := .ref (yP y_5 a0 6)) G hP h_a0 iWr rfl 6 (by decide) rfl q778 rfl rfl d_Wr_writeCode_25 ?_
    refine lv_iload_n G.1 G.2.1 d_Wr_writeCode_28 rfl (lv_at hl 1 rfl) ?_
    refine uiald G hP (kdp h_a0 rfl) (typ h_a0 rfl) h d_Wr_writeCode_29 (fun x_11 h => ?_)
    have J_44 : ∀ (y_j44 : Ly) (s_j44 : St) (d_j44 e_j44 : Nat) (x1j44 : Int32) (H : Heap) (locs : List Loc), wja_Wr_writeCode_44 mc ms Post a0 y_j44 s_j44 d_j44 e_j44 x1j44 → va_P D CL (ws g ad y_j44 s_j44) H → va_D A (ws g ad y_j44 s_j44) → va_S A s.heap H locs → ∀ ls, lv_has ls 4 [(0, .ref (ad a0)), (1, .int x1j44)] → W p l e (ra_Wr_writeCode mc ms) s m args below meth c H locs d_j44 e_j44 Q (F0 m 44 ls []) := by
      intro y_j44 s_j44 d_j44 e_j44 x1j44 H locs h hP hD hS ls hl
      unfold wja_Wr_writeCode_44 at h
      obtain ⟨hd, h⟩ := h
      refine lv_aload_n G.1 G.2.1 d_Wr_writeCode_44 rfl (lv_at hl 0 rfl) ?_
      refine lv_iload_n G.1 G.2.1 d_Wr_writeCode_45 rfl (lv_at hl 1 rfl) ?_
      refine lv_iconst (v := 0) G.1 G.2.1 d_Wr_writeCode_46 (by decide) ?_
      refine ucVi (As := [.int x1j44, .int 0]) (rest := []) G hP hD hS (cu_Wr_code l D g ad y_j44 _ s_j44 a0 x1j44 0 H.size h_a0 h) w9_Wr_code q2217 ⟨Nat.le_of_ble_eq_true rfl, Nat.le_of_ble_eq_true rfl⟩ rfl rfl h_a0 (q := (RWr, TWr, 7)) rfl rfl hl.1 rfl (Nat.le_of_ble_eq_true rfl) rfl hd d_Wr_writeCode_47 (fun r_12 s_13 H locs h hP hD hS => ?_)
      refine lv_istore_n (lv' := [(2, .int r_12), (0, .ref (ad a0)), (1, .int x1j44)]) G.1 G.2.1 d_Wr_writeCode_50 rfl hl (by decide) rfl (fun ls hl => ?_)
      refine lv_aload_n G.1 G.2.1 d_Wr_writeCode_51 rfl (lv_at hl 1 rfl) ?_
      refine lv_iload_n G.1 G.2.1 d_Wr_writeCode_52 rfl (lv_at hl 0 rfl) ?_
      obtain ⟨mc_19, ms_20, hr_21, h⟩ := h
      refine utVv (As := [.int r_12]) (rest := []) G hP hD hS (ca_Wr_operation l D g F sl hF ad mc_19 ms_20 y_j44 _ s_13 a0 r_12 H.size (us H) h_a0 h) w9_Wr_operation q2243 ⟨Nat.le_of_ble_eq_true rfl, Nat.le_of_ble_eq_true rfl⟩ rfl rfl h_a0 (q := (RWr, TWr, 7)) rfl rfl hl.1 rfl (Nat.le_of_ble_eq_true rfl) rfl hr_21 d_Wr_writeCode_53 (fun y_16 s_15 d_17 e_18 H locs h hP hD hS => ?_)
      obtain ⟨hd, h⟩ := h
      refine uldc (n := 12) hF rfl G d_Wr_writeCode_56 ?_
      refine lv_iload_n G.1 G.2.1 d_Wr_writeCode_58 rfl (lv_at hl 0 rfl) ?_
      refine uchar hF (by decide +kernel) G hP hD hS h w9_Js_charAt q2222 ⟨Nat.le_of_ble_eq_true rfl, Nat.le_of_ble_eq_true rfl⟩ hl.1 (Nat.le_of_ble_eq_true rfl) hd d_Wr_writeCode_59 (fun x_22 H locs h hP hD hS => ?_)
      refine W.eq (g2 := F0 m 62 ls [.int x_22]) rfl ?_
      refine lv_istore_n (lv' := [(3, .int x_22), (2, .int r_12), (0, .ref (ad a0)), (1, .int x1j44)]) G.1 G.2.1 d_Wr_writeCode_62 rfl hl (by decide) rfl (fun ls hl => ?_)
      refine lv_iload_n G.1 G.2.1 d_Wr_writeCode_63 rfl (lv_at hl 0 rfl) ?_
      refine lv_bipush (v := 76) G.1 G.2.1 d_Wr_writeCode_64 (by decide) ?_
      have J_135 : ∀ (y_j135 : Ly) (s_j135 : St) (d_j135 e_j135 : Nat) (x1j135 : Int32) (x3j135 : Int32) (H : Heap) (locs : List Loc), wja_Wr_writeCode_135 mc ms Post a0 y_j135 s_j135 d_j135 e_j135 x1j135 x3j135 → va_P D CL (ws g ad y_j135 s_j135) H → va_D A (ws g ad y_j135 s_j135) → va_S A s.heap H locs → ∀ ls, lv_has ls 4 [(0, .ref (ad a0)), (1, .int x1j135), (3, .int x3j135)] → W p l e (ra_Wr_writeCode mc ms) s m args below meth c H locs d_j135 e_j135 Q (F0 m 135 ls []) := by
        intro y_j135 s_j135 d_j135 e_j135 x1j135 x3j135 H locs h hP hD hS ls hl
        unfold wja_Wr_writeCode_135 at h
        obtain ⟨hd, h⟩ := h
        refine lv_iload_n G.1 G.2.1 d_Wr_writeCode_135 rfl (lv_at hl 2 rfl) ?_
        refine lv_bipush (v := 106) G.1 G.2.1 d_Wr_writeCode_136 (by decide) ?_
        have J_225 : ∀ (y_j225 : Ly) (s_j225 : St) (d_j225 e_j225 : Nat) (H : Heap) (locs : List Loc), wja_Wr_writeCode_225 mc ms Post a0 y_j225 s_j225 d_j225 e_j225 → va_P D CL (ws g ad y_j225 s_j225) H → va_D A (ws g ad y_j225 s_j225) → va_S A s.heap H locs → ∀ ls, lv_has ls 4 [(0, .ref (ad a0))] → W p l e (ra_Wr_writeCode mc ms) s m args below meth c H locs d_j225 e_j225 Q (F0 m 225 ls []) := by
          intro y_j225 s_j225 d_j225 e_j225 H locs h hP hD hS ls hl
          unfold wja_Wr_writeCode_225 at h
          obtain ⟨hd, h⟩ := h
          refine lv_aload_n G.1 G.2.1 d_Wr_writeCode_225 rfl (lv_at hl 0 rfl) ?_
          obtain ⟨mc_28, ms_29, hr_30, h⟩ := h
          refine uaVv (As := []) (rest := []) G hP hD hS (ca_Wr_endLine l D g ad mc_28 ms_29 y_j225 _ s_j225 a0 H.size (us H) h_a0 h) w9_Wr_endLine q2178 ⟨Nat.le_of_ble_eq_true rfl, Nat.le_of_ble_eq_true rfl⟩ rfl rfl h_a0 (q := (RWr, TWr, 7)) rfl rfl hl.1 rfl (Nat.le_of_ble_eq_true rfl) rfl hr_30 d_Wr_writeCode_226 (fun y_25 s_24 d_26 e_27 H locs h hP hD hS => ?_)
          have hl := lv_sub (l' := []) hl [] rfl
          obtain ⟨hd, h⟩ := h
          exact hret (y_25, s_24, d_j225 + d_26, e_j225 + e_27) _ _ _ _ _ ls h hP hD hS (Nat.le_refl _) (Nat.le_refl _) hd.1 hd.2 d_Wr_writeCode_229
        refine lv_icmp_ne (tgt := 154) G.1 G.2.1 d_Wr_writeCode_138 (by decide) (fun c138 => ?_) (fun c138 => ?_)
        · skip
          have h := h.1 c138
          refine lv_iload_n G.1 G.2.1 d_Wr_writeCode_154 rfl (lv_at hl 2 rfl) ?_
          refine lv_bipush (v := 80) G.1 G.2.1 d_Wr_writeCode_155 (by decide) ?_
          refine lv_icmp_ne (tgt := 168) G.1 G.2.1 d_Wr_writeCode_157 (by decide) (fun c157 => ?_) (fun c157 => ?_)
          · skip
            have h := h.1 c157
            refine lv_iload_n G.1 G.2.1 d_Wr_writeCode_168 rfl (lv_at hl 2 rfl) ?_
            refine lv_bipush (v := 70) G.1 G.2.1 d_Wr_writeCode_169 (by decide) ?_
            refine lv_icmp_ne (tgt := 203) G.1 G.2.1 d_Wr_writeCode_171 (by decide) (fun c171 => ?_) (fun c171 => ?_)
            · skip
              have h := h.1 c171
              refine lv_iload_n G.1 G.2.1 d_Wr_writeCode_203 rfl (lv_at hl 2 rfl) ?_
              refine lv_bipush (v := 77) G.1 G.2.1 d_Wr_writeCode_204 (by decide) ?_
              refine W.eq (g2 := F0 m 206 ls [.int 77, .int x3j135]) rfl ?_
              refine lv_icmp_ne (tgt := 225) G.1 G.2.1 d_Wr_writeCode_206 (by decide) (fun c206 => ?_) (fun c206 => ?_)
              · skip
                have h := h.1 c206
                exact J_225 y_j135 s_j135 d_j135 e_j135 H locs h hP hD hS ls (lv_sub hl [0] rfl)
              · skip
                have h := h.2 c206
                refine lv_aload_n G.1 G.2.1 d_Wr_writeCode_209 rfl (lv_at hl 0 rfl) ?_
                refine lv_bipush (v := 46) G.1 G.2.1 d_Wr_writeCode_210 (by decide) ?_
                obtain ⟨mc_36, ms_37, hr_38, h⟩ := h
                refine uaVv (As := [.int 46]) (rest := []) G hP hD hS (ca_Wr_sign l D g ad mc_36 ms_37 y_j135 _ s_j135 a0 46 H.size (us H) h_a0 h) w9_Wr_sign q2174 ⟨Nat.le_of_ble_eq_true rfl, Nat.le_of_ble_eq_true rfl⟩ rfl rfl h_a0 (q := (RWr, TWr, 7)) rfl rfl hl.1 rfl (Nat.le_of_ble_eq_true rfl) rfl hr_38 d_Wr_writeCode_212 (fun y_33 s_32 d_34 e_35 H locs h hP hD hS => ?_)
                have hl := lv_sub (l' := [(0, .ref (ad a0)), (1, .int x1j135)]) hl [0, 1] rfl
                obtain ⟨hd, h⟩ := h
                refine lv_aload_n G.1 G.2.1 d_Wr_writeCode_215 rfl (lv_at hl 0 rfl) ?_
                refine lv_aload_n G.1 G.2.1 d_Wr_writeCode_216 rfl (lv_at hl 0 rfl) ?_
                refine lv_iload_n G.1 G.2.1 d_Wr_writeCode_217 rfl (lv_at hl 1 rfl) ?_
                refine lv_iconst (v := 2) G.1 G.2.1 d_Wr_writeCode_218 (by decide) ?_
                refine ucVi (As := [.int x1j135, .int 2]) (rest := [.ref (ad a0)]) G hP hD hS (cu_Wr_code l D g ad y_33 _ s_32 a0 x1j135 2 H.size h_a0 h) w9_Wr_code q2217 ⟨Nat.le_of_ble_eq_true rfl, Nat.le_of_ble_eq_true rfl⟩ rfl rfl h_a0 (q := (RWr, TWr, 7)) rfl rfl hl.1 rfl (Nat.le_of_ble_eq_true rfl) rfl hd d_Wr_writeCode_219 (fun r_39 s_40 H locs h hP hD hS => ?_)
                obtain ⟨mc_46, ms_47, hr_48, h⟩ := h
                refine uaVv (As := [.int r_39]) (rest := []) G hP hD hS (ca_Wr_writeSign l D g ad mc_46 ms_47 y_33 _ s_40 a0 r_39 H.size (us H) h_a0 h) w9_Wr_writeSign q2203 ⟨Nat.le_of_ble_eq_true rfl, Nat.le_of_ble_eq_true rfl⟩ rfl rfl h_a0 (q := (RWr, TWr, 7)) rfl rfl hl.1 rfl (Nat.le_of_ble_eq_true rfl) rfl hr_48 d_Wr_writeCode_222 (fun y_43 s_42 d_44 e_45 H locs h hP hD hS => ?_)
                have hl := lv_sub (l' := [(0, .ref (ad a0))]) hl [0] rfl
                obtain ⟨hd, h⟩ := h
                exact J_225 y_43 s_42 (d_j135 + d_34 + d_44) (e_j135 + e_35 + e_45) H locs h hP hD hS ls (lv_sub hl [0] rfl)
            · skip
              have h := h.2 c171
              refine lv_aload_n G.1 G.2.1 d_Wr_writeCode_174 rfl (lv_at hl 0 rfl) ?_
              refine lv_bipush (v := 46) G.1 G.2.1 d_Wr_writeCode_175 (by decide) ?_
              refine W.eq (g2 := F0 m 177 ls [.int 46, .ref (ad a0)]) rfl ?_
              obtain ⟨mc_54, ms_55, hr_56, h⟩ := h
              refine uaVv (As := [.int 46]) (rest := []) G hP hD hS (ca_Wr_sign l D g ad mc_54 ms_55 y_j135 _ s_j135 a0 46 H.size (us H) h_a0 h) w9_Wr_sign q2174 ⟨Nat.le_of_ble_eq_true rfl, Nat.le_of_ble_eq_true rfl⟩ rfl rfl h_a0 (q := (RWr, TWr, 7)) rfl rfl hl.1 rfl (Nat.le_of_ble_eq_true rfl) rfl hr_56 d_Wr_writeCode_177 (fun y_51 s_50 d_52 e_53 H locs h hP hD hS => ?_)
              have hl := lv_sub (l' := [(0, .ref (ad a0)), (1, .int x1j135)]) hl [0, 1] rfl
              obtain ⟨hd, h⟩ := h
              refine lv_aload_n G.1 G.2.1 d_Wr_writeCode_180 rfl (lv_at hl 0 rfl) ?_
              refine lv_aload_n G.1 G.2.1 d_Wr_writeCode_181 rfl (lv_at hl 0 rfl) ?_
              refine lv_iload_n G.1 G.2.1 d_Wr_writeCode_182 rfl (lv_at hl 1 rfl) ?_
              refine lv_iconst (v := 2) G.1 G.2.1 d_Wr_writeCode_183 (by decide) ?_
              refine ucVi (As := [.int x1j135, .int 2]) (rest := [.ref (ad a0)]) G hP hD hS (cu_Wr_code l D g ad y_51 _ s_50 a0 x1j135 2 H.size h_a0 h) w9_Wr_code q2217 ⟨Nat.le_of_ble_eq_true rfl, Nat.le_of_ble_eq_true rfl⟩ rfl rfl h_a0 (q := (RWr, TWr, 7)) rfl rfl hl.1 rfl (Nat.le_of_ble_eq_true rfl) rfl hd d_Wr_writeCode_184 (fun r_57 s_58 H locs h hP hD hS => ?_)
              obtain ⟨mc_64, ms_65, hr_66, h⟩ := h
              refine uaVv (As := [.int r_57]) (rest := []) G hP hD hS (ca_Wr_word l D g ad mc_64 ms_65 y_51 _ s_58 a0 r_57 H.size (us H) h_a0 h) w9_Wr_word q2164 ⟨Nat.le_of_ble_eq_true rfl, Nat.le_of_ble_eq_true rfl⟩ rfl rfl h_a0 (q := (RWr, TWr, 7)) rfl rfl hl.1 rfl (Nat.le_of_ble_eq_true rfl) rfl hr_66 d_Wr_writeCode_187 (fun y_61 s_60 d_62 e_63 H locs h hP hD hS => ?_)
              obtain ⟨hd, h⟩ := h
              refine lv_aload_n G.1 G.2.1 d_Wr_writeCode_190 rfl (lv_at hl 0 rfl) ?_
              refine lv_aload_n G.1 G.2.1 d_Wr_writeCode_191 rfl (lv_at hl 0 rfl) ?_
              refine lv_iload_n G.1 G.2.1 d_Wr_writeCode_192 rfl (lv_at hl 1 rfl) ?_
              refine lv_iconst (v := 3) G.1 G.2.1 d_Wr_writeCode_193 (by decide) ?_
              refine ucVi (As := [.int x1j135, .int 3]) (rest := [.ref (ad a0)]) G hP hD hS (cu_Wr_code l D g ad y_61 _ s_60 a0 x1j135 3 H.size h_a0 h) w9_Wr_code q2217 ⟨Nat.le_of_ble_eq_true rfl, Nat.le_of_ble_eq_true rfl⟩ rfl rfl h_a0 (q := (RWr, TWr, 7)) rfl rfl hl.1 rfl (Nat.le_of_ble_eq_true rfl) rfl hd d_Wr_writeCode_194 (fun r_67 s_68 H locs h hP hD hS => ?_)
              refine W.eq (g2 := F0 m 197 ls [.int r_67, .ref (ad a0)]) rfl ?_
              obtain ⟨mc_74, ms_75, hr_76, h⟩ := h
              refine uaVv (As := [.int r_67]) (rest := []) G hP hD hS (ca_Wr_word l D g ad mc_74 ms_75 y_61 _ s_68 a0 r_67 H.size (us H) h_a0 h) w9_Wr_word q2164 ⟨Nat.le_of_ble_eq_true rfl, Nat.le_of_ble_eq_true rfl⟩ rfl rfl h_a0 (q := (RWr, TWr, 7)) rfl rfl hl.1 rfl (Nat.le_of_ble_eq_true rfl) rfl hr_76 d_Wr_writeCode_197 (fun y_71 s_70 d_72 e_73 H locs h hP hD hS => ?_)
              have hl := lv_sub (l' := [(0, .ref (ad a0))]) hl [0] rfl
              obtain ⟨hd, h⟩ := h
              refine lv_goto (tgt := 225) G.1 G.2.1 d_Wr_writeCode_200 (by decide) ?_
              exact J_225 y_71 s_70 (d_j135 + d_52 + d_62 + d_72) (e_j135 + e_53 + e_63 + e_73) H locs h hP hD hS ls (lv_sub hl [0] rfl)
          · skip
            have h := h.2 c157
            refine lv_aload_n G.1 G.2.1 d_Wr_writeCode_160 rfl (lv_at hl 0 rfl) ?_
            refine lv_iload_n G.1 G.2.1 d_Wr_writeCode_161 rfl (lv_at hl 1 rfl) ?_
            obtain ⟨mc_82, ms_83, hr_84, h⟩ := h
            refine uaVv (As := [.int x1j135]) (rest := []) G hP hD hS (ca_Wr_writePicks l D g ad mc_82 ms_83 y_j135 _ s_j135 a0 x1j135 H.size (us H) h_a0 h) w9_Wr_writePicks q2251 ⟨Nat.le_of_ble_eq_true rfl, Nat.le_of_ble_eq_true rfl⟩ rfl rfl h_a0 (q := (RWr, TWr, 7)) rfl rfl hl.1 rfl (Nat.le_of_ble_eq_true rfl) rfl hr_84 d_Wr_writeCode_162 (fun y_79 s_78 d_80 e_81 H locs h hP hD hS => ?_)
            have hl := lv_sub (l' := [(0, .ref (ad a0))]) hl [0] rfl
            obtain ⟨hd, h⟩ := h
            refine lv_goto (tgt := 225) G.1 G.2.1 d_Wr_writeCode_165 (by decide) ?_
            exact J_225 y_79 s_78 (d_j135 + d_80) (e_j135 + e_81) H locs h hP hD hS ls (lv_sub hl [0] rfl)
        · skip
          have h := h.2 c138
          refine lv_aload_n G.1 G.2.1 d_Wr_writeCode_141 rfl (lv_at hl 0 rfl) ?_
          refine lv_aload_n G.1 G.2.1 d_Wr_writeCode_142 rfl (lv_at hl 0 rfl) ?_
          refine lv_iload_n G.1 G.2.1 d_Wr_writeCode_143 rfl (lv_at hl 1 rfl) ?_
          refine lv_iconst (v := 2) G.1 G.2.1 d_Wr_writeCode_144 (by decide) ?_
          refine ucVi (As := [.int x1j135, .int 2]) (rest := [.ref (ad a0)]) G hP hD hS (cu_Wr_code l D g ad y_j135 _ s_j135 a0 x1j135 2 H.size h_a0 h) w9_Wr_code q2217 ⟨Nat.le_of_ble_eq_true rfl, Nat.le_of_ble_eq_true rfl⟩ rfl rfl h_a0 (q := (RWr, TWr, 7)) rfl rfl hl.1 rfl (Nat.le_of_ble_eq_true rfl) rfl hd d_Wr_writeCode_145 (fun r_85 s_86 H locs h hP hD hS => ?_)
          obtain ⟨mc_92, ms_93, hr_94, h⟩ := h
          refine uaVv (As := [.int r_85]) (rest := []) G hP hD hS (ca_Wr_number l D g ad mc_92 ms_93 y_j135 _ s_86 a0 r_85 H.size (us H) h_a0 h) w9_Wr_number q2187 ⟨Nat.le_of_ble_eq_true rfl, Nat.le_of_ble_eq_true rfl⟩ rfl rfl h_a0 (q := (RWr, TWr, 7)) rfl rfl hl.1 rfl (Nat.le_of_ble_eq_true rfl) rfl hr_94 d_Wr_writeCode_148 (fun y_89 s_88 d_90 e_91 H locs h hP hD hS => ?_)
          have hl := lv_sub (l' := [(0, .ref (ad a0))]) hl [0] rfl
          obtain ⟨hd, h⟩ := h
          refine lv_goto (tgt := 225) G.1 G.2.1 d_Wr_writeCode_151 (by decide) ?_
          exact J_225 y_89 s_88 (d_j135 + d_90) (e_j135 + e_91) H locs h hP hD hS ls (lv_sub hl [0] rfl)
      refine lv_icmp_ne (tgt := 82) G.1 G.2.1 d_Wr_writeCode_66 (by decide) (fun c66 => ?_) (fun c66 => ?_)
      · skip
        have h := h.1 c66
        refine lv_iload_n G.1 G.2.1 d_Wr_writeCode_82 rfl (lv_at hl 0 rfl) ?_
        refine lv_bipush (v := 105) G.1 G.2.1 d_Wr_writeCode_83 (by decide) ?_
        have J_106 : ∀ (y_j106 : Ly) (s_j106 : St) (d_j106 e_j106 : Nat) (x1j106 : Int32) (x3j106 : Int32) (H : Heap) (locs : List Loc), wja_Wr_writeCode_106 mc ms Post a0 y_j106 s_j106 d_j106 e_j106 x1j106 x3j106 → va_P D CL (ws g ad y_j106 s_j106) H → va_D A (ws g ad y_j106 s_j106) → va_S A s.heap H locs → ∀ ls, lv_has ls 4 [(0, .ref (ad a0)), (1, .int x1j106), (3, .int x3j106)] → W p l e (ra_Wr_writeCode mc ms) s m args below meth c H locs d_j106 e_j106 Q (F0 m 106 ls []) := by
          intro y_j106 s_j106 d_j106 e_j106 x1j106 x3j106 H locs h hP hD hS ls hl
          unfold wja_Wr_writeCode_106 at h
          obtain ⟨hd, h⟩ := h
          refine lv_aload_n G.1 G.2.1 d_Wr_writeCode_106 rfl (lv_at hl 0 rfl) ?_
          refine lv_aload_n G.1 G.2.1 d_Wr_writeCode_107 rfl (lv_at hl 0 rfl) ?_
          refine lv_iload_n G.1 G.2.1 d_Wr_writeCode_108 rfl (lv_at hl 1 rfl) ?_
          refine lv_iconst (v := 1) G.1 G.2.1 d_Wr_writeCode_109 (by decide) ?_
          refine ucVi (As := [.int x1j106, .int 1]) (rest := [.ref (ad a0)]) G hP hD hS (cu_Wr_code l D g ad y_j106 _ s_j106 a0 x1j106 1 H.size h_a0 h) w9_Wr_code q2217 ⟨Nat.le_of_ble_eq_true rfl, Nat.le_of_ble_eq_true rfl⟩ rfl rfl h_a0 (q := (RWr, TWr, 7)) rfl rfl hl.1 rfl (Nat.le_of_ble_eq_true rfl) rfl hd d_Wr_writeCode_110 (fun r_95 s_96 H locs h hP hD hS => ?_)
          obtain ⟨mc_102, ms_103, hr_104, h⟩ := h
          refine uaVv (As := [.int r_95]) (rest := []) G hP hD hS (ca_Wr_number l D g ad mc_102 ms_103 y_j106 _ s_96 a0 r_95 H.size (us H) h_a0 h) w9_Wr_number q2187 ⟨Nat.le_of_ble_eq_true rfl, Nat.le_of_ble_eq_true rfl⟩ rfl rfl h_a0 (q := (RWr, TWr, 7)) rfl rfl hl.1 rfl (Nat.le_of_ble_eq_true rfl) rfl hr_104 d_Wr_writeCode_113 (fun y_99 s_98 d_100 e_101 H locs h hP hD hS => ?_)
          obtain ⟨hd, h⟩ := h
          refine lv_goto (tgt := 135) G.1 G.2.1 d_Wr_writeCode_116 (by decide) ?_
          exact J_135 y_99 s_98 (d_j106 + d_100) (e_j106 + e_101) x1j106 x3j106 H locs h hP hD hS ls (lv_sub hl [0, 1, 2] rfl)
        refine lv_icmp_eq (tgt := 106) G.1 G.2.1 d_Wr_writeCode_85 (by decide) (fun c85 => ?_) (fun c85 => ?_)
        · skip
          have h := h.1 c85
          exact J_106 y_16 s_15 (d_j44 + d_17) (e_j44 + e_18) x1j44 x_22 H locs h hP hD hS ls (lv_sub hl [2, 3, 0] rfl)
        · skip
          have h := h.2 c85
          refine lv_iload_n G.1 G.2.1 d_Wr_writeCode_88 rfl (lv_at hl 0 rfl) ?_
          refine lv_bipush (v := 106) G.1 G.2.1 d_Wr_writeCode_89 (by decide) ?_
          refine lv_icmp_eq (tgt := 106) G.1 G.2.1 d_Wr_writeCode_91 (by decide) (fun c91 => ?_) (fun c91 => ?_)
          · skip
            have h := h.1 c91
            exact J_106 y_16 s_15 (d_j44 + d_17) (e_j44 + e_18) x1j44 x_22 H locs h hP hD hS ls (lv_sub hl [2, 3, 0] rfl)
          · skip
            have h := h.2 c91
            refine lv_iload_n G.1 G.2.1 d_Wr_writeCode_94 rfl (lv_at hl 0 rfl) ?_
            refine lv_bipush (v := 107) G.1 G.2.1 d_Wr_writeCode_95 (by decide) ?_
            refine W.eq (g2 := F0 m 97 ls [.int 107, .int x_22]) rfl ?_
            refine lv_icmp_eq (tgt := 106) G.1 G.2.1 d_Wr_writeCode_97 (by decide) (fun c97 => ?_) (fun c97 => ?_)
            · skip
              have h := h.1 c97
              exact J_106 y_16 s_15 (d_j44 + d_17) (e_j44 + e_18) x1j44 x_22 H locs h hP hD hS ls (lv_sub hl [2, 3, 0] rfl)
            · skip
              have h := h.2 c97
              refine lv_iload_n G.1 G.2.1 d_Wr_writeCode_100 rfl (lv_at hl 0 rfl) ?_
              refine lv_bipush (v := 80) G.1 G.2.1 d_Wr_writeCode_101 (by decide) ?_
              refine lv_icmp_ne (tgt := 119) G.1 G.2.1 d_Wr_writeCode_103 (by decide) (fun c103 => ?_) (fun c103 => ?_)
              · skip
                have h := h.1 c103
                refine lv_iload_n G.1 G.2.1 d_Wr_writeCode_119 rfl (lv_at hl 0 rfl) ?_
                refine lv_bipush (v := 45) G.1 G.2.1 d_Wr_writeCode_120 (by decide) ?_
                refine lv_icmp_eq (tgt := 135) G.1 G.2.1 d_Wr_writeCode_122 (by decide) (fun c122 => ?_) (fun c122 => ?_)
                · skip
                  have h := h.1 c122
                  exact J_135 y_16 s_15 (d_j44 + d_17) (e_j44 + e_18) x1j44 x_22 H locs h hP hD hS ls (lv_sub hl [2, 3, 0] rfl)
                · skip
                  have h := h.2 c122
                  refine lv_aload_n G.1 G.2.1 d_Wr_writeCode_125 rfl (lv_at hl 2 rfl) ?_
                  refine lv_aload_n G.1 G.2.1 d_Wr_writeCode_126 rfl (lv_at hl 2 rfl) ?_
                  refine lv_iload_n G.1 G.2.1 d_Wr_writeCode_127 rfl (lv_at hl 3 rfl) ?_
                  refine lv_iconst (v := 1) G.1 G.2.1 d_Wr_writeCode_128 (by decide) ?_
                  refine ucVi (As := [.int x1j44, .int 1]) (rest := [.ref (ad a0)]) G hP hD hS (cu_Wr_code l D g ad y_16 _ s_15 a0 x1j44 1 H.size h_a0 h) w9_Wr_code q2217 ⟨Nat.le_of_ble_eq_true rfl, Nat.le_of_ble_eq_true rfl⟩ rfl rfl h_a0 (q := (RWr, TWr, 7)) rfl rfl hl.1 rfl (Nat.le_of_ble_eq_true rfl) rfl hd d_Wr_writeCode_129 (fun r_105 s_106 H locs h hP hD hS => ?_)
                  refine W.eq (g2 := F0 m 132 ls [.int r_105, .ref (ad a0)]) rfl ?_
                  obtain ⟨mc_112, ms_113, hr_114, h⟩ := h
                  refine uaVv (As := [.int r_105]) (rest := []) G hP hD hS (ca_Wr_word l D g ad mc_112 ms_113 y_16 _ s_106 a0 r_105 H.size (us H) h_a0 h) w9_Wr_word q2164 ⟨Nat.le_of_ble_eq_true rfl, Nat.le_of_ble_eq_true rfl⟩ rfl rfl h_a0 (q := (RWr, TWr, 7)) rfl rfl hl.1 rfl (Nat.le_of_ble_eq_true rfl) rfl hr_114 d_Wr_writeCode_132 (fun y_109 s_108 d_110 e_111 H locs h hP hD hS => ?_)
                  have hl := lv_sub (l' := [(3, .int x_22), (0, .ref (ad a0)), (1, .int x1j44)]) hl [0, 2, 3] rfl
                  obtain ⟨hd, h⟩ := h
                  exact J_135 y_109 s_108 (d_j44 + d_17 + d_110) (e_j44 + e_18 + e_111) x1j44 x_22 H locs h hP hD hS ls (lv_sub hl [1, 2, 0] rfl)
              · skip
                have h := h.2 c103
                exact J_106 y_16 s_15 (d_j44 + d_17) (e_j44 + e_18) x1j44 x_22 H locs h hP hD hS ls (lv_sub hl [2, 3, 0] rfl)
      · skip
        have h := h.2 c66
        refine lv_aload_n G.1 G.2.1 d_Wr_writeCode_69 rfl (lv_at hl 2 rfl) ?_
        refine lv_aload_n G.1 G.2.1 d_Wr_writeCode_70 rfl (lv_at hl 2 rfl) ?_
        refine lv_iload_n G.1 G.2.1 d_Wr_writeCode_71 rfl (lv_at hl 3 rfl) ?_
        refine lv_iconst (v := 1) G.1 G.2.1 d_Wr_writeCode_72 (by decide) ?_
        refine ucVi (As := [.int x1j44, .int 1]) (rest := [.ref (ad a0)]) G hP hD hS (cu_Wr_code l D g ad y_16 _ s_15 a0 x1j44 1 H.size h_a0 h) w9_Wr_code q2217 ⟨Nat.le_of_ble_eq_true rfl, Nat.le_of_ble_eq_true rfl⟩ rfl rfl h_a0 (q := (RWr, TWr, 7)) rfl rfl hl.1 rfl (Nat.le_of_ble_eq_true rfl) rfl hd d_Wr_writeCode_73 (fun r_115 s_116 H locs h hP hD hS => ?_)
        obtain ⟨mc_122, ms_123, hr_124, h⟩ := h
        refine uaVv (As := [.int r_115]) (rest := []) G hP hD hS (ca_Wr_label l D g ad mc_122 ms_123 y_16 _ s_116 a0 r_115 H.size (us H) h_a0 h) w9_Wr_label q2239 ⟨Nat.le_of_ble_eq_true rfl, Nat.le_of_ble_eq_true rfl⟩ rfl rfl h_a0 (q := (RWr, TWr, 7)) rfl rfl hl.1 rfl (Nat.le_of_ble_eq_true rfl) rfl hr_124 d_Wr_writeCode_76 (fun y_119 s_118 d_120 e_121 H locs h hP hD hS => ?_)
        have hl := lv_sub (l' := [(3, .int x_22), (0, .ref (ad a0)), (1, .int x1j44)]) hl [0, 2, 3] rfl
        obtain ⟨hd, h⟩ := h
        refine lv_goto (tgt := 135) G.1 G.2.1 d_Wr_writeCode_79 (by decide) ?_
        exact J_135 y_119 s_118 (d_j44 + d_17 + d_120) (e_j44 + e_18 + e_121) x1j44 x_22 H locs h hP hD hS ls (lv_sub hl [1, 2, 0] rfl)
    refine lv_if_lt (tgt := 44) G.1 G.2.1 d_Wr_writeCode_30 (by decide) (fun c30 => ?_) (fun c30 => ?_)
    · skip
      have h := h.1 c30
      exact J_44 y_5 s_4 (d_j19 + d_6) (e_j19 + e_7) x1j19 H locs h hP hD hS ls (lv_sub hl [0, 1] rfl)
    · skip
      have h := h.2 c30
      refine lv_aload_n G.1 G.2.1 d_Wr_writeCode_33 rfl (lv_at hl 0 rfl) ?_
      refine lv_iload_n G.1 G.2.1 d_Wr_writeCode_34 rfl (lv_at hl 1 rfl) ?_
      obtain ⟨mc_130, ms_131, hr_132, h⟩ := h
      refine uaVv (As := [.int x1j19]) (rest := []) G hP hD hS (ca_Wr_label l D g ad mc_130 ms_131 y_5 _ s_4 a0 x1j19 H.size (us H) h_a0 h) w9_Wr_label q2239 ⟨Nat.le_of_ble_eq_true rfl, Nat.le_of_ble_eq_true rfl⟩ rfl rfl h_a0 (q := (RWr, TWr, 7)) rfl rfl hl.1 rfl (Nat.le_of_ble_eq_true rfl) rfl hr_132 d_Wr_writeCode_35 (fun y_127 s_126 d_128 e_129 H locs h hP hD hS => ?_)
      obtain ⟨hd, h⟩ := h
      refine W.eq (g2 := F0 m 38 ls []) rfl ?_
      refine lv_aload_n G.1 G.2.1 d_Wr_writeCode_38 rfl (lv_at hl 0 rfl) ?_
      refine lv_bipush (v := 58) G.1 G.2.1 d_Wr_writeCode_39 (by decide) ?_
      obtain ⟨mc_138, ms_139, hr_140, h⟩ := h
      refine uaVv (As := [.int 58]) (rest := []) G hP hD hS (ca_Wr_sign l D g ad mc_138 ms_139 y_127 _ s_126 a0 58 H.size (us H) h_a0 h) w9_Wr_sign q2174 ⟨Nat.le_of_ble_eq_true rfl, Nat.le_of_ble_eq_true rfl⟩ rfl rfl h_a0 (q := (RWr, TWr, 7)) rfl rfl hl.1 rfl (Nat.le_of_ble_eq_true rfl) rfl hr_140 d_Wr_writeCode_41 (fun y_135 s_134 d_136 e_137 H locs h hP hD hS => ?_)
      obtain ⟨hd, h⟩ := h
      exact J_44 y_135 s_134 (d_j19 + d_6 + d_128 + d_136) (e_j19 + e_7 + e_129 + e_137) x1j19 H locs h hP hD hS ls (lv_sub hl [0, 1] rfl)
  refine lv_if_lt (tgt := 19) G.1 G.2.1 d_Wr_writeCode_6 (by decide) (fun c6 => ?_) (fun c6 => ?_)
  · skip
    have h := h.1 c6
    exact J_19 y s_2 0 0 v1 H locs h hP hD hS ls (lv_sub hl [0, 1] rfl)
  · skip
    have h := h.2 c6
    refine lv_aload_n G.1 G.2.1 d_Wr_writeCode_9 rfl (lv_at hl 0 rfl) ?_
    refine lv_aload_n G.1 G.2.1 d_Wr_writeCode_10 rfl (lv_at hl 0 rfl) ?_
    refine lv_iload_n G.1 G.2.1 d_Wr_writeCode_11 rfl (lv_at hl 1 rfl) ?_
    refine lv_iconst (v := 4) G.1 G.2.1 d_Wr_writeCode_12 (by decide) ?_
    refine ucVi (As := [.int v1, .int 4]) (rest := [.ref (ad a0)]) G hP hD hS (cu_Wr_code l D g ad y _ s_2 a0 v1 4 H.size h_a0 h) w9_Wr_code q2217 ⟨Nat.le_of_ble_eq_true rfl, Nat.le_of_ble_eq_true rfl⟩ rfl rfl h_a0 (q := (RWr, TWr, 7)) rfl rfl hl.1 rfl (Nat.le_of_ble_eq_true rfl) rfl hd d_Wr_writeCode_13 (fun r_141 s_142 H locs h hP hD hS => ?_)
    obtain ⟨mc_148, ms_149, hr_150, h⟩ := h
    refine uaVv (As := [.int r_141]) (rest := []) G hP hD hS (ca_Wr_writeFrame l D g ad mc_148 ms_149 y _ s_142 a0 r_141 H.size (us H) h_a0 h) w9_Wr_writeFrame q2231 ⟨Nat.le_of_ble_eq_true rfl, Nat.le_of_ble_eq_true rfl⟩ rfl rfl h_a0 (q := (RWr, TWr, 7)) rfl rfl hl.1 rfl (Nat.le_of_ble_eq_true rfl) rfl hr_150 d_Wr_writeCode_16 (fun y_145 s_144 d_146 e_147 H locs h hP hD hS => ?_)
    obtain ⟨hd, h⟩ := h
    exact J_19 y_145 s_144 (0 + d_146) (0 + e_147) v1 H locs h hP hD hS ls (lv_sub hl [0, 1] rfl)
def y_Wr_writeHandlers : MethodName := ⟨"ClassWorks$Writer", "writeHandlers", "()V"⟩
abbrev b_Wr_writeHandlers : ByteArray := prog_12_method_24_code
theorem d_Wr_writeHandlers_0 : decode b_Wr_writeHandlers 0 = .ok (.iconst 0, 1) := by decide +kernel
theorem d_Wr_writeHandlers_1 : decode b_Wr_writeHandlers 1 = .ok (.istore_n 1, 1) := by decide +kernel
theorem d_Wr_writeHandlers_2 : decode b_Wr_writeHandlers 2 = .ok (.iload_n 1, 1) := by decide +kernel
theorem d_Wr_writeHandlers_3 : decode b_Wr_writeHandlers 3 = .ok (.aload_n 0, 1) := by decide +kernel
theorem d_Wr_writeHandlers_4 : decode b_Wr_writeHandlers 4 = .ok (.getfield 39, 3) := by decide +kernel
theorem d_Wr_writeHandlers_7 : decode b_Wr_writeHandlers 7 = .ok (.aload_n 0, 1) := by decide +kernel
theorem d_Wr_writeHandlers_8 : decode b_Wr_writeHandlers 8 = .ok (.getfield 20, 3) := by decide +kernel
theorem d_Wr_writeHandlers_11 : decode b_Wr_writeHandlers 11 = .ok (.aload_n 0, 1) := by decide +kernel
theorem d_Wr_writeHandlers_12 : decode b_Wr_writeHandlers 12 = .ok (.getfield 24, 3) := by decide +kernel
theorem d_Wr_writeHandlers_15 : decode b_Wr_writeHandlers 15 = .ok (.bipush 7, 2) := by decide +kernel
theorem d_Wr_writeHandlers_17 : decode b_Wr_writeHandlers 17 = .ok (.invokevirtual 109, 3) := by decide +kernel
theorem d_Wr_writeHandlers_20 : decode b_Wr_writeHandlers 20 = .ok (.if_icmp .ge 64, 3) := by decide +kernel
theorem d_Wr_writeHandlers_23 : decode b_Wr_writeHandlers 23 = .ok (.aload_n 0, 1) := by decide +kernel
theorem d_Wr_writeHandlers_24 : decode b_Wr_writeHandlers 24 = .ok (.iconst 2, 1) := by decide +kernel
theorem d_Wr_writeHandlers_25 : decode b_Wr_writeHandlers 25 = .ok (.invokevirtual 61, 3) := by decide +kernel
theorem d_Wr_writeHandlers_28 : decode b_Wr_writeHandlers 28 = .ok (.aload_n 0, 1) := by decide +kernel
theorem d_Wr_writeHandlers_29 : decode b_Wr_writeHandlers 29 = .ok (.bipush 35, 2) := by decide +kernel
theorem d_Wr_writeHandlers_31 : decode b_Wr_writeHandlers 31 = .ok (.invokevirtual 64, 3) := by decide +kernel
theorem d_Wr_writeHandlers_34 : decode b_Wr_writeHandlers 34 = .ok (.aload_n 0, 1) := by decide +kernel
theorem d_Wr_writeHandlers_35 : decode b_Wr_writeHandlers 35 = .ok (.aload_n 0, 1) := by decide +kernel
theorem d_Wr_writeHandlers_36 : decode b_Wr_writeHandlers 36 = .ok (.iload_n 1, 1) := by decide +kernel
theorem d_Wr_writeHandlers_37 : decode b_Wr_writeHandlers 37 = .ok (.iconst 0, 1) := by decide +kernel
theorem d_Wr_writeHandlers_38 : decode b_Wr_writeHandlers 38 = .ok (.invokevirtual 169, 3) := by decide +kernel
theorem d_Wr_writeHandlers_41 : decode b_Wr_writeHandlers 41 = .ok (.invokevirtual 120, 3) := by decide +kernel
theorem d_Wr_writeHandlers_44 : decode b_Wr_writeHandlers 44 = .ok (.aload_n 0, 1) := by decide +kernel
theorem d_Wr_writeHandlers_45 : decode b_Wr_writeHandlers 45 = .ok (.aload_n 0, 1) := by decide +kernel
theorem d_Wr_writeHandlers_46 : decode b_Wr_writeHandlers 46 = .ok (.iload_n 1, 1) := by decide +kernel
theorem d_Wr_writeHandlers_47 : decode b_Wr_writeHandlers 47 = .ok (.iconst 1, 1) := by decide +kernel
theorem d_Wr_writeHandlers_48 : decode b_Wr_writeHandlers 48 = .ok (.invokevirtual 169, 3) := by decide +kernel
theorem d_Wr_writeHandlers_51 : decode b_Wr_writeHandlers 51 = .ok (.invokevirtual 120, 3) := by decide +kernel
theorem d_Wr_writeHandlers_54 : decode b_Wr_writeHandlers 54 = .ok (.aload_n 0, 1) := by decide +kernel
theorem d_Wr_writeHandlers_55 : decode b_Wr_writeHandlers 55 = .ok (.aload_n 0, 1) := by decide +kernel
theorem d_Wr_writeHandlers_56 : decode b_Wr_writeHandlers 56 = .ok (.iload_n 1, 1) := by decide +kernel
theorem d_Wr_writeHandlers_57 : decode b_Wr_writeHandlers 57 = .ok (.iconst 2, 1) := by decide +kernel
theorem d_Wr_writeHandlers_58 : decode b_Wr_writeHandlers 58 = .ok (.invokevirtual 169, 3) := by decide +kernel
theorem d_Wr_writeHandlers_61 : decode b_Wr_writeHandlers 61 = .ok (.invokevirtual 120, 3) := by decide +kernel
theorem d_Wr_writeHandlers_64 : decode b_Wr_writeHandlers 64 = .ok (.aload_n 0, 1) := by decide +kernel
theorem d_Wr_writeHandlers_65 : decode b_Wr_writeHandlers 65 = .ok (.aload_n 0, 1) := by decide +kernel
theorem d_Wr_writeHandlers_66 : decode b_Wr_writeHandlers 66 = .ok (.iload_n 1, 1) := by decide +kernel
theorem d_Wr_writeHandlers_67 : decode b_Wr_writeHandlers 67 = .ok (.iconst 3, 1) := by decide +kernel
theorem d_Wr_writeHandlers_68 : decode b_Wr_writeHandlers 68 = .ok (.invokevirtual 169, 3) := by decide +kernel
theorem d_Wr_writeHandlers_71 : decode b_Wr_writeHandlers 71 = .ok (.invokevirtual 64, 3) := by decide +kernel
theorem d_Wr_writeHandlers_74 : decode b_Wr_writeHandlers 74 = .ok (.aload_n 0, 1) := by decide +kernel
theorem d_Wr_writeHandlers_75 : decode b_Wr_writeHandlers 75 = .ok (.invokevirtual 67, 3) := by decide +kernel
theorem d_Wr_writeHandlers_78 : decode b_Wr_writeHandlers 78 = .ok (.iinc 1 1, 3) := by decide +kernel
theorem d_Wr_writeHandlers_81 : decode b_Wr_writeHandlers 81 = .ok (.goto (-79), 3) := by decide +kernel
theorem d_Wr_writeHandlers_84 : decode b_Wr_writeHandlers 84 = .ok (.return_, 1) := by decide +kernel
abbrev ra_Wr_writeHandlers (mc ms : Nat) : Room := { frames := 7, cells := mc, slots := ms, locals := 468 }
def wba_Wr_writeHandlers_2 (mc ms : Nat) (Post : Ly → St → Nat → Nat → Prop) (K_2 : Ly → St → Nat → Nat → Int32 → Prop) (a0 : Nat) (y_h2 : Ly) (s_h2 : St) (d_h2 e_h2 : Nat) (x1h2 : Int32) : Prop := (d_h2 ≤ mc ∧ e_h2 ≤ ms) ∧ ∃ b_1 : Nat, sO s_h2 a0 2 = some b_1 ∧ cl b_1 = 9 ∧ wu_Wd_method y_h2 (fun (s_5 : St) (r_4 : Int32) => ((r_4 ≤ x1h2 → Post y_h2 s_5 d_h2 e_h2) ∧ (¬ (r_4 ≤ x1h2) → ∃ mc_11 ms_12 : Nat, (d_h2 + mc_11 ≤ mc ∧ e_h2 + ms_12 ≤ ms) ∧ wa_Wr_beginLine mc_11 ms_12 y_h2 (fun (y_8 : Ly) (s_7 : St) (d_9 e_10 : Nat) => (d_h2 + d_9 ≤ mc ∧ e_h2 + e_10 ≤ ms) ∧ ∃ mc_19 ms_20 : Nat, (d_h2 + d_9 + mc_19 ≤ mc ∧ e_h2 + e_10 + ms_20 ≤ ms) ∧ wa_Wr_word mc_19 ms_20 y_8 (fun (y_16 : Ly) (s_15 : St) (d_17 e_18 : Nat) => (d_h2 + d_9 + d_17 ≤ mc ∧ e_h2 + e_10 + e_18 ≤ ms) ∧ wu_Wr_handler y_16 (fun (s_23 : St) (r_22 : Int32) => ∃ mc_29 ms_30 : Nat, (d_h2 + d_9 + d_17 + mc_29 ≤ mc ∧ e_h2 + e_10 + e_18 + ms_30 ≤ ms) ∧ wa_Wr_label mc_29 ms_30 y_16 (fun (y_26 : Ly) (s_25 : St) (d_27 e_28 : Nat) => (d_h2 + d_9 + d_17 + d_27 ≤ mc ∧ e_h2 + e_10 + e_18 + e_28 ≤ ms) ∧ wu_Wr_handler y_26 (fun (s_33 : St) (r_32 : Int32) => ∃ mc_39 ms_40 : Nat, (d_h2 + d_9 + d_17 + d_27 + mc_39 ≤ mc ∧ e_h2 + e_10 + e_18 + e_28 + ms_40 ≤ ms) ∧ wa_Wr_label mc_39 ms_40 y_26 (fun (y_36 : Ly) (s_35 : St) (d_37 e_38 : Nat) => (d_h2 + d_9 + d_17 + d_27 + d_37 ≤ mc ∧ e_h2 + e_10 + e_18 + e_28 + e_38 ≤ ms) ∧ wu_Wr_handler y_36 (fun (s_43 : St) (r_42 : Int32) => ∃ mc_49 ms_50 : Nat, (d_h2 + d_9 + d_17 + d_27 + d_37 + mc_49 ≤ mc ∧ e_h2 + e_10 + e_18 + e_28 + e_38 + ms_50 ≤ ms) ∧ wa_Wr_label mc_49 ms_50 y_36 (fun (y_46 : Ly) (s_45 : St) (d_47 e_48 : Nat) => (d_h2 + d_9 + d_17 + d_27 + d_37 + d_47 ≤ mc ∧ e_h2 + e_10 + e_18 + e_28 + e_38 + e_48 ≤ ms) ∧ wu_Wr_handler y_46 (fun (s_53 : St) (r_52 : Int32) => ∃ mc_59 ms_60 : Nat, (d_h2 + d_9 + d_17 + d_27 + d_37 + d_47 + mc_59 ≤ mc ∧ e_h2 + e_10 + e_18 + e_28 + e_38 + e_48 + ms_60 ≤ ms) ∧ wa_Wr_word mc_59 ms_60 y_46 (fun (y_56 : Ly) (s_55 : St) (d_57 e_58 : Nat) => (d_h2 + d_9 + d_17 + d_27 + d_37 + d_47 + d_57 ≤ mc ∧ e_h2 + e_10 + e_18 + e_28 + e_38 + e_48 + e_58 ≤ ms) ∧ ∃ mc_67 ms_68 : Nat, (d_h2 + d_9 + d_17 + d_27 + d_37 + d_47 + d_57 + mc_67 ≤ mc ∧ e_h2 + e_10 + e_18 + e_28 + e_38 + e_48 + e_58 + ms_68 ≤ ms) ∧ wa_Wr_endLine mc_67 ms_68 y_56 (fun (y_64 : Ly) (s_63 : St) (d_65 e_66 : Nat) => (d_h2 + d_9 + d_17 + d_27 + d_37 + d_47 + d_57 + d_65 ≤ mc ∧ e_h2 + e_10 + e_18 + e_28 + e_38 + e_48 + e_58 + e_66 ≤ ms) ∧ K_2 y_64 s_63 (d_h2 + d_9 + d_17 + d_27 + d_37 + d_47 + d_57 + d_65) (e_h2 + e_10 + e_18 + e_28 + e_38 + e_48 + e_58 + e_66) (x1h2 + 1)) s_55 a0) s_53 a0 r_52) s_45 a0 x1h2 3) s_43 a0 r_42) s_35 a0 x1h2 2) s_33 a0 r_32) s_25 a0 x1h2 1) s_23 a0 r_22) s_15 a0 x1h2 0) s_7 a0 35) s_5 a0 2))) s_h2 b_1 (sV s_h2 a0 3) (sV s_h2 a0 4) 7
def wla_Wr_writeHandlers_2 (mc ms : Nat) (Post : Ly → St → Nat → Nat → Prop) (a0 : Nat) (y_h2 : Ly) (s_h2 : St) (d_h2 e_h2 : Nat) (x1h2 : Int32) : Prop := ∃ (I : Ly → St → Nat → Nat → Int32 → Prop) (μ : Ly → St → Nat → Nat → Int32 → Nat), I y_h2 s_h2 d_h2 e_h2 x1h2 ∧ ∀ (u1 : Ly) (u2 : St) (u3 u4 : Nat) (t0 : Int32), I u1 u2 u3 u4 t0 → wba_Wr_writeHandlers_2 mc ms Post (fun z1 z2 z3 z4 t0q => I z1 z2 z3 z4 t0q ∧ μ z1 z2 z3 z4 t0q < μ u1 u2 u3 u4 t0) a0 u1 u2 u3 u4 t0
def wa_Wr_writeHandlers (mc ms : Nat) (y : Ly) (Post : Ly → St → Nat → Nat → Prop) (σ : St) (a0 : Nat) : Prop := wla_Wr_writeHandlers_2 mc ms Post a0 y σ 0 0 0
set_option maxHeartbeats 4000000 in
set_option maxRecDepth 100000 in
theorem ca_Wr_writeHandlers (l : Launch) (D : va_G) (g : Nat → ClassId) (ad : Nat → Nat) (mc ms : Nat) (y : Ly) (Post : Ly → St → Nat → Nat → Prop) (σ : St) (a0 : Nat) (sz uz : Nat) (h_a0 : cl a0 = 10) (h : wa_Wr_writeHandlers mc ms y Post σ a0) : Met l y_Wr_writeHandlers (mw y_Wr_writeHandlers b_Wr_writeHandlers 2 (none)) (ra_Wr_writeHandlers mc ms) (PCu g D [] [.ref (ad a0)] sz uz (ws g ad y σ)) (va_Qv (fun (u : Ly × St × Nat × Nat) => Post u.1 u.2.1 u.2.2.1 u.2.2.2) (QU D (va_A (ws g ad y σ) sz) (fun u => ws g ad u.1 u.2.1) sz uz (fun u => u.2.2.1) (fun u => u.2.2.2)) (va_A (ws g ad y σ) sz)) mc ms (va_A (ws g ad y σ) sz) := by
  refine ofVu (by decide +kernel) (Nat.le_of_ble_eq_true rfl) ?_
  intro p e s m args below meth c A Q ls H locs G hsz hP hD hS hl hret
  subst hsz
  have hl : lv_has ls 2 [(0, .ref (ad a0))] := hl
  have hd : 0 ≤ mc ∧ 0 ≤ ms := ⟨Nat.zero_le _, Nat.zero_le _⟩
  unfold wa_Wr_writeHandlers at h
  refine lv_iconst (v := 0) G.1 G.2.1 d_Wr_writeHandlers_0 (by decide) ?_
  refine lv_istore_n (lv' := [(1, .int 0), (0, .ref (ad a0))]) G.1 G.2.1 d_Wr_writeHandlers_1 rfl hl (by decide) rfl (fun ls hl => ?_)
  unfold wla_Wr_writeHandlers_2 at h
  obtain ⟨I_2, μ_2, hI_2, hB_2⟩ := h
  have L_2 : ∀ (n_2 : Nat) (y_h2 : Ly) (s_h2 : St) (d_h2 e_h2 : Nat) (x1h2 : Int32), μ_2 y_h2 s_h2 d_h2 e_h2 x1h2 < n_2 → I_2 y_h2 s_h2 d_h2 e_h2 x1h2 → ∀ (H : Heap) (locs : List Loc), va_P D CL (ws g ad y_h2 s_h2) H → va_D A (ws g ad y_h2 s_h2) → va_S A s.heap H locs → ∀ ls, lv_has ls 2 [(0, .ref (ad a0)), (1, .int x1h2)] → W p l e (ra_Wr_writeHandlers mc ms) s m args below meth c H locs d_h2 e_h2 Q (F0 m 2 ls []) := by
    intro n_2
    induction n_2 with
    | zero => intro y_h2 s_h2 d_h2 e_h2 x1h2 hμ; exact absurd hμ (Nat.not_lt_zero _)
    | succ n_2 ih_2 =>
      intro y_h2 s_h2 d_h2 e_h2 x1h2 hμ_2 hJ H locs hP hD hS ls hl
      obtain ⟨K_2, hK_2, h⟩ : ∃ K : Ly → St → Nat → Nat → Int32 → Prop, (∀ z1 z2 z3 z4 (t0 : Int32), K z1 z2 z3 z4 t0 → I_2 z1 z2 z3 z4 t0 ∧ μ_2 z1 z2 z3 z4 t0 < μ_2 y_h2 s_h2 d_h2 e_h2 x1h2) ∧ wba_Wr_writeHandlers_2 mc ms Post K a0 y_h2 s_h2 d_h2 e_h2 x1h2 := ⟨_, fun _ _ _ _ _ h => h, hB_2 y_h2 s_h2 d_h2 e_h2 x1h2 hJ⟩
      unfold wba_Wr_writeHandlers_2 at h
      obtain ⟨hd, h⟩ := h
      refine lv_iload_n G.1 G.2.1 d_Wr_writeHandlers_2 rfl (lv_at hl 1 rfl) ?_
      refine lv_aload_n G.1 G.2.1 d_Wr_writeHandlers_3 rfl (lv_at hl 0 rfl) ?_
      obtain ⟨b_1, e_2, c_3, h⟩ := h
      refine ugf (v := .ref (ad b_1)) G hP h_a0 iWr rfl 2 (by decide) rfl q774 rfl (by show va_rf ((sO s_h2 a0 2).map ad) = _; rw [e_2]; rfl) d_Wr_writeHandlers_4 ?_
      refine lv_aload_n G.1 G.2.1 d_Wr_writeHandlers_7 rfl (lv_at hl 0 rfl) ?_
      refine ugf (v := .int (sV s_h2 a0 3)) G hP h_a0 iWr rfl 3 (by decide) rfl q775 rfl rfl d_Wr_writeHandlers_8 ?_
      refine lv_aload_n G.1 G.2.1 d_Wr_writeHandlers_11 rfl (lv_at hl 0 rfl) ?_
      refine ugf (v := .int (sV s_h2 a0 4)) G hP h_a0 iWr rfl 4 (by decide) rfl q776 rfl rfl d_Wr_writeHandlers_12 ?_
      refine lv_bipush (v := 7) G.1 G.2.1 d_Wr_writeHandlers_15 (by decide) ?_
      refine ucVi (As := [.int (sV s_h2 a0 3), .int (sV s_h2 a0 4), .int 7]) (rest := [.int x1h2]) G hP hD hS (cu_Wd_method l D g ad y_h2 _ s_h2 b_1 (sV s_h2 a0 3) (sV s_h2 a0 4) 7 H.size c_3 h) w9_Wd_method q2202 ⟨Nat.le_of_ble_eq_true rfl, Nat.le_of_ble_eq_true rfl⟩ rfl rfl c_3 (q := (RWd, TWd, 17)) rfl rfl hl.1 rfl (Nat.le_of_ble_eq_true rfl) rfl hd d_Wr_writeHandlers_17 (fun r_4 s_5 H locs h hP hD hS => ?_)
      refine lv_icmp_ge (tgt := 84) G.1 G.2.1 d_Wr_writeHandlers_20 (by decide) (fun c20 => ?_) (fun c20 => ?_)
      · skip
        have h := h.1 c20
        exact hret (y_h2, s_5, d_h2, e_h2) _ _ _ _ _ ls h hP hD hS (Nat.le_refl _) (Nat.le_refl _) hd.1 hd.2 d_Wr_writeHandlers_84
      · skip
        have h := h.2 c20
        refine lv_aload_n G.1 G.2.1 d_Wr_writeHandlers_23 rfl (lv_at hl 0 rfl) ?_
        refine W.eq (g2 := F0 m 24 ls [.ref (ad a0)]) rfl ?_
        refine lv_iconst (v := 2) G.1 G.2.1 d_Wr_writeHandlers_24 (by decide) ?_
        obtain ⟨mc_11, ms_12, hr_13, h⟩ := h
        refine uaVv (As := [.int 2]) (rest := []) G hP hD hS (ca_Wr_beginLine l D g ad mc_11 ms_12 y_h2 _ s_5 a0 2 H.size (us H) h_a0 h) w9_Wr_beginLine q2155 ⟨Nat.le_of_ble_eq_true rfl, Nat.le_of_ble_eq_true rfl⟩ rfl rfl h_a0 (q := (RWr, TWr, 7)) rfl rfl hl.1 rfl (Nat.le_of_ble_eq_true rfl) rfl hr_13 d_Wr_writeHandlers_25 (fun y_8 s_7 d_9 e_10 H locs h hP hD hS => ?_)
        obtain ⟨hd, h⟩ := h
        refine lv_aload_n G.1 G.2.1 d_Wr_writeHandlers_28 rfl (lv_at hl 0 rfl) ?_
        refine lv_bipush (v := 35) G.1 G.2.1 d_Wr_writeHandlers_29 (by decide) ?_
        obtain ⟨mc_19, ms_20, hr_21, h⟩ := h
        refine uaVv (As := [.int 35]) (rest := []) G hP hD hS (ca_Wr_word l D g ad mc_19 ms_20 y_8 _ s_7 a0 35 H.size (us H) h_a0 h) w9_Wr_word q2164 ⟨Nat.le_of_ble_eq_true rfl, Nat.le_of_ble_eq_true rfl⟩ rfl rfl h_a0 (q := (RWr, TWr, 7)) rfl rfl hl.1 rfl (Nat.le_of_ble_eq_true rfl) rfl hr_21 d_Wr_writeHandlers_31 (fun y_16 s_15 d_17 e_18 H locs h hP hD hS => ?_)
        obtain ⟨hd, h⟩ := h
        refine lv_aload_n G.1 G.2.1 d_Wr_writeHandlers_34 rfl (lv_at hl 0 rfl) ?_
        refine lv_aload_n G.1 G.2.1 d_Wr_writeHandlers_35 rfl (lv_at hl 0 rfl) ?_
        refine lv_iload_n G.1 G.2.1 d_Wr_writeHandlers_36 rfl (lv_at hl 1 rfl) ?_
        refine lv_iconst (v := 0) G.1 G.2.1 d_Wr_writeHandlers_37 (by decide) ?_
        refine ucVi (As := [.int x1h2, .int 0]) (rest := [.ref (ad a0)]) G hP hD hS (cu_Wr_handler l D g ad y_16 _ s_15 a0 x1h2 0 H.size h_a0 h) w9_Wr_handler q2223 ⟨Nat.le_of_ble_eq_true rfl, Nat.le_of_ble_eq_true rfl⟩ rfl rfl h_a0 (q := (RWr, TWr, 7)) rfl rfl hl.1 rfl (Nat.le_of_ble_eq_true rfl) rfl hd d_Wr_writeHandlers_38 (fun r_22 s_23 H locs h hP hD hS => ?_)
        obtain ⟨mc_29, ms_30, hr_31, h⟩ := h
        refine uaVv (As := [.int r_22]) (rest := []) G hP hD hS (ca_Wr_label l D g ad mc_29 ms_30 y_16 _ s_23 a0 r_22 H.size (us H) h_a0 h) w9_Wr_label q2239 ⟨Nat.le_of_ble_eq_true rfl, Nat.le_of_ble_eq_true rfl⟩ rfl rfl h_a0 (q := (RWr, TWr, 7)) rfl rfl hl.1 rfl (Nat.le_of_ble_eq_true rfl) rfl hr_31 d_Wr_writeHandlers_41 (fun y_26 s_25 d_27 e_28 H locs h hP hD hS => ?_)
        obtain ⟨hd, h⟩ := h
        refine lv_aload_n G.1 G.2.1 d_Wr_writeHandlers_44 rfl (lv_at hl 0 rfl) ?_
        refine W.eq (g2 := F0 m 45 ls [.ref (ad a0)]) rfl ?_
        refine lv_aload_n G.1 G.2.1 d_Wr_writeHandlers_45 rfl (lv_at hl 0 rfl) ?_
        refine lv_iload_n G.1 G.2.1 d_Wr_writeHandlers_46 rfl (lv_at hl 1 rfl) ?_
        refine lv_iconst (v := 1) G.1 G.2.1 d_Wr_writeHandlers_47 (by decide) ?_
        refine ucVi (As := [.int x1h2, .int 1]) (rest := [.ref (ad a0)]) G hP hD hS (cu_Wr_handler l D g ad y_26 _ s_25 a0 x1h2 1 H.size h_a0 h) w9_Wr_handler q2223 ⟨Nat.le_of_ble_eq_true rfl, Nat.le_of_ble_eq_true rfl⟩ rfl rfl h_a0 (q := (RWr, TWr, 7)) rfl rfl hl.1 rfl (Nat.le_of_ble_eq_true rfl) rfl hd d_Wr_writeHandlers_48 (fun r_32 s_33 H locs h hP hD hS => ?_)
        obtain ⟨mc_39, ms_40, hr_41, h⟩ := h
        refine uaVv (As := [.int r_32]) (rest := []) G hP hD hS (ca_Wr_label l D g ad mc_39 ms_40 y_26 _ s_33 a0 r_32 H.size (us H) h_a0 h) w9_Wr_label q2239 ⟨Nat.le_of_ble_eq_true rfl, Nat.le_of_ble_eq_true rfl⟩ rfl rfl h_a0 (q := (RWr, TWr, 7)) rfl rfl hl.1 rfl (Nat.le_of_ble_eq_true rfl) rfl hr_41 d_Wr_writeHandlers_51 (fun y_36 s_35 d_37 e_38 H locs h hP hD hS => ?_)
        obtain ⟨hd, h⟩ := h
        refine lv_aload_n G.1 G.2.1 d_Wr_writeHandlers_54 rfl (lv_at hl 0 rfl) ?_
        refine lv_aload_n G.1 G.2.1 d_Wr_writeHandlers_55 rfl (lv_at hl 0 rfl) ?_
        refine lv_iload_n G.1 G.2.1 d_Wr_writeHandlers_56 rfl (lv_at hl 1 rfl) ?_
        refine lv_iconst (v := 2) G.1 G.2.1 d_Wr_writeHandlers_57 (by decide) ?_
        refine ucVi (As := [.int x1h2, .int 2]) (rest := [.ref (ad a0)]) G hP hD hS (cu_Wr_handler l D g ad y_36 _ s_35 a0 x1h2 2 H.size h_a0 h) w9_Wr_handler q2223 ⟨Nat.le_of_ble_eq_true rfl, Nat.le_of_ble_eq_true rfl⟩ rfl rfl h_a0 (q := (RWr, TWr, 7)) rfl rfl hl.1 rfl (Nat.le_of_ble_eq_true rfl) rfl hd d_Wr_writeHandlers_58 (fun r_42 s_43 H locs h hP hD hS => ?_)
        obtain ⟨mc_49, ms_50, hr_51, h⟩ := h
        refine uaVv (As := [.int r_42]) (rest := []) G hP hD hS (ca_Wr_label l D g ad mc_49 ms_50 y_36 _ s_43 a0 r_42 H.size (us H) h_a0 h) w9_Wr_label q2239 ⟨Nat.le_of_ble_eq_true rfl, Nat.le_of_ble_eq_true rfl⟩ rfl rfl h_a0 (q := (RWr, TWr, 7)) rfl rfl hl.1 rfl (Nat.le_of_ble_eq_true rfl) rfl hr_51 d_Wr_writeHandlers_61 (fun y_46 s_45 d_47 e_48 H locs h hP hD hS => ?_)
        obtain ⟨hd, h⟩ := h
        refine lv_aload_n G.1 G.2.1 d_Wr_writeHandlers_64 rfl (lv_at hl 0 rfl) ?_
        refine W.eq (g2 := F0 m 65 ls [.ref (ad a0)]) rfl ?_
        refine lv_aload_n G.1 G.2.1 d_Wr_writeHandlers_65 rfl (lv_at hl 0 rfl) ?_
        refine lv_iload_n G.1 G.2.1 d_Wr_writeHandlers_66 rfl (lv_at hl 1 rfl) ?_
        refine lv_iconst (v := 3) G.1 G.2.1 d_Wr_writeHandlers_67 (by decide) ?_
        refine ucVi (As := [.int x1h2, .int 3]) (rest := [.ref (ad a0)]) G hP hD hS (cu_Wr_handler l D g ad y_46 _ s_45 a0 x1h2 3 H.size h_a0 h) w9_Wr_handler q2223 ⟨Nat.le_of_ble_eq_true rfl, Nat.le_of_ble_eq_true rfl⟩ rfl rfl h_a0 (q := (RWr, TWr, 7)) rfl rfl hl.1 rfl (Nat.le_of_ble_eq_true rfl) rfl hd d_Wr_writeHandlers_68 (fun r_52 s_53 H locs h hP hD hS => ?_)
        obtain ⟨mc_59, ms_60, hr_61, h⟩ := h
        refine uaVv (As := [.int r_52]) (rest := []) G hP hD hS (ca_Wr_word l D g ad mc_59 ms_60 y_46 _ s_53 a0 r_52 H.size (us H) h_a0 h) w9_Wr_word q2164 ⟨Nat.le_of_ble_eq_true rfl, Nat.le_of_ble_eq_true rfl⟩ rfl rfl h_a0 (q := (RWr, TWr, 7)) rfl rfl hl.1 rfl (Nat.le_of_ble_eq_true rfl) rfl hr_61 d_Wr_writeHandlers_71 (fun y_56 s_55 d_57 e_58 H locs h hP hD hS => ?_)
        obtain ⟨hd, h⟩ := h
        refine lv_aload_n G.1 G.2.1 d_Wr_writeHandlers_74 rfl (lv_at hl 0 rfl) ?_
        obtain ⟨mc_67, ms_68, hr_69, h⟩ := h
        refine uaVv (As := []) (rest := []) G hP hD hS (ca_Wr_endLine l D g ad mc_67 ms_68 y_56 _ s_55 a0 H.size (us H) h_a0 h) w9_Wr_endLine q2178 ⟨Nat.le_of_ble_eq_true rfl, Nat.le_of_ble_eq_true rfl⟩ rfl rfl h_a0 (q := (RWr, TWr, 7)) rfl rfl hl.1 rfl (Nat.le_of_ble_eq_true rfl) rfl hr_69 d_Wr_writeHandlers_75 (fun y_64 s_63 d_65 e_66 H locs h hP hD hS => ?_)
        obtain ⟨hd, h⟩ := h
        refine lv_iinc (v := x1h2 + 1) (lv' := [(1, .int (x1h2 + 1)), (0, .ref (ad a0))]) G.1 G.2.1 d_Wr_writeHandlers_78 hl (k := 1) rfl rfl (by decide) rfl (fun ls hl => ?_)
        refine lv_goto (tgt := 2) G.1 G.2.1 d_Wr_writeHandlers_81 (by decide) ?_
        have h := hK_2 y_64 s_63 (d_h2 + d_9 + d_17 + d_27 + d_37 + d_47 + d_57 + d_65) (e_h2 + e_10 + e_18 + e_28 + e_38 + e_48 + e_58 + e_66) (x1h2 + 1) h
        exact ih_2 y_64 s_63 (d_h2 + d_9 + d_17 + d_27 + d_37 + d_47 + d_57 + d_65) (e_h2 + e_10 + e_18 + e_28 + e_38 + e_48 + e_58 + e_66) (x1h2 + 1) (Nat.lt_of_lt_of_le h.2 (Nat.le_of_lt_succ hμ_2)) h.1 H locs hP hD hS ls (lv_sub hl [1, 0] rfl)
  exact L_2 _ y σ 0 0 0 (Nat.lt_succ_self _) hI_2 H locs hP hD hS ls (lv_sub hl [1, 0] rfl)
theorem q2211 : Cond.methodLink "ClassWorks$Writer" 114 y_Wr_numberLabels ∈ lw_ok := lw_okmem (List.mem_of_getElem? (i := 2211) (by decide +kernel)) rfl
theorem q2214 : Cond.code y_Wr_numberLabels b_Wr_numberLabels 5 (none) ∈ lw_ok := lw_okmem (List.mem_of_getElem? (i := 2214) (by decide +kernel)) rfl
theorem q2213 : Cond.instanceMethod y_Wr_numberLabels ∈ lw_ok := lw_okmem (List.mem_of_getElem? (i := 2213) (by decide +kernel)) rfl
theorem q130 : Cond.selects y_Wr_numberLabels.cls y_Wr_numberLabels y_Wr_numberLabels ∈ lw_ok := lw_okmem (List.mem_of_getElem? (i := 130) (by decide +kernel)) rfl
theorem w9_Wr_numberLabels : CWv y_Wr_numberLabels b_Wr_numberLabels 5 (none) 0 ∧ Cond.instanceMethod y_Wr_numberLabels ∈ lw_ok ∧ Cond.selects y_Wr_numberLabels.cls y_Wr_numberLabels y_Wr_numberLabels ∈ lw_ok := ⟨⟨q2214, q343, by decide +kernel, by decide +kernel, by decide +kernel⟩, q2213, q130⟩
theorem q2255 : Cond.methodLink "ClassWorks$Writer" 123 y_Wr_writeHandlers ∈ lw_ok := lw_okmem (List.mem_of_getElem? (i := 2255) (by decide +kernel)) rfl
theorem q2258 : Cond.code y_Wr_writeHandlers b_Wr_writeHandlers 2 (none) ∈ lw_ok := lw_okmem (List.mem_of_getElem? (i := 2258) (by decide +kernel)) rfl
theorem q2257 : Cond.instanceMethod y_Wr_writeHandlers ∈ lw_ok := lw_okmem (List.mem_of_getElem? (i := 2257) (by decide +kernel)) rfl
theorem q139 : Cond.selects y_Wr_writeHandlers.cls y_Wr_writeHandlers y_Wr_writeHandlers ∈ lw_ok := lw_okmem (List.mem_of_getElem? (i := 139) (by decide +kernel)) rfl
theorem w9_Wr_writeHandlers : CWv y_Wr_writeHandlers b_Wr_writeHandlers 2 (none) 0 ∧ Cond.instanceMethod y_Wr_writeHandlers ∈ lw_ok ∧ Cond.selects y_Wr_writeHandlers.cls y_Wr_writeHandlers y_Wr_writeHandlers ∈ lw_ok := ⟨⟨q2258, q343, by decide +kernel, by decide +kernel, by decide +kernel⟩, q2257, q139⟩
theorem q2227 : Cond.methodLink "ClassWorks$Writer" 117 y_Wr_writeCode ∈ lw_ok := lw_okmem (List.mem_of_getElem? (i := 2227) (by decide +kernel)) rfl
theorem q2230 : Cond.code y_Wr_writeCode b_Wr_writeCode 4 (none) ∈ lw_ok := lw_okmem (List.mem_of_getElem? (i := 2230) (by decide +kernel)) rfl
theorem q2229 : Cond.instanceMethod y_Wr_writeCode ∈ lw_ok := lw_okmem (List.mem_of_getElem? (i := 2229) (by decide +kernel)) rfl
theorem q133 : Cond.selects y_Wr_writeCode.cls y_Wr_writeCode y_Wr_writeCode ∈ lw_ok := lw_okmem (List.mem_of_getElem? (i := 133) (by decide +kernel)) rfl
theorem w9_Wr_writeCode : CWv y_Wr_writeCode b_Wr_writeCode 4 (none) 1 ∧ Cond.instanceMethod y_Wr_writeCode ∈ lw_ok ∧ Cond.selects y_Wr_writeCode.cls y_Wr_writeCode y_Wr_writeCode ∈ lw_ok := ⟨⟨q2230, q343, by decide +kernel, by decide +kernel, by decide +kernel⟩, q2229, q133⟩
def y_Wr_writeMethod : MethodName := ⟨"ClassWorks$Writer", "writeMethod", "()V"⟩
abbrev b_Wr_writeMethod : ByteArray := prog_12_method_13_code
theorem d_Wr_writeMethod_0 : decode b_Wr_writeMethod 0 = .ok (.aload_n 0, 1) := by decide +kernel
theorem d_Wr_writeMethod_1 : decode b_Wr_writeMethod 1 = .ok (.getfield 39, 3) := by decide +kernel
theorem d_Wr_writeMethod_4 : decode b_Wr_writeMethod 4 = .ok (.aload_n 0, 1) := by decide +kernel
theorem d_Wr_writeMethod_5 : decode b_Wr_writeMethod 5 = .ok (.getfield 20, 3) := by decide +kernel
theorem d_Wr_writeMethod_8 : decode b_Wr_writeMethod 8 = .ok (.aload_n 0, 1) := by decide +kernel
theorem d_Wr_writeMethod_9 : decode b_Wr_writeMethod 9 = .ok (.getfield 24, 3) := by decide +kernel
theorem d_Wr_writeMethod_12 : decode b_Wr_writeMethod 12 = .ok (.iconst 1, 1) := by decide +kernel
theorem d_Wr_writeMethod_13 : decode b_Wr_writeMethod 13 = .ok (.invokevirtual 109, 3) := by decide +kernel
theorem d_Wr_writeMethod_16 : decode b_Wr_writeMethod 16 = .ok (.istore_n 1, 1) := by decide +kernel
theorem d_Wr_writeMethod_17 : decode b_Wr_writeMethod 17 = .ok (.aload_n 0, 1) := by decide +kernel
theorem d_Wr_writeMethod_18 : decode b_Wr_writeMethod 18 = .ok (.iconst 1, 1) := by decide +kernel
theorem d_Wr_writeMethod_19 : decode b_Wr_writeMethod 19 = .ok (.invokevirtual 61, 3) := by decide +kernel
theorem d_Wr_writeMethod_22 : decode b_Wr_writeMethod 22 = .ok (.aload_n 0, 1) := by decide +kernel
theorem d_Wr_writeMethod_23 : decode b_Wr_writeMethod 23 = .ok (.bipush 32, 2) := by decide +kernel
theorem d_Wr_writeMethod_25 : decode b_Wr_writeMethod 25 = .ok (.invokevirtual 64, 3) := by decide +kernel
theorem d_Wr_writeMethod_28 : decode b_Wr_writeMethod 28 = .ok (.aload_n 0, 1) := by decide +kernel
theorem d_Wr_writeMethod_29 : decode b_Wr_writeMethod 29 = .ok (.iload_n 1, 1) := by decide +kernel
theorem d_Wr_writeMethod_30 : decode b_Wr_writeMethod 30 = .ok (.iconst 1, 1) := by decide +kernel
theorem d_Wr_writeMethod_31 : decode b_Wr_writeMethod 31 = .ok (.bipush 40, 2) := by decide +kernel
theorem d_Wr_writeMethod_33 : decode b_Wr_writeMethod 33 = .ok (.invokevirtual 94, 3) := by decide +kernel
theorem d_Wr_writeMethod_36 : decode b_Wr_writeMethod 36 = .ok (.aload_n 0, 1) := by decide +kernel
theorem d_Wr_writeMethod_37 : decode b_Wr_writeMethod 37 = .ok (.iload_n 1, 1) := by decide +kernel
theorem d_Wr_writeMethod_38 : decode b_Wr_writeMethod 38 = .ok (.iconst 2, 1) := by decide +kernel
theorem d_Wr_writeMethod_39 : decode b_Wr_writeMethod 39 = .ok (.bipush 37, 2) := by decide +kernel
theorem d_Wr_writeMethod_41 : decode b_Wr_writeMethod 41 = .ok (.invokevirtual 94, 3) := by decide +kernel
theorem d_Wr_writeMethod_44 : decode b_Wr_writeMethod 44 = .ok (.aload_n 0, 1) := by decide +kernel
theorem d_Wr_writeMethod_45 : decode b_Wr_writeMethod 45 = .ok (.iload_n 1, 1) := by decide +kernel
theorem d_Wr_writeMethod_46 : decode b_Wr_writeMethod 46 = .ok (.iconst 4, 1) := by decide +kernel
theorem d_Wr_writeMethod_47 : decode b_Wr_writeMethod 47 = .ok (.bipush 41, 2) := by decide +kernel
theorem d_Wr_writeMethod_49 : decode b_Wr_writeMethod 49 = .ok (.invokevirtual 94, 3) := by decide +kernel
theorem d_Wr_writeMethod_52 : decode b_Wr_writeMethod 52 = .ok (.aload_n 0, 1) := by decide +kernel
theorem d_Wr_writeMethod_53 : decode b_Wr_writeMethod 53 = .ok (.iload_n 1, 1) := by decide +kernel
theorem d_Wr_writeMethod_54 : decode b_Wr_writeMethod 54 = .ok (.bipush 8, 2) := by decide +kernel
theorem d_Wr_writeMethod_56 : decode b_Wr_writeMethod 56 = .ok (.bipush 38, 2) := by decide +kernel
theorem d_Wr_writeMethod_58 : decode b_Wr_writeMethod 58 = .ok (.invokevirtual 94, 3) := by decide +kernel
theorem d_Wr_writeMethod_61 : decode b_Wr_writeMethod 61 = .ok (.aload_n 0, 1) := by decide +kernel
theorem d_Wr_writeMethod_62 : decode b_Wr_writeMethod 62 = .ok (.aload_n 0, 1) := by decide +kernel
theorem d_Wr_writeMethod_63 : decode b_Wr_writeMethod 63 = .ok (.getfield 39, 3) := by decide +kernel
theorem d_Wr_writeMethod_66 : decode b_Wr_writeMethod 66 = .ok (.aload_n 0, 1) := by decide +kernel
theorem d_Wr_writeMethod_67 : decode b_Wr_writeMethod 67 = .ok (.getfield 20, 3) := by decide +kernel
theorem d_Wr_writeMethod_70 : decode b_Wr_writeMethod 70 = .ok (.aload_n 0, 1) := by decide +kernel
theorem d_Wr_writeMethod_71 : decode b_Wr_writeMethod 71 = .ok (.getfield 24, 3) := by decide +kernel
theorem d_Wr_writeMethod_74 : decode b_Wr_writeMethod 74 = .ok (.iconst 0, 1) := by decide +kernel
theorem d_Wr_writeMethod_75 : decode b_Wr_writeMethod 75 = .ok (.invokevirtual 109, 3) := by decide +kernel
theorem d_Wr_writeMethod_78 : decode b_Wr_writeMethod 78 = .ok (.invokevirtual 111, 3) := by decide +kernel
theorem d_Wr_writeMethod_81 : decode b_Wr_writeMethod 81 = .ok (.aload_n 0, 1) := by decide +kernel
theorem d_Wr_writeMethod_82 : decode b_Wr_writeMethod 82 = .ok (.invokevirtual 67, 3) := by decide +kernel
theorem d_Wr_writeMethod_85 : decode b_Wr_writeMethod 85 = .ok (.iload_n 1, 1) := by decide +kernel
theorem d_Wr_writeMethod_86 : decode b_Wr_writeMethod 86 = .ok (.bipush 8, 2) := by decide +kernel
theorem d_Wr_writeMethod_88 : decode b_Wr_writeMethod 88 = .ok (.iand, 1) := by decide +kernel
theorem d_Wr_writeMethod_89 : decode b_Wr_writeMethod 89 = .ok (.ifCond .eq 4, 3) := by decide +kernel
theorem d_Wr_writeMethod_92 : decode b_Wr_writeMethod 92 = .ok (.return_, 1) := by decide +kernel
theorem d_Wr_writeMethod_93 : decode b_Wr_writeMethod 93 = .ok (.aload_n 0, 1) := by decide +kernel
theorem d_Wr_writeMethod_94 : decode b_Wr_writeMethod 94 = .ok (.iconst 2, 1) := by decide +kernel
theorem d_Wr_writeMethod_95 : decode b_Wr_writeMethod 95 = .ok (.invokevirtual 61, 3) := by decide +kernel
theorem d_Wr_writeMethod_98 : decode b_Wr_writeMethod 98 = .ok (.aload_n 0, 1) := by decide +kernel
theorem d_Wr_writeMethod_99 : decode b_Wr_writeMethod 99 = .ok (.bipush 33, 2) := by decide +kernel
theorem d_Wr_writeMethod_101 : decode b_Wr_writeMethod 101 = .ok (.invokevirtual 64, 3) := by decide +kernel
theorem d_Wr_writeMethod_104 : decode b_Wr_writeMethod 104 = .ok (.aload_n 0, 1) := by decide +kernel
theorem d_Wr_writeMethod_105 : decode b_Wr_writeMethod 105 = .ok (.aload_n 0, 1) := by decide +kernel
theorem d_Wr_writeMethod_106 : decode b_Wr_writeMethod 106 = .ok (.getfield 39, 3) := by decide +kernel
theorem d_Wr_writeMethod_109 : decode b_Wr_writeMethod 109 = .ok (.aload_n 0, 1) := by decide +kernel
theorem d_Wr_writeMethod_110 : decode b_Wr_writeMethod 110 = .ok (.getfield 20, 3) := by decide +kernel
theorem d_Wr_writeMethod_113 : decode b_Wr_writeMethod 113 = .ok (.aload_n 0, 1) := by decide +kernel
theorem d_Wr_writeMethod_114 : decode b_Wr_writeMethod 114 = .ok (.getfield 24, 3) := by decide +kernel
theorem d_Wr_writeMethod_117 : decode b_Wr_writeMethod 117 = .ok (.iconst 2, 1) := by decide +kernel
theorem d_Wr_writeMethod_118 : decode b_Wr_writeMethod 118 = .ok (.invokevirtual 109, 3) := by decide +kernel
theorem d_Wr_writeMethod_121 : decode b_Wr_writeMethod 121 = .ok (.invokevirtual 106, 3) := by decide +kernel
theorem d_Wr_writeMethod_124 : decode b_Wr_writeMethod 124 = .ok (.aload_n 0, 1) := by decide +kernel
theorem d_Wr_writeMethod_125 : decode b_Wr_writeMethod 125 = .ok (.aload_n 0, 1) := by decide +kernel
theorem d_Wr_writeMethod_126 : decode b_Wr_writeMethod 126 = .ok (.getfield 39, 3) := by decide +kernel
theorem d_Wr_writeMethod_129 : decode b_Wr_writeMethod 129 = .ok (.aload_n 0, 1) := by decide +kernel
theorem d_Wr_writeMethod_130 : decode b_Wr_writeMethod 130 = .ok (.getfield 20, 3) := by decide +kernel
theorem d_Wr_writeMethod_133 : decode b_Wr_writeMethod 133 = .ok (.aload_n 0, 1) := by decide +kernel
theorem d_Wr_writeMethod_134 : decode b_Wr_writeMethod 134 = .ok (.getfield 24, 3) := by decide +kernel
theorem d_Wr_writeMethod_137 : decode b_Wr_writeMethod 137 = .ok (.iconst 3, 1) := by decide +kernel
theorem d_Wr_writeMethod_138 : decode b_Wr_writeMethod 138 = .ok (.invokevirtual 109, 3) := by decide +kernel
theorem d_Wr_writeMethod_141 : decode b_Wr_writeMethod 141 = .ok (.invokevirtual 106, 3) := by decide +kernel
theorem d_Wr_writeMethod_144 : decode b_Wr_writeMethod 144 = .ok (.aload_n 0, 1) := by decide +kernel
theorem d_Wr_writeMethod_145 : decode b_Wr_writeMethod 145 = .ok (.invokevirtual 67, 3) := by decide +kernel
theorem d_Wr_writeMethod_148 : decode b_Wr_writeMethod 148 = .ok (.aload_n 0, 1) := by decide +kernel
theorem d_Wr_writeMethod_149 : decode b_Wr_writeMethod 149 = .ok (.invokevirtual 114, 3) := by decide +kernel
theorem d_Wr_writeMethod_152 : decode b_Wr_writeMethod 152 = .ok (.aload_n 0, 1) := by decide +kernel
theorem d_Wr_writeMethod_153 : decode b_Wr_writeMethod 153 = .ok (.getfield 39, 3) := by decide +kernel
theorem d_Wr_writeMethod_156 : decode b_Wr_writeMethod 156 = .ok (.aload_n 0, 1) := by decide +kernel
theorem d_Wr_writeMethod_157 : decode b_Wr_writeMethod 157 = .ok (.getfield 20, 3) := by decide +kernel
theorem d_Wr_writeMethod_160 : decode b_Wr_writeMethod 160 = .ok (.aload_n 0, 1) := by decide +kernel
theorem d_Wr_writeMethod_161 : decode b_Wr_writeMethod 161 = .ok (.getfield 24, 3) := by decide +kernel
theorem d_Wr_writeMethod_164 : decode b_Wr_writeMethod 164 = .ok (.iconst 5, 1) := by decide +kernel
theorem d_Wr_writeMethod_165 : decode b_Wr_writeMethod 165 = .ok (.invokevirtual 109, 3) := by decide +kernel
theorem d_Wr_writeMethod_168 : decode b_Wr_writeMethod 168 = .ok (.istore_n 2, 1) := by decide +kernel
theorem d_Wr_writeMethod_169 : decode b_Wr_writeMethod 169 = .ok (.iconst 0, 1) := by decide +kernel
theorem d_Wr_writeMethod_170 : decode b_Wr_writeMethod 170 = .ok (.istore_n 3, 1) := by decide +kernel
theorem d_Wr_writeMethod_171 : decode b_Wr_writeMethod 171 = .ok (.iload_n 3, 1) := by decide +kernel
theorem d_Wr_writeMethod_172 : decode b_Wr_writeMethod 172 = .ok (.iload_n 2, 1) := by decide +kernel
theorem d_Wr_writeMethod_173 : decode b_Wr_writeMethod 173 = .ok (.if_icmp .ge 14, 3) := by decide +kernel
theorem d_Wr_writeMethod_176 : decode b_Wr_writeMethod 176 = .ok (.aload_n 0, 1) := by decide +kernel
theorem d_Wr_writeMethod_177 : decode b_Wr_writeMethod 177 = .ok (.iload_n 3, 1) := by decide +kernel
theorem d_Wr_writeMethod_178 : decode b_Wr_writeMethod 178 = .ok (.invokevirtual 117, 3) := by decide +kernel
theorem d_Wr_writeMethod_181 : decode b_Wr_writeMethod 181 = .ok (.iinc 3 1, 3) := by decide +kernel
theorem d_Wr_writeMethod_184 : decode b_Wr_writeMethod 184 = .ok (.goto (-13), 3) := by decide +kernel
theorem d_Wr_writeMethod_187 : decode b_Wr_writeMethod 187 = .ok (.aload_n 0, 1) := by decide +kernel
theorem d_Wr_writeMethod_188 : decode b_Wr_writeMethod 188 = .ok (.getfield 31, 3) := by decide +kernel
theorem d_Wr_writeMethod_191 : decode b_Wr_writeMethod 191 = .ok (.iload_n 2, 1) := by decide +kernel
theorem d_Wr_writeMethod_192 : decode b_Wr_writeMethod 192 = .ok (.iaload, 1) := by decide +kernel
theorem d_Wr_writeMethod_193 : decode b_Wr_writeMethod 193 = .ok (.ifCond .lt 23, 3) := by decide +kernel
theorem d_Wr_writeMethod_196 : decode b_Wr_writeMethod 196 = .ok (.aload_n 0, 1) := by decide +kernel
theorem d_Wr_writeMethod_197 : decode b_Wr_writeMethod 197 = .ok (.iconst 2, 1) := by decide +kernel
theorem d_Wr_writeMethod_198 : decode b_Wr_writeMethod 198 = .ok (.invokevirtual 61, 3) := by decide +kernel
theorem d_Wr_writeMethod_201 : decode b_Wr_writeMethod 201 = .ok (.aload_n 0, 1) := by decide +kernel
theorem d_Wr_writeMethod_202 : decode b_Wr_writeMethod 202 = .ok (.iload_n 2, 1) := by decide +kernel
theorem d_Wr_writeMethod_203 : decode b_Wr_writeMethod 203 = .ok (.invokevirtual 120, 3) := by decide +kernel
theorem d_Wr_writeMethod_206 : decode b_Wr_writeMethod 206 = .ok (.aload_n 0, 1) := by decide +kernel
theorem d_Wr_writeMethod_207 : decode b_Wr_writeMethod 207 = .ok (.bipush 58, 2) := by decide +kernel
theorem d_Wr_writeMethod_209 : decode b_Wr_writeMethod 209 = .ok (.invokevirtual 98, 3) := by decide +kernel
theorem d_Wr_writeMethod_212 : decode b_Wr_writeMethod 212 = .ok (.aload_n 0, 1) := by decide +kernel
theorem d_Wr_writeMethod_213 : decode b_Wr_writeMethod 213 = .ok (.invokevirtual 67, 3) := by decide +kernel
theorem d_Wr_writeMethod_216 : decode b_Wr_writeMethod 216 = .ok (.aload_n 0, 1) := by decide +kernel
theorem d_Wr_writeMethod_217 : decode b_Wr_writeMethod 217 = .ok (.invokevirtual 123, 3) := by decide +kernel
theorem d_Wr_writeMethod_220 : decode b_Wr_writeMethod 220 = .ok (.return_, 1) := by decide +kernel
abbrev ra_Wr_writeMethod (mc ms : Nat) : Room := { frames := 10, cells := mc, slots := ms, locals := 531 }
def wja_Wr_writeMethod_216 (mc ms : Nat) (Post : Ly → St → Nat → Nat → Prop) (a0 : Nat) (y_j216 : Ly) (s_j216 : St) (d_j216 e_j216 : Nat) : Prop := (d_j216 ≤ mc ∧ e_j216 ≤ ms) ∧ ∃ mc_138 ms_139 : Nat, (d_j216 + mc_138 ≤ mc ∧ e_j216 + ms_139 ≤ ms) ∧ wa_Wr_writeHandlers mc_138 ms_139 y_j216 (fun (y_135 : Ly) (s_134 : St) (d_136 e_137 : Nat) => (d_j216 + d_136 ≤ mc ∧ e_j216 + e_137 ≤ ms) ∧ Post y_135 s_134 (d_j216 + d_136) (e_j216 + e_137)) s_j216 a0
def wba_Wr_writeMethod_171 (mc ms : Nat) (Post : Ly → St → Nat → Nat → Prop) (K_171 : Ly → St → Nat → Nat → Int32 → Int32 → Prop) (a0 : Nat) (y_h171 : Ly) (s_h171 : St) (d_h171 e_h171 : Nat) (x2h171 : Int32) (x3h171 : Int32) : Prop := (d_h171 ≤ mc ∧ e_h171 ≤ ms) ∧ ((x2h171 ≤ x3h171 → xA y_h171 s_h171 a0 6 x2h171 (fun x_132 : Int32 => ((x_132 < 0 → wja_Wr_writeMethod_216 mc ms Post a0 y_h171 s_h171 d_h171 e_h171) ∧ (¬ (x_132 < 0) → ∃ mc_146 ms_147 : Nat, (d_h171 + mc_146 ≤ mc ∧ e_h171 + ms_147 ≤ ms) ∧ wa_Wr_beginLine mc_146 ms_147 y_h171 (fun (y_143 : Ly) (s_142 : St) (d_144 e_145 : Nat) => (d_h171 + d_144 ≤ mc ∧ e_h171 + e_145 ≤ ms) ∧ ∃ mc_154 ms_155 : Nat, (d_h171 + d_144 + mc_154 ≤ mc ∧ e_h171 + e_145 + ms_155 ≤ ms) ∧ wa_Wr_label mc_154 ms_155 y_143 (fun (y_151 : Ly) (s_150 : St) (d_152 e_153 : Nat) => (d_h171 + d_144 + d_152 ≤ mc ∧ e_h171 + e_145 + e_153 ≤ ms) ∧ ∃ mc_162 ms_163 : Nat, (d_h171 + d_144 + d_152 + mc_162 ≤ mc ∧ e_h171 + e_145 + e_153 + ms_163 ≤ ms) ∧ wa_Wr_sign mc_162 ms_163 y_151 (fun (y_159 : Ly) (s_158 : St) (d_160 e_161 : Nat) => (d_h171 + d_144 + d_152 + d_160 ≤ mc ∧ e_h171 + e_145 + e_153 + e_161 ≤ ms) ∧ ∃ mc_170 ms_171 : Nat, (d_h171 + d_144 + d_152 + d_160 + mc_170 ≤ mc ∧ e_h171 + e_145 + e_153 + e_161 + ms_171 ≤ ms) ∧ wa_Wr_endLine mc_170 ms_171 y_159 (fun (y_167 : Ly) (s_166 : St) (d_168 e_169 : Nat) => (d_h171 + d_144 + d_152 + d_160 + d_168 ≤ mc ∧ e_h171 + e_145 + e_153 + e_161 + e_169 ≤ ms) ∧ wja_Wr_writeMethod_216 mc ms Post a0 y_167 s_166 (d_h171 + d_144 + d_152 + d_160 + d_168) (e_h171 + e_145 + e_153 + e_161 + e_169)) s_158 a0) s_150 a0 58) s_142 a0 x2h171) s_h171 a0 2)))) ∧ (¬ (x2h171 ≤ x3h171) → ∃ mc_178 ms_179 : Nat, (d_h171 + mc_178 ≤ mc ∧ e_h171 + ms_179 ≤ ms) ∧ wa_Wr_writeCode mc_178 ms_179 y_h171 (fun (y_175 : Ly) (s_174 : St) (d_176 e_177 : Nat) => (d_h171 + d_176 ≤ mc ∧ e_h171 + e_177 ≤ ms) ∧ K_171 y_175 s_174 (d_h171 + d_176) (e_h171 + e_177) x2h171 (x3h171 + 1)) s_h171 a0 x3h171))
def wla_Wr_writeMethod_171 (mc ms : Nat) (Post : Ly → St → Nat → Nat → Prop) (a0 : Nat) (y_h171 : Ly) (s_h171 : St) (d_h171 e_h171 : Nat) (x2h171 : Int32) (x3h171 : Int32) : Prop := ∃ (I : Ly → St → Nat → Nat → Int32 → Int32 → Prop) (μ : Ly → St → Nat → Nat → Int32 → Int32 → Nat), I y_h171 s_h171 d_h171 e_h171 x2h171 x3h171 ∧ ∀ (u1 : Ly) (u2 : St) (u3 u4 : Nat) (t0 : Int32) (t1 : Int32), I u1 u2 u3 u4 t0 t1 → wba_Wr_writeMethod_171 mc ms Post (fun z1 z2 z3 z4 t0q t1q => I z1 z2 z3 z4 t0q t1q ∧ μ z1 z2 z3 z4 t0q t1q < μ u1 u2 u3 u4 t0 t1) a0 u1 u2 u3 u4 t0 t1
def wa_Wr_writeMethod (mc ms : Nat) (y : Ly) (Post : Ly → St → Nat → Nat → Prop) (σ : St) (a0 : Nat) : Prop := ∃ b_1 : Nat, sO σ a0 2 = some b_1 ∧ cl b_1 = 9 ∧ wu_Wd_method y (fun (s_5 : St) (r_4 : Int32) => ∃ mc_11 ms_12 : Nat, (0 + mc_11 ≤ mc ∧ 0 + ms_12 ≤ ms) ∧ wa_Wr_beginLine mc_11 ms_12 y (fun (y_8 : Ly) (s_7 : St) (d_9 e_10 : Nat) => (0 + d_9 ≤ mc ∧ 0 + e_10 ≤ ms) ∧ ∃ mc_19 ms_20 : Nat, (0 + d_9 + mc_19 ≤ mc ∧ 0 + e_10 + ms_20 ≤ ms) ∧ wa_Wr_word mc_19 ms_20 y_8 (fun (y_16 : Ly) (s_15 : St) (d_17 e_18 : Nat) => (0 + d_9 + d_17 ≤ mc ∧ 0 + e_10 + e_18 ≤ ms) ∧ ∃ mc_27 ms_28 : Nat, (0 + d_9 + d_17 + mc_27 ≤ mc ∧ 0 + e_10 + e_18 + ms_28 ≤ ms) ∧ wa_Wr_flag mc_27 ms_28 y_16 (fun (y_24 : Ly) (s_23 : St) (d_25 e_26 : Nat) => (0 + d_9 + d_17 + d_25 ≤ mc ∧ 0 + e_10 + e_18 + e_26 ≤ ms) ∧ ∃ mc_35 ms_36 : Nat, (0 + d_9 + d_17 + d_25 + mc_35 ≤ mc ∧ 0 + e_10 + e_18 + e_26 + ms_36 ≤ ms) ∧ wa_Wr_flag mc_35 ms_36 y_24 (fun (y_32 : Ly) (s_31 : St) (d_33 e_34 : Nat) => (0 + d_9 + d_17 + d_25 + d_33 ≤ mc ∧ 0 + e_10 + e_18 + e_26 + e_34 ≤ ms) ∧ ∃ mc_43 ms_44 : Nat, (0 + d_9 + d_17 + d_25 + d_33 + mc_43 ≤ mc ∧ 0 + e_10 + e_18 + e_26 + e_34 + ms_44 ≤ ms) ∧ wa_Wr_flag mc_43 ms_44 y_32 (fun (y_40 : Ly) (s_39 : St) (d_41 e_42 : Nat) => (0 + d_9 + d_17 + d_25 + d_33 + d_41 ≤ mc ∧ 0 + e_10 + e_18 + e_26 + e_34 + e_42 ≤ ms) ∧ ∃ mc_51 ms_52 : Nat, (0 + d_9 + d_17 + d_25 + d_33 + d_41 + mc_51 ≤ mc ∧ 0 + e_10 + e_18 + e_26 + e_34 + e_42 + ms_52 ≤ ms) ∧ wa_Wr_flag mc_51 ms_52 y_40 (fun (y_48 : Ly) (s_47 : St) (d_49 e_50 : Nat) => (0 + d_9 + d_17 + d_25 + d_33 + d_41 + d_49 ≤ mc ∧ 0 + e_10 + e_18 + e_26 + e_34 + e_42 + e_50 ≤ ms) ∧ ∃ b_54 : Nat, sO s_47 a0 2 = some b_54 ∧ cl b_54 = 9 ∧ wu_Wd_method y_48 (fun (s_58 : St) (r_57 : Int32) => ∃ mc_64 ms_65 : Nat, (0 + d_9 + d_17 + d_25 + d_33 + d_41 + d_49 + mc_64 ≤ mc ∧ 0 + e_10 + e_18 + e_26 + e_34 + e_42 + e_50 + ms_65 ≤ ms) ∧ wa_Wr_writeSign mc_64 ms_65 y_48 (fun (y_61 : Ly) (s_60 : St) (d_62 e_63 : Nat) => (0 + d_9 + d_17 + d_25 + d_33 + d_41 + d_49 + d_62 ≤ mc ∧ 0 + e_10 + e_18 + e_26 + e_34 + e_42 + e_50 + e_63 ≤ ms) ∧ ∃ mc_72 ms_73 : Nat, (0 + d_9 + d_17 + d_25 + d_33 + d_41 + d_49 + d_62 + mc_72 ≤ mc ∧ 0 + e_10 + e_18 + e_26 + e_34 + e_42 + e_50 + e_63 + ms_73 ≤ ms) ∧ wa_Wr_endLine mc_72 ms_73 y_61 (fun (y_69 : Ly) (s_68 : St) (d_70 e_71 : Nat) => (0 + d_9 + d_17 + d_25 + d_33 + d_41 + d_49 + d_62 + d_70 ≤ mc ∧ 0 + e_10 + e_18 + e_26 + e_34 + e_42 + e_50 + e_63 + e_71 ≤ ms) ∧ (((r_4 &&& 8) = 0 → ∃ mc_80 ms_81 : Nat, (0 + d_9 + d_17 + d_25 + d_33 + d_41 + d_49 + d_62 + d_70 + mc_80 ≤ mc ∧ 0 + e_10 + e_18 + e_26 + e_34 + e_42 + e_50 + e_63 + e_71 + ms_81 ≤ ms) ∧ wa_Wr_beginLine mc_80 ms_81 y_69 (fun (y_77 : Ly) (s_76 : St) (d_78 e_79 : Nat) => (0 + d_9 + d_17 + d_25 + d_33 + d_41 + d_49 + d_62 + d_70 + d_78 ≤ mc ∧ 0 + e_10 + e_18 + e_26 + e_34 + e_42 + e_50 + e_63 + e_71 + e_79 ≤ ms) ∧ ∃ mc_88 ms_89 : Nat, (0 + d_9 + d_17 + d_25 + d_33 + d_41 + d_49 + d_62 + d_70 + d_78 + mc_88 ≤ mc ∧ 0 + e_10 + e_18 + e_26 + e_34 + e_42 + e_50 + e_63 + e_71 + e_79 + ms_89 ≤ ms) ∧ wa_Wr_word mc_88 ms_89 y_77 (fun (y_85 : Ly) (s_84 : St) (d_86 e_87 : Nat) => (0 + d_9 + d_17 + d_25 + d_33 + d_41 + d_49 + d_62 + d_70 + d_78 + d_86 ≤ mc ∧ 0 + e_10 + e_18 + e_26 + e_34 + e_42 + e_50 + e_63 + e_71 + e_79 + e_87 ≤ ms) ∧ ∃ b_91 : Nat, sO s_84 a0 2 = some b_91 ∧ cl b_91 = 9 ∧ wu_Wd_method y_85 (fun (s_95 : St) (r_94 : Int32) => ∃ mc_101 ms_102 : Nat, (0 + d_9 + d_17 + d_25 + d_33 + d_41 + d_49 + d_62 + d_70 + d_78 + d_86 + mc_101 ≤ mc ∧ 0 + e_10 + e_18 + e_26 + e_34 + e_42 + e_50 + e_63 + e_71 + e_79 + e_87 + ms_102 ≤ ms) ∧ wa_Wr_number mc_101 ms_102 y_85 (fun (y_98 : Ly) (s_97 : St) (d_99 e_100 : Nat) => (0 + d_9 + d_17 + d_25 + d_33 + d_41 + d_49 + d_62 + d_70 + d_78 + d_86 + d_99 ≤ mc ∧ 0 + e_10 + e_18 + e_26 + e_34 + e_42 + e_50 + e_63 + e_71 + e_79 + e_87 + e_100 ≤ ms) ∧ ∃ b_104 : Nat, sO s_97 a0 2 = some b_104 ∧ cl b_104 = 9 ∧ wu_Wd_method y_98 (fun (s_108 : St) (r_107 : Int32) => ∃ mc_114 ms_115 : Nat, (0 + d_9 + d_17 + d_25 + d_33 + d_41 + d_49 + d_62 + d_70 + d_78 + d_86 + d_99 + mc_114 ≤ mc ∧ 0 + e_10 + e_18 + e_26 + e_34 + e_42 + e_50 + e_63 + e_71 + e_79 + e_87 + e_100 + ms_115 ≤ ms) ∧ wa_Wr_number mc_114 ms_115 y_98 (fun (y_111 : Ly) (s_110 : St) (d_112 e_113 : Nat) => (0 + d_9 + d_17 + d_25 + d_33 + d_41 + d_49 + d_62 + d_70 + d_78 + d_86 + d_99 + d_112 ≤ mc ∧ 0 + e_10 + e_18 + e_26 + e_34 + e_42 + e_50 + e_63 + e_71 + e_79 + e_87 + e_100 + e_113 ≤ ms) ∧ ∃ mc_122 ms_123 : Nat, (0 + d_9 + d_17 + d_25 + d_33 + d_41 + d_49 + d_62 + d_70 + d_78 + d_86 + d_99 + d_112 + mc_122 ≤ mc ∧ 0 + e_10 + e_18 + e_26 + e_34 + e_42 + e_50 + e_63 + e_71 + e_79 + e_87 + e_100 + e_113 + ms_123 ≤ ms) ∧ wa_Wr_endLine mc_122 ms_123 y_111 (fun (y_119 : Ly) (s_118 : St) (d_120 e_121 : Nat) => (0 + d_9 + d_17 + d_25 + d_33 + d_41 + d_49 + d_62 + d_70 + d_78 + d_86 + d_99 + d_112 + d_120 ≤ mc ∧ 0 + e_10 + e_18 + e_26 + e_34 + e_42 + e_50 + e_63 + e_71 + e_79 + e_87 + e_100 + e_113 + e_121 ≤ ms) ∧ wu_Wr_numberLabels y_119 (fun (s_126 : St) => ∃ b_127 : Nat, sO s_126 a0 2 = some b_127 ∧ cl b_127 = 9 ∧ wu_Wd_method y_119 (fun (s_131 : St) (r_130 : Int32) => wla_Wr_writeMethod_171 mc ms Post a0 y_119 s_131 (0 + d_9 + d_17 + d_25 + d_33 + d_41 + d_49 + d_62 + d_70 + d_78 + d_86 + d_99 + d_112 + d_120) (0 + e_10 + e_18 + e_26 + e_34 + e_42 + e_50 + e_63 + e_71 + e_79 + e_87 + e_100 + e_113 + e_121) r_130 0) s_126 b_127 (sV s_126 a0 3) (sV s_126 a0 4) 5) s_118 a0) s_110 a0) s_108 a0 r_107) s_97 b_104 (sV s_97 a0 3) (sV s_97 a0 4) 3) s_95 a0 r_94) s_84 b_91 (sV s_84 a0 3) (sV s_84 a0 4) 2) s_76 a0 33) s_68 a0 2) ∧ (¬ ((r_4 &&& 8) = 0) → Post y_69 s_68 (0 + d_9 + d_17 + d_25 + d_33 + d_41 + d_49 + d_62 + d_70) (0 + e_10 + e_18 + e_26 + e_34 + e_42 + e_50 + e_63 + e_71)))) s_60 a0) s_58 a0 r_57) s_47 b_54 (sV s_47 a0 3) (sV s_47 a0 4) 0) s_39 a0 r_4 8 38) s_31 a0 r_4 4 41) s_23 a0 r_4 2 37) s_15 a0 r_4 1 40) s_7 a0 32) s_5 a0 1) σ b_1 (sV σ a0 3) (sV σ a0 4) 1
set_option maxHeartbeats 4000000 in
set_option maxRecDepth 100000 in
theorem ca_Wr_writeMethod (l : Launch) (D : va_G) (g : Nat → ClassId) (F : Nat → SL) (sl : List SL) (hF : SOK F sl) (ad : Nat → Nat) (mc ms : Nat) (y : Ly) (Post : Ly → St → Nat → Nat → Prop) (σ : St) (a0 : Nat) (sz uz : Nat) (h_a0 : cl a0 = 10) (h : wa_Wr_writeMethod mc ms y Post σ a0) : Met l y_Wr_writeMethod (mw y_Wr_writeMethod b_Wr_writeMethod 4 (none)) (ra_Wr_writeMethod mc ms) (PCu g D sl [.ref (ad a0)] sz uz (ws g ad y σ)) (va_Qv (fun (u : Ly × St × Nat × Nat) => Post u.1 u.2.1 u.2.2.1 u.2.2.2) (QU D (va_A (ws g ad y σ) sz) (fun u => ws g ad u.1 u.2.1) sz uz (fun u => u.2.2.1) (fun u => u.2.2.2)) (va_A (ws g ad y σ) sz)) mc ms (va_A (ws g ad y σ) sz) := by
  refine ofVu (by decide +kernel) (Nat.le_of_ble_eq_true rfl) ?_
  intro p e s m args below meth c A Q ls H locs G hsz hP hD hS hl hret
  subst hsz
  have hl : lv_has ls 4 [(0, .ref (ad a0))] := hl
  have hd : 0 ≤ mc ∧ 0 ≤ ms := ⟨Nat.zero_le _, Nat.zero_le _⟩
  unfold wa_Wr_writeMethod at h
  refine lv_aload_n G.1 G.2.1 d_Wr_writeMethod_0 rfl (lv_at hl 0 rfl) ?_
  obtain ⟨b_1, e_2, c_3, h⟩ := h
  refine ugf (v := .ref (ad b_1)) G hP h_a0 iWr rfl 2 (by decide) rfl q774 rfl (by show va_rf ((sO σ a0 2).map ad) = _; rw [e_2]; rfl) d_Wr_writeMethod_1 ?_
  refine lv_aload_n G.1 G.2.1 d_Wr_writeMethod_4 rfl (lv_at hl 0 rfl) ?_
  refine ugf (v := .int (sV σ a0 3)) G hP h_a0 iWr rfl 3 (by decide) rfl q775 rfl rfl d_Wr_writeMethod_5 ?_
  refine lv_aload_n G.1 G.2.1 d_Wr_writeMethod_8 rfl (lv_at hl 0 rfl) ?_
  refine ugf (v := .int (sV σ a0 4)) G hP h_a0 iWr rfl 4 (by decide) rfl q776 rfl rfl d_Wr_writeMethod_9 ?_
  refine lv_iconst (v := 1) G.1 G.2.1 d_Wr_writeMethod_12 (by decide) ?_
  refine ucVi (As := [.int (sV σ a0 3), .int (sV σ a0 4), .int 1]) (rest := []) G hP hD hS (cu_Wd_method l D g ad y _ σ b_1 (sV σ a0 3) (sV σ a0 4) 1 H.size c_3 h) w9_Wd_method q2202 ⟨Nat.le_of_ble_eq_true rfl, Nat.le_of_ble_eq_true rfl⟩ rfl rfl c_3 (q := (RWd, TWd, 17)) rfl rfl hl.1 rfl (Nat.le_of_ble_eq_true rfl) rfl hd d_Wr_writeMethod_13 (fun r_4 s_5 H locs h hP hD hS => ?_)
  refine lv_istore_n (lv' := [(1, .int r_4), (0, .ref (ad a0))]) G.1 G.2.1 d_Wr_writeMethod_16 rfl hl (by decide) rfl (fun ls hl => ?_)
  refine lv_aload_n G.1 G.2.1 d_Wr_writeMethod_17 rfl (lv_at hl 1 rfl) ?_
  refine lv_iconst (v := 1) G.1 G.2.1 d_Wr_writeMethod_18 (by decide) ?_
  refine W.eq (g2 := F0 m 19 ls [.int 1, .ref (ad a0)]) rfl ?_
  obtain ⟨mc_11, ms_12, hr_13, h⟩ := h
  refine uaVv (As := [.int 1]) (rest := []) G hP hD hS (ca_Wr_beginLine l D g ad mc_11 ms_12 y _ s_5 a0 1 H.size (us H) h_a0 h) w9_Wr_beginLine q2155 ⟨Nat.le_of_ble_eq_true rfl, Nat.le_of_ble_eq_true rfl⟩ rfl rfl h_a0 (q := (RWr, TWr, 7)) rfl rfl hl.1 rfl (Nat.le_of_ble_eq_true rfl) rfl hr_13 d_Wr_writeMethod_19 (fun y_8 s_7 d_9 e_10 H locs h hP hD hS => ?_)
  obtain ⟨hd, h⟩ := h
  refine lv_aload_n G.1 G.2.1 d_Wr_writeMethod_22 rfl (lv_at hl 1 rfl) ?_
  refine lv_bipush (v := 32) G.1 G.2.1 d_Wr_writeMethod_23 (by decide) ?_
  obtain ⟨mc_19, ms_20, hr_21, h⟩ := h
  refine uaVv (As := [.int 32]) (rest := []) G hP hD hS (ca_Wr_word l D g ad mc_19 ms_20 y_8 _ s_7 a0 32 H.size (us H) h_a0 h) w9_Wr_word q2164 ⟨Nat.le_of_ble_eq_true rfl, Nat.le_of_ble_eq_true rfl⟩ rfl rfl h_a0 (q := (RWr, TWr, 7)) rfl rfl hl.1 rfl (Nat.le_of_ble_eq_true rfl) rfl hr_21 d_Wr_writeMethod_25 (fun y_16 s_15 d_17 e_18 H locs h hP hD hS => ?_)
  obtain ⟨hd, h⟩ := h
  refine lv_aload_n G.1 G.2.1 d_Wr_writeMethod_28 rfl (lv_at hl 1 rfl) ?_
  refine lv_iload_n G.1 G.2.1 d_Wr_writeMethod_29 rfl (lv_at hl 0 rfl) ?_
  refine lv_iconst (v := 1) G.1 G.2.1 d_Wr_writeMethod_30 (by decide) ?_
  refine lv_bipush (v := 40) G.1 G.2.1 d_Wr_writeMethod_31 (by decide) ?_
  obtain ⟨mc_27, ms_28, hr_29, h⟩ := h
  refine uaVv (As := [.int r_4, .int 1, .int 40]) (rest := []) G hP hD hS (ca_Wr_flag l D g ad mc_27 ms_28 y_16 _ s_15 a0 r_4 1 40 H.size (us H) h_a0 h) w9_Wr_flag q2160 ⟨Nat.le_of_ble_eq_true rfl, Nat.le_of_ble_eq_true rfl⟩ rfl rfl h_a0 (q := (RWr, TWr, 7)) rfl rfl hl.1 rfl (Nat.le_of_ble_eq_true rfl) rfl hr_29 d_Wr_writeMethod_33 (fun y_24 s_23 d_25 e_26 H locs h hP hD hS => ?_)
  obtain ⟨hd, h⟩ := h
  refine lv_aload_n G.1 G.2.1 d_Wr_writeMethod_36 rfl (lv_at hl 1 rfl) ?_
  refine lv_iload_n G.1 G.2.1 d_Wr_writeMethod_37 rfl (lv_at hl 0 rfl) ?_
  refine lv_iconst (v := 2) G.1 G.2.1 d_Wr_writeMethod_38 (by decide) ?_
  refine W.eq (g2 := F0 m 39 ls [.int 2, .int r_4, .ref (ad a0)]) rfl ?_
  refine lv_bipush (v := 37) G.1 G.2.1 d_Wr_writeMethod_39 (by decide) ?_
  obtain ⟨mc_35, ms_36, hr_37, h⟩ := h
  refine uaVv (As := [.int r_4, .int 2, .int 37]) (rest := []) G hP hD hS (ca_Wr_flag l D g ad mc_35 ms_36 y_24 _ s_23 a0 r_4 2 37 H.size (us H) h_a0 h) w9_Wr_flag q2160 ⟨Nat.le_of_ble_eq_true rfl, Nat.le_of_ble_eq_true rfl⟩ rfl rfl h_a0 (q := (RWr, TWr, 7)) rfl rfl hl.1 rfl (Nat.le_of_ble_eq_true rfl) rfl hr_37 d_Wr_writeMethod_41 (fun y_32 s_31 d_33 e_34 H locs h hP hD hS => ?_)
  obtain ⟨hd, h⟩ := h
  refine lv_aload_n G.1 G.2.1 d_Wr_writeMethod_44 rfl (lv_at hl 1 rfl) ?_
  refine lv_iload_n G.1 G.2.1 d_Wr_writeMethod_45 rfl (lv_at hl 0 rfl) ?_
  refine lv_iconst (v := 4) G.1 G.2.1 d_Wr_writeMethod_46 (by decide) ?_
  refine lv_bipush (v := 41) G.1 G.2.1 d_Wr_writeMethod_47 (by decide) ?_
  obtain ⟨mc_43, ms_44, hr_45, h⟩ := h
  refine uaVv (As := [.int r_4, .int 4, .int 41]) (rest := []) G hP hD hS (ca_Wr_flag l D g ad mc_43 ms_44 y_32 _ s_31 a0 r_4 4 41 H.size (us H) h_a0 h) w9_Wr_flag q2160 ⟨Nat.le_of_ble_eq_true rfl, Nat.le_of_ble_eq_true rfl⟩ rfl rfl h_a0 (q := (RWr, TWr, 7)) rfl rfl hl.1 rfl (Nat.le_of_ble_eq_true rfl) rfl hr_45 d_Wr_writeMethod_49 (fun y_40 s_39 d_41 e_42 H locs h hP hD hS => ?_)
  obtain ⟨hd, h⟩ := h
  refine lv_aload_n G.1 G.2.1 d_Wr_writeMethod_52 rfl (lv_at hl 1 rfl) ?_
  refine lv_iload_n G.1 G.2.1 d_Wr_writeMethod_53 rfl (lv_at hl 0 rfl) ?_
  refine lv_bipush (v := 8) G.1 G.2.1 d_Wr_writeMethod_54 (by decide) ?_
  refine lv_bipush (v := 38) G.1 G.2.1 d_Wr_writeMethod_56 (by decide) ?_
  obtain ⟨mc_51, ms_52, hr_53, h⟩ := h
  refine uaVv (As := [.int r_4, .int 8, .int 38]) (rest := []) G hP hD hS (ca_Wr_flag l D g ad mc_51 ms_52 y_40 _ s_39 a0 r_4 8 38 H.size (us H) h_a0 h) w9_Wr_flag q2160 ⟨Nat.le_of_ble_eq_true rfl, Nat.le_of_ble_eq_true rfl⟩ rfl rfl h_a0 (q := (RWr, TWr, 7)) rfl rfl hl.1 rfl (Nat.le_of_ble_eq_true rfl) rfl hr_53 d_Wr_writeMethod_58 (fun y_48 s_47 d_49 e_50 H locs h hP hD hS => ?_)
  obtain ⟨hd, h⟩ := h
  refine W.eq (g2 := F0 m 61 ls []) rfl ?_
  refine lv_aload_n G.1 G.2.1 d_Wr_writeMethod_61 rfl (lv_at hl 1 rfl) ?_
  refine lv_aload_n G.1 G.2.1 d_Wr_writeMethod_62 rfl (lv_at hl 1 rfl) ?_
  obtain ⟨b_54, e_55, c_56, h⟩ := h
  refine ugf (v := .ref (ad b_54)) G hP h_a0 iWr rfl 2 (by decide) rfl q774 rfl (by show va_rf ((sO s_47 a0 2).map ad) = _; rw [e_55]; rfl) d_Wr_writeMethod_63 ?_
  refine lv_aload_n G.1 G.2.1 d_Wr_writeMethod_66 rfl (lv_at hl 1 rfl) ?_
  refine ugf (v := .int (sV s_47 a0 3)) G hP h_a0 iWr rfl 3 (by decide) rfl q775 rfl rfl d_Wr_writeMethod_67 ?_
  refine lv_aload_n G.1 G.2.1 d_Wr_writeMethod_70 rfl (lv_at hl 1 rfl) ?_
  refine ugf (v := .int (sV s_47 a0 4)) G hP h_a0 iWr rfl 4 (by decide) rfl q776 rfl rfl d_Wr_writeMethod_71 ?_
  refine lv_iconst (v := 0) G.1 G.2.1 d_Wr_writeMethod_74 (by decide) ?_
  refine ucVi (As := [.int (sV s_47 a0 3), .int (sV s_47 a0 4), .int 0]) (rest := [.ref (ad a0)]) G hP hD hS (cu_Wd_method l D g ad y_48 _ s_47 b_54 (sV s_47 a0 3) (sV s_47 a0 4) 0 H.size c_56 h) w9_Wd_method q2202 ⟨Nat.le_of_ble_eq_true rfl, Nat.le_of_ble_eq_true rfl⟩ rfl rfl c_56 (q := (RWd, TWd, 17)) rfl rfl hl.1 rfl (Nat.le_of_ble_eq_true rfl) rfl hd d_Wr_writeMethod_75 (fun r_57 s_58 H locs h hP hD hS => ?_)
  obtain ⟨mc_64, ms_65, hr_66, h⟩ := h
  refine uaVv (As := [.int r_57]) (rest := []) G hP hD hS (ca_Wr_writeSign l D g ad mc_64 ms_65 y_48 _ s_58 a0 r_57 H.size (us H) h_a0 h) w9_Wr_writeSign q2203 ⟨Nat.le_of_ble_eq_true rfl, Nat.le_of_ble_eq_true rfl⟩ rfl rfl h_a0 (q := (RWr, TWr, 7)) rfl rfl hl.1 rfl (Nat.le_of_ble_eq_true rfl) rfl hr_66 d_Wr_writeMethod_78 (fun y_61 s_60 d_62 e_63 H locs h hP hD hS => ?_)
  obtain ⟨hd, h⟩ := h
  refine lv_aload_n G.1 G.2.1 d_Wr_writeMethod_81 rfl (lv_at hl 1 rfl) ?_
  obtain ⟨mc_72, ms_73, hr_74, h⟩ := h
  refine uaVv (As := []) (rest := []) G hP hD hS (ca_Wr_endLine l D g ad mc_72 ms_73 y_61 _ s_60 a0 H.size (us H) h_a0 h) w9_Wr_endLine q2178 ⟨Nat.le_of_ble_eq_true rfl, Nat.le_of_ble_eq_true rfl⟩ rfl rfl h_a0 (q := (RWr, TWr, 7)) rfl rfl hl.1 rfl (Nat.le_of_ble_eq_true rfl) rfl hr_74 d_Wr_writeMethod_82 (fun y_69 s_68 d_70 e_71 H locs h hP hD hS => ?_)
  obtain ⟨hd, h⟩ := h
  refine W.eq (g2 := F0 m 85 ls []) rfl ?_
  refine lv_iload_n G.1 G.2.1 d_Wr_writeMethod_85 rfl (lv_at hl 0 rfl) ?_
  refine lv_bipush (v := 8) G.1 G.2.1 d_Wr_writeMethod_86 (by decide) ?_
  refine lv_iand G.1 G.2.1 d_Wr_writeMethod_88 ?_
  refine lv_if_eq (tgt := 93) G.1 G.2.1 d_Wr_writeMethod_89 (by decide) (fun c89 => ?_) (fun c89 => ?_)
  · skip
    have h := h.1 c89
    refine lv_aload_n G.1 G.2.1 d_Wr_writeMethod_93 rfl (lv_at hl 1 rfl) ?_
    refine lv_iconst (v := 2) G.1 G.2.1 d_Wr_writeMethod_94 (by decide) ?_
    obtain ⟨mc_80, ms_81, hr_82, h⟩ := h
    refine uaVv (As := [.int 2]) (rest := []) G hP hD hS (ca_Wr_beginLine l D g ad mc_80 ms_81 y_69 _ s_68 a0 2 H.size (us H) h_a0 h) w9_Wr_beginLine q2155 ⟨Nat.le_of_ble_eq_true rfl, Nat.le_of_ble_eq_true rfl⟩ rfl rfl h_a0 (q := (RWr, TWr, 7)) rfl rfl hl.1 rfl (Nat.le_of_ble_eq_true rfl) rfl hr_82 d_Wr_writeMethod_95 (fun y_77 s_76 d_78 e_79 H locs h hP hD hS => ?_)
    have hl := lv_sub (l' := [(0, .ref (ad a0))]) hl [1] rfl
    obtain ⟨hd, h⟩ := h
    refine lv_aload_n G.1 G.2.1 d_Wr_writeMethod_98 rfl (lv_at hl 0 rfl) ?_
    refine lv_bipush (v := 33) G.1 G.2.1 d_Wr_writeMethod_99 (by decide) ?_
    obtain ⟨mc_88, ms_89, hr_90, h⟩ := h
    refine uaVv (As := [.int 33]) (rest := []) G hP hD hS (ca_Wr_word l D g ad mc_88 ms_89 y_77 _ s_76 a0 33 H.size (us H) h_a0 h) w9_Wr_word q2164 ⟨Nat.le_of_ble_eq_true rfl, Nat.le_of_ble_eq_true rfl⟩ rfl rfl h_a0 (q := (RWr, TWr, 7)) rfl rfl hl.1 rfl (Nat.le_of_ble_eq_true rfl) rfl hr_90 d_Wr_writeMethod_101 (fun y_85 s_84 d_86 e_87 H locs h hP hD hS => ?_)
    obtain ⟨hd, h⟩ := h
    refine lv_aload_n G.1 G.2.1 d_Wr_writeMethod_104 rfl (lv_at hl 0 rfl) ?_
    refine lv_aload_n G.1 G.2.1 d_Wr_writeMethod_105 rfl (lv_at hl 0 rfl) ?_
    refine W.eq (g2 := F0 m 106 ls [.ref (ad a0), .ref (ad a0)]) rfl ?_
    obtain ⟨b_91, e_92, c_93, h⟩ := h
    refine ugf (v := .ref (ad b_91)) G hP h_a0 iWr rfl 2 (by decide) rfl q774 rfl (by show va_rf ((sO s_84 a0 2).map ad) = _; rw [e_92]; rfl) d_Wr_writeMethod_106 ?_
    refine lv_aload_n G.1 G.2.1 d_Wr_writeMethod_109 rfl (lv_at hl 0 rfl) ?_
    refine ugf (v := .int (sV s_84 a0 3)) G hP h_a0 iWr rfl 3 (by decide) rfl q775 rfl rfl d_Wr_writeMethod_110 ?_
    refine lv_aload_n G.1 G.2.1 d_Wr_writeMethod_113 rfl (lv_at hl 0 rfl) ?_
    refine ugf (v := .int (sV s_84 a0 4)) G hP h_a0 iWr rfl 4 (by decide) rfl q776 rfl rfl d_Wr_writeMethod_114 ?_
    refine lv_iconst (v := 2) G.1 G.2.1 d_Wr_writeMethod_117 (by decide) ?_
    refine ucVi (As := [.int (sV s_84 a0 3), .int (sV s_84 a0 4), .int 2]) (rest := [.ref (ad a0)]) G hP hD hS (cu_Wd_method l D g ad y_85 _ s_84 b_91 (sV s_84 a0 3) (sV s_84 a0 4) 2 H.size c_93 h) w9_Wd_method q2202 ⟨Nat.le_of_ble_eq_true rfl, Nat.le_of_ble_eq_true rfl⟩ rfl rfl c_93 (q := (RWd, TWd, 17)) rfl rfl hl.1 rfl (Nat.le_of_ble_eq_true rfl) rfl hd d_Wr_writeMethod_118 (fun r_94 s_95 H locs h hP hD hS => ?_)
    obtain ⟨mc_101, ms_102, hr_103, h⟩ := h
    refine uaVv (As := [.int r_94]) (rest := []) G hP hD hS (ca_Wr_number l D g ad mc_101 ms_102 y_85 _ s_95 a0 r_94 H.size (us H) h_a0 h) w9_Wr_number q2187 ⟨Nat.le_of_ble_eq_true rfl, Nat.le_of_ble_eq_true rfl⟩ rfl rfl h_a0 (q := (RWr, TWr, 7)) rfl rfl hl.1 rfl (Nat.le_of_ble_eq_true rfl) rfl hr_103 d_Wr_writeMethod_121 (fun y_98 s_97 d_99 e_100 H locs h hP hD hS => ?_)
    obtain ⟨hd, h⟩ := h
    refine lv_aload_n G.1 G.2.1 d_Wr_writeMethod_124 rfl (lv_at hl 0 rfl) ?_
    refine lv_aload_n G.1 G.2.1 d_Wr_writeMethod_125 rfl (lv_at hl 0 rfl) ?_
    obtain ⟨b_104, e_105, c_106, h⟩ := h
    refine ugf (v := .ref (ad b_104)) G hP h_a0 iWr rfl 2 (by decide) rfl q774 rfl (by show va_rf ((sO s_97 a0 2).map ad) = _; rw [e_105]; rfl) d_Wr_writeMethod_126 ?_
    refine lv_aload_n G.1 G.2.1 d_Wr_writeMethod_129 rfl (lv_at hl 0 rfl) ?_
    refine W.eq (g2 := F0 m 130 ls [.ref (ad a0), .ref (ad b_104), .ref (ad a0)]) rfl ?_
    refine ugf (v := .int (sV s_97 a0 3)) G hP h_a0 iWr rfl 3 (by decide) rfl q775 rfl rfl d_Wr_writeMethod_130 ?_
    refine lv_aload_n G.1 G.2.1 d_Wr_writeMethod_133 rfl (lv_at hl 0 rfl) ?_
    refine ugf (v := .int (sV s_97 a0 4)) G hP h_a0 iWr rfl 4 (by decide) rfl q776 rfl rfl d_Wr_writeMethod_134 ?_
    refine lv_iconst (v := 3) G.1 G.2.1 d_Wr_writeMethod_137 (by decide) ?_
    refine ucVi (As := [.int (sV s_97 a0 3), .int (sV s_97 a0 4), .int 3]) (rest := [.ref (ad a0)]) G hP hD hS (cu_Wd_method l D g ad y_98 _ s_97 b_104 (sV s_97 a0 3) (sV s_97 a0 4) 3 H.size c_106 h) w9_Wd_method q2202 ⟨Nat.le_of_ble_eq_true rfl, Nat.le_of_ble_eq_true rfl⟩ rfl rfl c_106 (q := (RWd, TWd, 17)) rfl rfl hl.1 rfl (Nat.le_of_ble_eq_true rfl) rfl hd d_Wr_writeMethod_138 (fun r_107 s_108 H locs h hP hD hS => ?_)
    obtain ⟨mc_114, ms_115, hr_116, h⟩ := h
    refine uaVv (As := [.int r_107]) (rest := []) G hP hD hS (ca_Wr_number l D g ad mc_114 ms_115 y_98 _ s_108 a0 r_107 H.size (us H) h_a0 h) w9_Wr_number q2187 ⟨Nat.le_of_ble_eq_true rfl, Nat.le_of_ble_eq_true rfl⟩ rfl rfl h_a0 (q := (RWr, TWr, 7)) rfl rfl hl.1 rfl (Nat.le_of_ble_eq_true rfl) rfl hr_116 d_Wr_writeMethod_141 (fun y_111 s_110 d_112 e_113 H locs h hP hD hS => ?_)
    obtain ⟨hd, h⟩ := h
    refine lv_aload_n G.1 G.2.1 d_Wr_writeMethod_144 rfl (lv_at hl 0 rfl) ?_
    obtain ⟨mc_122, ms_123, hr_124, h⟩ := h
    refine uaVv (As := []) (rest := []) G hP hD hS (ca_Wr_endLine l D g ad mc_122 ms_123 y_111 _ s_110 a0 H.size (us H) h_a0 h) w9_Wr_endLine q2178 ⟨Nat.le_of_ble_eq_true rfl, Nat.le_of_ble_eq_true rfl⟩ rfl rfl h_a0 (q := (RWr, TWr, 7)) rfl rfl hl.1 rfl (Nat.le_of_ble_eq_true rfl) rfl hr_124 d_Wr_writeMethod_145 (fun y_119 s_118 d_120 e_121 H locs h hP hD hS => ?_)
    obtain ⟨hd, h⟩ := h
    refine lv_aload_n G.1 G.2.1 d_Wr_writeMethod_148 rfl (lv_at hl 0 rfl) ?_
    refine usVv (As := []) (rest := []) G hP hD hS (cu_Wr_numberLabels l D g F sl hF ad y_119 _ s_118 a0 H.size h_a0 h) w9_Wr_numberLabels q2211 ⟨Nat.le_of_ble_eq_true rfl, Nat.le_of_ble_eq_true rfl⟩ rfl rfl h_a0 (q := (RWr, TWr, 7)) rfl rfl hl.1 rfl (Nat.le_of_ble_eq_true rfl) rfl hd d_Wr_writeMethod_149 (fun s_126 H locs h hP hD hS => ?_)
    refine lv_aload_n G.1 G.2.1 d_Wr_writeMethod_152 rfl (lv_at hl 0 rfl) ?_
    obtain ⟨b_127, e_128, c_129, h⟩ := h
    refine ugf (v := .ref (ad b_127)) G hP h_a0 iWr rfl 2 (by decide) rfl q774 rfl (by show va_rf ((sO s_126 a0 2).map ad) = _; rw [e_128]; rfl) d_Wr_writeMethod_153 ?_
    refine W.eq (g2 := F0 m 156 ls [.ref (ad b_127)]) rfl ?_
    refine lv_aload_n G.1 G.2.1 d_Wr_writeMethod_156 rfl (lv_at hl 0 rfl) ?_
    refine ugf (v := .int (sV s_126 a0 3)) G hP h_a0 iWr rfl 3 (by decide) rfl q775 rfl rfl d_Wr_writeMethod_157 ?_
    refine lv_aload_n G.1 G.2.1 d_Wr_writeMethod_160 rfl (lv_at hl 0 rfl) ?_
    refine ugf (v := .int (sV s_126 a0 4)) G hP h_a0 iWr rfl 4 (by decide) rfl q776 rfl rfl d_Wr_writeMethod_161 ?_
    refine lv_iconst (v := 5) G.1 G.2.1 d_Wr_writeMethod_164 (by decide) ?_
    refine ucVi (As := [.int (sV s_126 a0 3), .int (sV s_126 a0 4), .int 5]) (rest := []) G hP hD hS (cu_Wd_method l D g ad y_119 _ s_126 b_127 (sV s_126 a0 3) (sV s_126 a0 4) 5 H.size c_129 h) w9_Wd_method q2202 ⟨Nat.le_of_ble_eq_true rfl, Nat.le_of_ble_eq_true rfl⟩ rfl rfl c_129 (q := (RWd, TWd, 17)) rfl rfl hl.1 rfl (Nat.le_of_ble_eq_true rfl) rfl hd d_Wr_writeMethod_165 (fun r_130 s_131 H locs h hP hD hS => ?_)
    refine lv_istore_n (lv' := [(2, .int r_130), (0, .ref (ad a0))]) G.1 G.2.1 d_Wr_writeMethod_168 rfl hl (by decide) rfl (fun ls hl => ?_)
    refine lv_iconst (v := 0) G.1 G.2.1 d_Wr_writeMethod_169 (by decide) ?_
    refine lv_istore_n (lv' := [(3, .int 0), (2, .int r_130), (0, .ref (ad a0))]) G.1 G.2.1 d_Wr_writeMethod_170 rfl hl (by decide) rfl (fun ls hl => ?_)
    unfold wla_Wr_writeMethod_171 at h
    obtain ⟨I_171, μ_171, hI_171, hB_171⟩ := h
    have L_171 : ∀ (n_171 : Nat) (y_h171 : Ly) (s_h171 : St) (d_h171 e_h171 : Nat) (x2h171 : Int32) (x3h171 : Int32), μ_171 y_h171 s_h171 d_h171 e_h171 x2h171 x3h171 < n_171 → I_171 y_h171 s_h171 d_h171 e_h171 x2h171 x3h171 → ∀ (H : Heap) (locs : List Loc), va_P D CL (ws g ad y_h171 s_h171) H → va_D A (ws g ad y_h171 s_h171) → va_S A s.heap H locs → ∀ ls, lv_has ls 4 [(0, .ref (ad a0)), (2, .int x2h171), (3, .int x3h171)] → W p l e (ra_Wr_writeMethod mc ms) s m args below meth c H locs d_h171 e_h171 Q (F0 m 171 ls []) := by
      intro n_171
      induction n_171 with
      | zero => intro y_h171 s_h171 d_h171 e_h171 x2h171 x3h171 hμ; exact absurd hμ (Nat.not_lt_zero _)
      | succ n_171 ih_171 =>
        intro y_h171 s_h171 d_h171 e_h171 x2h171 x3h171 hμ_171 hJ H locs hP hD hS ls hl
        obtain ⟨K_171, hK_171, h⟩ : ∃ K : Ly → St → Nat → Nat → Int32 → Int32 → Prop, (∀ z1 z2 z3 z4 (t0 : Int32) (t1 : Int32), K z1 z2 z3 z4 t0 t1 → I_171 z1 z2 z3 z4 t0 t1 ∧ μ_171 z1 z2 z3 z4 t0 t1 < μ_171 y_h171 s_h171 d_h171 e_h171 x2h171 x3h171) ∧ wba_Wr_writeMethod_171 mc ms Post K a0 y_h171 s_h171 d_h171 e_h171 x2h171 x3h171 := ⟨_, fun _ _ _ _ _ _ h => h, hB_171 y_h171 s_h171 d_h171 e_h171 x2h171 x3h171 hJ⟩
        unfold wba_Wr_writeMethod_171 at h
        obtain ⟨hd, h⟩ := h
        refine lv_iload_n G.1 G.2.1 d_Wr_writeMethod_171 rfl (lv_at hl 2 rfl) ?_
        refine lv_iload_n G.1 G.2.1 d_Wr_writeMethod_172 rfl (lv_at hl 1 rfl) ?_
        refine lv_icmp_ge (tgt := 187) G.1 G.2.1 d_Wr_writeMethod_173 (by decide) (fun c173 => ?_) (fun c173 => ?_)
        · skip
          have h := h.1 c173
          refine lv_aload_n G.1 G.2.1 d_Wr_writeMethod_187 rfl (lv_at hl 0 rfl) ?_
          refine ugf (v := .ref (yP y_h171 a0 6)) G hP h_a0 iWr rfl 6 (by decide) rfl q778 rfl rfl d_Wr_writeMethod_188 ?_
          refine lv_iload_n G.1 G.2.1 d_Wr_writeMethod_191 rfl (lv_at hl 1 rfl) ?_
          refine uiald G hP (kdp h_a0 rfl) (typ h_a0 rfl) h d_Wr_writeMethod_192 (fun x_132 h => ?_)
          have J_216 : ∀ (y_j216 : Ly) (s_j216 : St) (d_j216 e_j216 : Nat) (H : Heap) (locs : List Loc), wja_Wr_writeMethod_216 mc ms Post a0 y_j216 s_j216 d_j216 e_j216 → va_P D CL (ws g ad y_j216 s_j216) H → va_D A (ws g ad y_j216 s_j216) → va_S A s.heap H locs → ∀ ls, lv_has ls 4 [(0, .ref (ad a0))] → W p l e (ra_Wr_writeMethod mc ms) s m args below meth c H locs d_j216 e_j216 Q (F0 m 216 ls []) := by
            intro y_j216 s_j216 d_j216 e_j216 H locs h hP hD hS ls hl
            unfold wja_Wr_writeMethod_216 at h
            obtain ⟨hd, h⟩ := h
            refine lv_aload_n G.1 G.2.1 d_Wr_writeMethod_216 rfl (lv_at hl 0 rfl) ?_
            obtain ⟨mc_138, ms_139, hr_140, h⟩ := h
            refine uaVv (As := []) (rest := []) G hP hD hS (ca_Wr_writeHandlers l D g ad mc_138 ms_139 y_j216 _ s_j216 a0 H.size (us H) h_a0 h) w9_Wr_writeHandlers q2255 ⟨Nat.le_of_ble_eq_true rfl, Nat.le_of_ble_eq_true rfl⟩ rfl rfl h_a0 (q := (RWr, TWr, 7)) rfl rfl hl.1 rfl (Nat.le_of_ble_eq_true rfl) rfl hr_140 d_Wr_writeMethod_217 (fun y_135 s_134 d_136 e_137 H locs h hP hD hS => ?_)
            have hl := lv_sub (l' := []) hl [] rfl
            obtain ⟨hd, h⟩ := h
            exact hret (y_135, s_134, d_j216 + d_136, e_j216 + e_137) _ _ _ _ _ ls h hP hD hS (Nat.le_refl _) (Nat.le_refl _) hd.1 hd.2 d_Wr_writeMethod_220
          refine lv_if_lt (tgt := 216) G.1 G.2.1 d_Wr_writeMethod_193 (by decide) (fun c193 => ?_) (fun c193 => ?_)
          · skip
            have h := h.1 c193
            exact J_216 y_h171 s_h171 d_h171 e_h171 H locs h hP hD hS ls (lv_sub hl [0] rfl)
          · skip
            have h := h.2 c193
            refine lv_aload_n G.1 G.2.1 d_Wr_writeMethod_196 rfl (lv_at hl 0 rfl) ?_
            refine lv_iconst (v := 2) G.1 G.2.1 d_Wr_writeMethod_197 (by decide) ?_
            obtain ⟨mc_146, ms_147, hr_148, h⟩ := h
            refine uaVv (As := [.int 2]) (rest := []) G hP hD hS (ca_Wr_beginLine l D g ad mc_146 ms_147 y_h171 _ s_h171 a0 2 H.size (us H) h_a0 h) w9_Wr_beginLine q2155 ⟨Nat.le_of_ble_eq_true rfl, Nat.le_of_ble_eq_true rfl⟩ rfl rfl h_a0 (q := (RWr, TWr, 7)) rfl rfl hl.1 rfl (Nat.le_of_ble_eq_true rfl) rfl hr_148 d_Wr_writeMethod_198 (fun y_143 s_142 d_144 e_145 H locs h hP hD hS => ?_)
            have hl := lv_sub (l' := [(0, .ref (ad a0)), (2, .int x2h171)]) hl [0, 1] rfl
            obtain ⟨hd, h⟩ := h
            refine W.eq (g2 := F0 m 201 ls []) rfl ?_
            refine lv_aload_n G.1 G.2.1 d_Wr_writeMethod_201 rfl (lv_at hl 0 rfl) ?_
            refine lv_iload_n G.1 G.2.1 d_Wr_writeMethod_202 rfl (lv_at hl 1 rfl) ?_
            obtain ⟨mc_154, ms_155, hr_156, h⟩ := h
            refine uaVv (As := [.int x2h171]) (rest := []) G hP hD hS (ca_Wr_label l D g ad mc_154 ms_155 y_143 _ s_142 a0 x2h171 H.size (us H) h_a0 h) w9_Wr_label q2239 ⟨Nat.le_of_ble_eq_true rfl, Nat.le_of_ble_eq_true rfl⟩ rfl rfl h_a0 (q := (RWr, TWr, 7)) rfl rfl hl.1 rfl (Nat.le_of_ble_eq_true rfl) rfl hr_156 d_Wr_writeMethod_203 (fun y_151 s_150 d_152 e_153 H locs h hP hD hS => ?_)
            have hl := lv_sub (l' := [(0, .ref (ad a0))]) hl [0] rfl
            obtain ⟨hd, h⟩ := h
            refine lv_aload_n G.1 G.2.1 d_Wr_writeMethod_206 rfl (lv_at hl 0 rfl) ?_
            refine lv_bipush (v := 58) G.1 G.2.1 d_Wr_writeMethod_207 (by decide) ?_
            obtain ⟨mc_162, ms_163, hr_164, h⟩ := h
            refine uaVv (As := [.int 58]) (rest := []) G hP hD hS (ca_Wr_sign l D g ad mc_162 ms_163 y_151 _ s_150 a0 58 H.size (us H) h_a0 h) w9_Wr_sign q2174 ⟨Nat.le_of_ble_eq_true rfl, Nat.le_of_ble_eq_true rfl⟩ rfl rfl h_a0 (q := (RWr, TWr, 7)) rfl rfl hl.1 rfl (Nat.le_of_ble_eq_true rfl) rfl hr_164 d_Wr_writeMethod_209 (fun y_159 s_158 d_160 e_161 H locs h hP hD hS => ?_)
            obtain ⟨hd, h⟩ := h
            refine lv_aload_n G.1 G.2.1 d_Wr_writeMethod_212 rfl (lv_at hl 0 rfl) ?_
            obtain ⟨mc_170, ms_171, hr_172, h⟩ := h
            refine uaVv (As := []) (rest := []) G hP hD hS (ca_Wr_endLine l D g ad mc_170 ms_171 y_159 _ s_158 a0 H.size (us H) h_a0 h) w9_Wr_endLine q2178 ⟨Nat.le_of_ble_eq_true rfl, Nat.le_of_ble_eq_true rfl⟩ rfl rfl h_a0 (q := (RWr, TWr, 7)) rfl rfl hl.1 rfl (Nat.le_of_ble_eq_true rfl) rfl hr_172 d_Wr_writeMethod_213 (fun y_167 s_166 d_168 e_169 H locs h hP hD hS => ?_)
            obtain ⟨hd, h⟩ := h
            exact J_216 y_167 s_166 (d_h171 + d_144 + d_152 + d_160 + d_168) (e_h171 + e_145 + e_153 + e_161 + e_169) H locs h hP hD hS ls (lv_sub hl [0] rfl)
        · skip
          have h := h.2 c173
          refine lv_aload_n G.1 G.2.1 d_Wr_writeMethod_176 rfl (lv_at hl 0 rfl) ?_
          refine lv_iload_n G.1 G.2.1 d_Wr_writeMethod_177 rfl (lv_at hl 2 rfl) ?_
          obtain ⟨mc_178, ms_179, hr_180, h⟩ := h
          refine utVv (As := [.int x3h171]) (rest := []) G hP hD hS (ca_Wr_writeCode l D g F sl hF ad mc_178 ms_179 y_h171 _ s_h171 a0 x3h171 H.size (us H) h_a0 h) w9_Wr_writeCode q2227 ⟨Nat.le_of_ble_eq_true rfl, Nat.le_of_ble_eq_true rfl⟩ rfl rfl h_a0 (q := (RWr, TWr, 7)) rfl rfl hl.1 rfl (Nat.le_of_ble_eq_true rfl) rfl hr_180 d_Wr_writeMethod_178 (fun y_175 s_174 d_176 e_177 H locs h hP hD hS => ?_)
          obtain ⟨hd, h⟩ := h
          refine lv_iinc (v := x3h171 + 1) (lv' := [(3, .int (x3h171 + 1)), (0, .ref (ad a0)), (2, .int x2h171)]) G.1 G.2.1 d_Wr_writeMethod_181 hl (k := 2) rfl rfl (by decide) rfl (fun ls hl => ?_)
          refine lv_goto (tgt := 171) G.1 G.2.1 d_Wr_writeMethod_184 (by decide) ?_
          have h := hK_171 y_175 s_174 (d_h171 + d_176) (e_h171 + e_177) x2h171 (x3h171 + 1) h
          exact ih_171 y_175 s_174 (d_h171 + d_176) (e_h171 + e_177) x2h171 (x3h171 + 1) (Nat.lt_of_lt_of_le h.2 (Nat.le_of_lt_succ hμ_171)) h.1 H locs hP hD hS ls (lv_sub hl [1, 2, 0] rfl)
    exact L_171 _ y_119 s_131 (0 + d_9 + d_17 + d_25 + d_33 + d_41 + d_49 + d_62 + d_70 + d_78 + d_86 + d_99 + d_112 + d_120) (0 + e_10 + e_18 + e_26 + e_34 + e_42 + e_50 + e_63 + e_71 + e_79 + e_87 + e_100 + e_113 + e_121) r_130 0 (Nat.lt_succ_self _) hI_171 H locs hP hD hS ls (lv_sub hl [2, 1, 0] rfl)
  · skip
    have h := h.2 c89
    exact hret (y_69, s_68, 0 + d_9 + d_17 + d_25 + d_33 + d_41 + d_49 + d_62 + d_70, 0 + e_10 + e_18 + e_26 + e_34 + e_42 + e_50 + e_63 + e_71) _ _ _ _ _ ls h hP hD hS (Nat.le_refl _) (Nat.le_refl _) hd.1 hd.2 d_Wr_writeMethod_92
