theorem q390 : Cond.fieldLink "ClassWorks$Writer" 43 "ClassWorks$Ints" "size" "I" ∈ lw_ok := lw_okmem (List.mem_of_getElem? (i := 390) (by decide +kernel)) rfl
theorem q2150 : Cond.methodLink "ClassWorks$Writer" 46 y_Wr_writeHead ∈ lw_ok := lw_okmem (List.mem_of_getElem? (i := 2150) (by decide +kernel)) rfl
theorem q2153 : Cond.code y_Wr_writeHead b_Wr_writeHead 3 (none) ∈ lw_ok := lw_okmem (List.mem_of_getElem? (i := 2153) (by decide +kernel)) rfl
theorem q2152 : Cond.instanceMethod y_Wr_writeHead ∈ lw_ok := lw_okmem (List.mem_of_getElem? (i := 2152) (by decide +kernel)) rfl
theorem q118 : Cond.selects y_Wr_writeHead.cls y_Wr_writeHead y_Wr_writeHead ∈ lw_ok := lw_okmem (List.mem_of_getElem? (i := 118) (by decide +kernel)) rfl
theorem w9_Wr_writeHead : CWv y_Wr_writeHead b_Wr_writeHead 3 (none) 0 ∧ Cond.instanceMethod y_Wr_writeHead ∈ lw_ok ∧ Cond.selects y_Wr_writeHead.cls y_Wr_writeHead y_Wr_writeHead ∈ lw_ok := ⟨⟨q2153, q343, by decide +kernel, by decide +kernel, by decide +kernel⟩, q2152, q118⟩
theorem q2198 : Cond.methodLink "ClassWorks$Writer" 58 y_Wr_writeMethod ∈ lw_ok := lw_okmem (List.mem_of_getElem? (i := 2198) (by decide +kernel)) rfl
theorem q2201 : Cond.code y_Wr_writeMethod b_Wr_writeMethod 4 (none) ∈ lw_ok := lw_okmem (List.mem_of_getElem? (i := 2201) (by decide +kernel)) rfl
theorem q2200 : Cond.instanceMethod y_Wr_writeMethod ∈ lw_ok := lw_okmem (List.mem_of_getElem? (i := 2200) (by decide +kernel)) rfl
theorem q128 : Cond.selects y_Wr_writeMethod.cls y_Wr_writeMethod y_Wr_writeMethod ∈ lw_ok := lw_okmem (List.mem_of_getElem? (i := 128) (by decide +kernel)) rfl
theorem w9_Wr_writeMethod : CWv y_Wr_writeMethod b_Wr_writeMethod 4 (none) 0 ∧ Cond.instanceMethod y_Wr_writeMethod ∈ lw_ok ∧ Cond.selects y_Wr_writeMethod.cls y_Wr_writeMethod y_Wr_writeMethod ∈ lw_ok := ⟨⟨q2201, q343, by decide +kernel, by decide +kernel, by decide +kernel⟩, q2200, q128⟩
theorem q2182 : Cond.methodLink "ClassWorks$Writer" 55 y_Wr_writeField ∈ lw_ok := lw_okmem (List.mem_of_getElem? (i := 2182) (by decide +kernel)) rfl
theorem q2185 : Cond.code y_Wr_writeField b_Wr_writeField 3 (none) ∈ lw_ok := lw_okmem (List.mem_of_getElem? (i := 2185) (by decide +kernel)) rfl
theorem q2184 : Cond.instanceMethod y_Wr_writeField ∈ lw_ok := lw_okmem (List.mem_of_getElem? (i := 2184) (by decide +kernel)) rfl
theorem q125 : Cond.selects y_Wr_writeField.cls y_Wr_writeField y_Wr_writeField ∈ lw_ok := lw_okmem (List.mem_of_getElem? (i := 125) (by decide +kernel)) rfl
theorem w9_Wr_writeField : CWv y_Wr_writeField b_Wr_writeField 3 (none) 1 ∧ Cond.instanceMethod y_Wr_writeField ∈ lw_ok ∧ Cond.selects y_Wr_writeField.cls y_Wr_writeField y_Wr_writeField ∈ lw_ok := ⟨⟨q2185, q343, by decide +kernel, by decide +kernel, by decide +kernel⟩, q2184, q125⟩
def y_Wr_write : MethodName := ⟨"ClassWorks$Writer", "write", "(LClassWorks$World;I)I"⟩
abbrev b_Wr_write : ByteArray := prog_12_method_2_code
theorem d_Wr_write_0 : decode b_Wr_write 0 = .ok (.aload_n 0, 1) := by decide +kernel
theorem d_Wr_write_1 : decode b_Wr_write 1 = .ok (.aload_n 1, 1) := by decide +kernel
theorem d_Wr_write_2 : decode b_Wr_write 2 = .ok (.putfield 39, 3) := by decide +kernel
theorem d_Wr_write_5 : decode b_Wr_write 5 = .ok (.aload_n 0, 1) := by decide +kernel
theorem d_Wr_write_6 : decode b_Wr_write 6 = .ok (.iload_n 2, 1) := by decide +kernel
theorem d_Wr_write_7 : decode b_Wr_write 7 = .ok (.putfield 20, 3) := by decide +kernel
theorem d_Wr_write_10 : decode b_Wr_write 10 = .ok (.aload_n 0, 1) := by decide +kernel
theorem d_Wr_write_11 : decode b_Wr_write 11 = .ok (.getfield 14, 3) := by decide +kernel
theorem d_Wr_write_14 : decode b_Wr_write 14 = .ok (.iconst 0, 1) := by decide +kernel
theorem d_Wr_write_15 : decode b_Wr_write 15 = .ok (.putfield 43, 3) := by decide +kernel
theorem d_Wr_write_18 : decode b_Wr_write 18 = .ok (.aload_n 0, 1) := by decide +kernel
theorem d_Wr_write_19 : decode b_Wr_write 19 = .ok (.invokevirtual 46, 3) := by decide +kernel
theorem d_Wr_write_22 : decode b_Wr_write 22 = .ok (.iconst 0, 1) := by decide +kernel
theorem d_Wr_write_23 : decode b_Wr_write 23 = .ok (.istore_n 3, 1) := by decide +kernel
theorem d_Wr_write_24 : decode b_Wr_write 24 = .ok (.iload_n 3, 1) := by decide +kernel
theorem d_Wr_write_25 : decode b_Wr_write 25 = .ok (.aload_n 1, 1) := by decide +kernel
theorem d_Wr_write_26 : decode b_Wr_write 26 = .ok (.iload_n 2, 1) := by decide +kernel
theorem d_Wr_write_27 : decode b_Wr_write 27 = .ok (.bipush 9, 2) := by decide +kernel
theorem d_Wr_write_29 : decode b_Wr_write 29 = .ok (.invokevirtual 49, 3) := by decide +kernel
theorem d_Wr_write_32 : decode b_Wr_write 32 = .ok (.if_icmp .ge 14, 3) := by decide +kernel
theorem d_Wr_write_35 : decode b_Wr_write 35 = .ok (.aload_n 0, 1) := by decide +kernel
theorem d_Wr_write_36 : decode b_Wr_write 36 = .ok (.iload_n 3, 1) := by decide +kernel
theorem d_Wr_write_37 : decode b_Wr_write 37 = .ok (.invokevirtual 55, 3) := by decide +kernel
theorem d_Wr_write_40 : decode b_Wr_write 40 = .ok (.iinc 3 1, 3) := by decide +kernel
theorem d_Wr_write_43 : decode b_Wr_write 43 = .ok (.goto (-19), 3) := by decide +kernel
theorem d_Wr_write_46 : decode b_Wr_write 46 = .ok (.iconst 0, 1) := by decide +kernel
theorem d_Wr_write_47 : decode b_Wr_write 47 = .ok (.istore_n 3, 1) := by decide +kernel
theorem d_Wr_write_48 : decode b_Wr_write 48 = .ok (.iload_n 3, 1) := by decide +kernel
theorem d_Wr_write_49 : decode b_Wr_write 49 = .ok (.aload_n 1, 1) := by decide +kernel
theorem d_Wr_write_50 : decode b_Wr_write 50 = .ok (.iload_n 2, 1) := by decide +kernel
theorem d_Wr_write_51 : decode b_Wr_write 51 = .ok (.bipush 11, 2) := by decide +kernel
theorem d_Wr_write_53 : decode b_Wr_write 53 = .ok (.invokevirtual 49, 3) := by decide +kernel
theorem d_Wr_write_56 : decode b_Wr_write 56 = .ok (.if_icmp .ge 18, 3) := by decide +kernel
theorem d_Wr_write_59 : decode b_Wr_write 59 = .ok (.aload_n 0, 1) := by decide +kernel
theorem d_Wr_write_60 : decode b_Wr_write 60 = .ok (.iload_n 3, 1) := by decide +kernel
theorem d_Wr_write_61 : decode b_Wr_write 61 = .ok (.putfield 24, 3) := by decide +kernel
theorem d_Wr_write_64 : decode b_Wr_write 64 = .ok (.aload_n 0, 1) := by decide +kernel
theorem d_Wr_write_65 : decode b_Wr_write 65 = .ok (.invokevirtual 58, 3) := by decide +kernel
theorem d_Wr_write_68 : decode b_Wr_write 68 = .ok (.iinc 3 1, 3) := by decide +kernel
theorem d_Wr_write_71 : decode b_Wr_write 71 = .ok (.goto (-23), 3) := by decide +kernel
theorem d_Wr_write_74 : decode b_Wr_write 74 = .ok (.aload_n 0, 1) := by decide +kernel
theorem d_Wr_write_75 : decode b_Wr_write 75 = .ok (.iconst 0, 1) := by decide +kernel
theorem d_Wr_write_76 : decode b_Wr_write 76 = .ok (.invokevirtual 61, 3) := by decide +kernel
theorem d_Wr_write_79 : decode b_Wr_write 79 = .ok (.aload_n 0, 1) := by decide +kernel
theorem d_Wr_write_80 : decode b_Wr_write 80 = .ok (.bipush 36, 2) := by decide +kernel
theorem d_Wr_write_82 : decode b_Wr_write 82 = .ok (.invokevirtual 64, 3) := by decide +kernel
theorem d_Wr_write_85 : decode b_Wr_write 85 = .ok (.aload_n 0, 1) := by decide +kernel
theorem d_Wr_write_86 : decode b_Wr_write 86 = .ok (.invokevirtual 67, 3) := by decide +kernel
theorem d_Wr_write_89 : decode b_Wr_write 89 = .ok (.aload_n 0, 1) := by decide +kernel
theorem d_Wr_write_90 : decode b_Wr_write 90 = .ok (.getfield 14, 3) := by decide +kernel
theorem d_Wr_write_93 : decode b_Wr_write 93 = .ok (.getfield 43, 3) := by decide +kernel
theorem d_Wr_write_96 : decode b_Wr_write 96 = .ok (.ireturn, 1) := by decide +kernel
abbrev ra_Wr_write (mc ms : Nat) : Room := { frames := 11, cells := mc, slots := ms, locals := 554 }
def wba_Wr_write_48 (mc ms : Nat) (Post : Ly → St → Int32 → Nat → Nat → Prop) (K_48 : Ly → St → Nat → Nat → Int32 → Int32 → Prop) (a0 : Nat) (a1 : Nat) (y_h48 : Ly) (s_h48 : St) (d_h48 e_h48 : Nat) (x2h48 : Int32) (x3h48 : Int32) : Prop := (d_h48 ≤ mc ∧ e_h48 ≤ ms) ∧ wu_Wd_of y_h48 (fun (s_15 : St) (r_14 : Int32) => ((r_14 ≤ x3h48 → ∃ mc_21 ms_22 : Nat, (d_h48 + mc_21 ≤ mc ∧ e_h48 + ms_22 ≤ ms) ∧ wa_Wr_beginLine mc_21 ms_22 y_h48 (fun (y_18 : Ly) (s_17 : St) (d_19 e_20 : Nat) => (d_h48 + d_19 ≤ mc ∧ e_h48 + e_20 ≤ ms) ∧ ∃ mc_29 ms_30 : Nat, (d_h48 + d_19 + mc_29 ≤ mc ∧ e_h48 + e_20 + ms_30 ≤ ms) ∧ wa_Wr_word mc_29 ms_30 y_18 (fun (y_26 : Ly) (s_25 : St) (d_27 e_28 : Nat) => (d_h48 + d_19 + d_27 ≤ mc ∧ e_h48 + e_20 + e_28 ≤ ms) ∧ ∃ mc_37 ms_38 : Nat, (d_h48 + d_19 + d_27 + mc_37 ≤ mc ∧ e_h48 + e_20 + e_28 + ms_38 ≤ ms) ∧ wa_Wr_endLine mc_37 ms_38 y_26 (fun (y_34 : Ly) (s_33 : St) (d_35 e_36 : Nat) => (d_h48 + d_19 + d_27 + d_35 ≤ mc ∧ e_h48 + e_20 + e_28 + e_36 ≤ ms) ∧ Post y_34 s_33 (sV s_33 (lk a0 0) 1) (d_h48 + d_19 + d_27 + d_35) (e_h48 + e_20 + e_28 + e_36)) s_25 a0) s_17 a0 36) s_15 a0 0) ∧ (¬ (r_14 ≤ x3h48) → xP (uV s_15 a0 4 x3h48) (fun s_40 : St => ∃ mc_46 ms_47 : Nat, (d_h48 + mc_46 ≤ mc ∧ e_h48 + ms_47 ≤ ms) ∧ wa_Wr_writeMethod mc_46 ms_47 y_h48 (fun (y_43 : Ly) (s_42 : St) (d_44 e_45 : Nat) => (d_h48 + d_44 ≤ mc ∧ e_h48 + e_45 ≤ ms) ∧ K_48 y_43 s_42 (d_h48 + d_44) (e_h48 + e_45) x2h48 (x3h48 + 1)) s_40 a0)))) s_h48 a1 x2h48 11
def wla_Wr_write_48 (mc ms : Nat) (Post : Ly → St → Int32 → Nat → Nat → Prop) (a0 : Nat) (a1 : Nat) (y_h48 : Ly) (s_h48 : St) (d_h48 e_h48 : Nat) (x2h48 : Int32) (x3h48 : Int32) : Prop := ∃ (I : Ly → St → Nat → Nat → Int32 → Int32 → Prop) (μ : Ly → St → Nat → Nat → Int32 → Int32 → Nat), I y_h48 s_h48 d_h48 e_h48 x2h48 x3h48 ∧ ∀ (u1 : Ly) (u2 : St) (u3 u4 : Nat) (t0 : Int32) (t1 : Int32), I u1 u2 u3 u4 t0 t1 → wba_Wr_write_48 mc ms Post (fun z1 z2 z3 z4 t0q t1q => I z1 z2 z3 z4 t0q t1q ∧ μ z1 z2 z3 z4 t0q t1q < μ u1 u2 u3 u4 t0 t1) a0 a1 u1 u2 u3 u4 t0 t1
def wba_Wr_write_24 (mc ms : Nat) (Post : Ly → St → Int32 → Nat → Nat → Prop) (K_24 : Ly → St → Nat → Nat → Int32 → Int32 → Prop) (a0 : Nat) (a1 : Nat) (y_h24 : Ly) (s_h24 : St) (d_h24 e_h24 : Nat) (x2h24 : Int32) (x3h24 : Int32) : Prop := (d_h24 ≤ mc ∧ e_h24 ≤ ms) ∧ wu_Wd_of y_h24 (fun (s_13 : St) (r_12 : Int32) => ((r_12 ≤ x3h24 → wla_Wr_write_48 mc ms Post a0 a1 y_h24 s_13 d_h24 e_h24 x2h24 0) ∧ (¬ (r_12 ≤ x3h24) → ∃ mc_54 ms_55 : Nat, (d_h24 + mc_54 ≤ mc ∧ e_h24 + ms_55 ≤ ms) ∧ wa_Wr_writeField mc_54 ms_55 y_h24 (fun (y_51 : Ly) (s_50 : St) (d_52 e_53 : Nat) => (d_h24 + d_52 ≤ mc ∧ e_h24 + e_53 ≤ ms) ∧ K_24 y_51 s_50 (d_h24 + d_52) (e_h24 + e_53) x2h24 (x3h24 + 1)) s_13 a0 x3h24))) s_h24 a1 x2h24 9
def wla_Wr_write_24 (mc ms : Nat) (Post : Ly → St → Int32 → Nat → Nat → Prop) (a0 : Nat) (a1 : Nat) (y_h24 : Ly) (s_h24 : St) (d_h24 e_h24 : Nat) (x2h24 : Int32) (x3h24 : Int32) : Prop := ∃ (I : Ly → St → Nat → Nat → Int32 → Int32 → Prop) (μ : Ly → St → Nat → Nat → Int32 → Int32 → Nat), I y_h24 s_h24 d_h24 e_h24 x2h24 x3h24 ∧ ∀ (u1 : Ly) (u2 : St) (u3 u4 : Nat) (t0 : Int32) (t1 : Int32), I u1 u2 u3 u4 t0 t1 → wba_Wr_write_24 mc ms Post (fun z1 z2 z3 z4 t0q t1q => I z1 z2 z3 z4 t0q t1q ∧ μ z1 z2 z3 z4 t0q t1q < μ u1 u2 u3 u4 t0 t1) a0 a1 u1 u2 u3 u4 t0 t1
def wa_Wr_write (mc ms : Nat) (y : Ly) (Post : Ly → St → Int32 → Nat → Nat → Prop) (σ : St) (a0 : Nat) (a1 : Nat) (v2 : Int32) : Prop := xP (uO σ a0 2 (some a1)) (fun s_1 : St => xP (uV s_1 a0 3 v2) (fun s_2 : St => xP (uV s_2 (lk a0 0) 1 0) (fun s_3 : St => ∃ mc_9 ms_10 : Nat, (0 + mc_9 ≤ mc ∧ 0 + ms_10 ≤ ms) ∧ wa_Wr_writeHead mc_9 ms_10 y (fun (y_6 : Ly) (s_5 : St) (d_7 e_8 : Nat) => (0 + d_7 ≤ mc ∧ 0 + e_8 ≤ ms) ∧ wla_Wr_write_24 mc ms Post a0 a1 y_6 s_5 (0 + d_7) (0 + e_8) v2 0) s_3 a0)))
set_option maxHeartbeats 4000000 in
set_option maxRecDepth 100000 in
theorem ca_Wr_write (l : Launch) (D : va_G) (g : Nat → ClassId) (F : Nat → SL) (sl : List SL) (hF : SOK F sl) (ad : Nat → Nat) (mc ms : Nat) (y : Ly) (Post : Ly → St → Int32 → Nat → Nat → Prop) (σ : St) (a0 : Nat) (a1 : Nat) (v2 : Int32) (sz uz : Nat) (h_a0 : cl a0 = 10) (h_a1 : cl a1 = 9) (h : wa_Wr_write mc ms y Post σ a0 a1 v2) : Met l y_Wr_write (mw y_Wr_write b_Wr_write 4 (some .int)) (ra_Wr_write mc ms) (PCu g D sl [.ref (ad a0), .ref (ad a1), .int v2] sz uz (ws g ad y σ)) (va_Qi (fun (r : Int32) (u : Ly × St × Nat × Nat) => Post u.1 u.2.1 r u.2.2.1 u.2.2.2) (QU D (va_A (ws g ad y σ) sz) (fun u => ws g ad u.1 u.2.1) sz uz (fun u => u.2.2.1) (fun u => u.2.2.2)) (va_A (ws g ad y σ) sz)) mc ms (va_A (ws g ad y σ) sz) := by
  refine ofIu (by decide +kernel) (Nat.le_of_ble_eq_true rfl) ?_
  intro p e s m args below meth c A Q ls H locs G hsz hP hD hS hl hret
  subst hsz
  have hl : lv_has ls 4 [(0, .ref (ad a0)), (1, .ref (ad a1)), (2, .int v2)] := hl
  have hd : 0 ≤ mc ∧ 0 ≤ ms := ⟨Nat.zero_le _, Nat.zero_le _⟩
  unfold wa_Wr_write at h
  refine lv_aload_n G.1 G.2.1 d_Wr_write_0 rfl (lv_at hl 0 rfl) ?_
  refine lv_aload_n G.1 G.2.1 d_Wr_write_1 rfl (lv_at hl 1 rfl) ?_
  refine upf G hP hD hS h 2 putO h_a0 iWr tWr tWr_ok nWr rfl (by decide) rfl q774 rfl rfl fO rfl rfl d_Wr_write_2 (fun s_1 H locs h hP hD hS => ?_)
  refine lv_aload_n G.1 G.2.1 d_Wr_write_5 rfl (lv_at hl 0 rfl) ?_
  refine lv_iload_n G.1 G.2.1 d_Wr_write_6 rfl (lv_at hl 2 rfl) ?_
  refine upf G hP hD hS h 3 putV h_a0 iWr tWr tWr_ok nWr rfl (by decide) rfl q775 rfl rfl fV rfl rfl d_Wr_write_7 (fun s_2 H locs h hP hD hS => ?_)
  refine lv_aload_n G.1 G.2.1 d_Wr_write_10 rfl (lv_at hl 0 rfl) ?_
  refine ugf (v := .ref (ad (lk a0 0))) G hP h_a0 iWr rfl 0 (by decide) rfl q771 rfl rfl d_Wr_write_11 ?_
  refine lv_iconst (v := 0) G.1 G.2.1 d_Wr_write_14 (by decide) ?_
  refine upf G hP hD hS h 1 putV (lk_10_0 h_a0) iIn tIn tIn_ok nIn rfl (by decide) rfl q390 rfl rfl fV rfl rfl d_Wr_write_15 (fun s_3 H locs h hP hD hS => ?_)
  refine lv_aload_n G.1 G.2.1 d_Wr_write_18 rfl (lv_at hl 0 rfl) ?_
  refine W.eq (g2 := F0 m 19 ls [.ref (ad a0)]) rfl ?_
  obtain ⟨mc_9, ms_10, hr_11, h⟩ := h
  refine uaVv (As := []) (rest := []) G hP hD hS (ca_Wr_writeHead l D g ad mc_9 ms_10 y _ s_3 a0 H.size (us H) h_a0 h) w9_Wr_writeHead q2150 ⟨Nat.le_of_ble_eq_true rfl, Nat.le_of_ble_eq_true rfl⟩ rfl rfl h_a0 (q := (RWr, TWr, 7)) rfl rfl hl.1 rfl (Nat.le_of_ble_eq_true rfl) rfl hr_11 d_Wr_write_19 (fun y_6 s_5 d_7 e_8 H locs h hP hD hS => ?_)
  obtain ⟨hd, h⟩ := h
  refine lv_iconst (v := 0) G.1 G.2.1 d_Wr_write_22 (by decide) ?_
  refine lv_istore_n (lv' := [(3, .int 0), (0, .ref (ad a0)), (1, .ref (ad a1)), (2, .int v2)]) G.1 G.2.1 d_Wr_write_23 rfl hl (by decide) rfl (fun ls hl => ?_)
  unfold wla_Wr_write_24 at h
  obtain ⟨I_24, μ_24, hI_24, hB_24⟩ := h
  have L_24 : ∀ (n_24 : Nat) (y_h24 : Ly) (s_h24 : St) (d_h24 e_h24 : Nat) (x2h24 : Int32) (x3h24 : Int32), μ_24 y_h24 s_h24 d_h24 e_h24 x2h24 x3h24 < n_24 → I_24 y_h24 s_h24 d_h24 e_h24 x2h24 x3h24 → ∀ (H : Heap) (locs : List Loc), va_P D CL (ws g ad y_h24 s_h24) H → va_D A (ws g ad y_h24 s_h24) → va_S A s.heap H locs → ∀ ls, lv_has ls 4 [(0, .ref (ad a0)), (1, .ref (ad a1)), (2, .int x2h24), (3, .int x3h24)] → W p l e (ra_Wr_write mc ms) s m args below meth c H locs d_h24 e_h24 Q (F0 m 24 ls []) := by
    intro n_24
    induction n_24 with
    | zero => intro y_h24 s_h24 d_h24 e_h24 x2h24 x3h24 hμ; exact absurd hμ (Nat.not_lt_zero _)
    | succ n_24 ih_24 =>
      intro y_h24 s_h24 d_h24 e_h24 x2h24 x3h24 hμ_24 hJ H locs hP hD hS ls hl
      obtain ⟨K_24, hK_24, h⟩ : ∃ K : Ly → St → Nat → Nat → Int32 → Int32 → Prop, (∀ z1 z2 z3 z4 (t0 : Int32) (t1 : Int32), K z1 z2 z3 z4 t0 t1 → I_24 z1 z2 z3 z4 t0 t1 ∧ μ_24 z1 z2 z3 z4 t0 t1 < μ_24 y_h24 s_h24 d_h24 e_h24 x2h24 x3h24) ∧ wba_Wr_write_24 mc ms Post K a0 a1 y_h24 s_h24 d_h24 e_h24 x2h24 x3h24 := ⟨_, fun _ _ _ _ _ _ h => h, hB_24 y_h24 s_h24 d_h24 e_h24 x2h24 x3h24 hJ⟩
      unfold wba_Wr_write_24 at h
      obtain ⟨hd, h⟩ := h
      refine lv_iload_n G.1 G.2.1 d_Wr_write_24 rfl (lv_at hl 3 rfl) ?_
      refine lv_aload_n G.1 G.2.1 d_Wr_write_25 rfl (lv_at hl 1 rfl) ?_
      refine lv_iload_n G.1 G.2.1 d_Wr_write_26 rfl (lv_at hl 2 rfl) ?_
      refine lv_bipush (v := 9) G.1 G.2.1 d_Wr_write_27 (by decide) ?_
      refine ucVi (As := [.int x2h24, .int 9]) (rest := [.int x3h24]) G hP hD hS (cu_Wd_of l D g ad y_h24 _ s_h24 a1 x2h24 9 H.size h_a1 h) w9_Wd_of q2154 ⟨Nat.le_of_ble_eq_true rfl, Nat.le_of_ble_eq_true rfl⟩ rfl rfl h_a1 (q := (RWd, TWd, 17)) rfl rfl hl.1 rfl (Nat.le_of_ble_eq_true rfl) rfl hd d_Wr_write_29 (fun r_12 s_13 H locs h hP hD hS => ?_)
      refine lv_icmp_ge (tgt := 46) G.1 G.2.1 d_Wr_write_32 (by decide) (fun c32 => ?_) (fun c32 => ?_)
      · skip
        have h := h.1 c32
        refine lv_iconst (v := 0) G.1 G.2.1 d_Wr_write_46 (by decide) ?_
        refine lv_istore_n (lv' := [(3, .int 0), (0, .ref (ad a0)), (1, .ref (ad a1)), (2, .int x2h24)]) G.1 G.2.1 d_Wr_write_47 rfl hl (by decide) rfl (fun ls hl => ?_)
        unfold wla_Wr_write_48 at h
        obtain ⟨I_48, μ_48, hI_48, hB_48⟩ := h
        have L_48 : ∀ (n_48 : Nat) (y_h48 : Ly) (s_h48 : St) (d_h48 e_h48 : Nat) (x2h48 : Int32) (x3h48 : Int32), μ_48 y_h48 s_h48 d_h48 e_h48 x2h48 x3h48 < n_48 → I_48 y_h48 s_h48 d_h48 e_h48 x2h48 x3h48 → ∀ (H : Heap) (locs : List Loc), va_P D CL (ws g ad y_h48 s_h48) H → va_D A (ws g ad y_h48 s_h48) → va_S A s.heap H locs → ∀ ls, lv_has ls 4 [(0, .ref (ad a0)), (1, .ref (ad a1)), (2, .int x2h48), (3, .int x3h48)] → W p l e (ra_Wr_write mc ms) s m args below meth c H locs d_h48 e_h48 Q (F0 m 48 ls []) := by
          intro n_48
          induction n_48 with
          | zero => intro y_h48 s_h48 d_h48 e_h48 x2h48 x3h48 hμ; exact absurd hμ (Nat.not_lt_zero _)
          | succ n_48 ih_48 =>
            intro y_h48 s_h48 d_h48 e_h48 x2h48 x3h48 hμ_48 hJ H locs hP hD hS ls hl
            obtain ⟨K_48, hK_48, h⟩ : ∃ K : Ly → St → Nat → Nat → Int32 → Int32 → Prop, (∀ z1 z2 z3 z4 (t0 : Int32) (t1 : Int32), K z1 z2 z3 z4 t0 t1 → I_48 z1 z2 z3 z4 t0 t1 ∧ μ_48 z1 z2 z3 z4 t0 t1 < μ_48 y_h48 s_h48 d_h48 e_h48 x2h48 x3h48) ∧ wba_Wr_write_48 mc ms Post K a0 a1 y_h48 s_h48 d_h48 e_h48 x2h48 x3h48 := ⟨_, fun _ _ _ _ _ _ h => h, hB_48 y_h48 s_h48 d_h48 e_h48 x2h48 x3h48 hJ⟩
            unfold wba_Wr_write_48 at h
            obtain ⟨hd, h⟩ := h
            refine lv_iload_n G.1 G.2.1 d_Wr_write_48 rfl (lv_at hl 3 rfl) ?_
            refine lv_aload_n G.1 G.2.1 d_Wr_write_49 rfl (lv_at hl 1 rfl) ?_
            refine lv_iload_n G.1 G.2.1 d_Wr_write_50 rfl (lv_at hl 2 rfl) ?_
            refine lv_bipush (v := 11) G.1 G.2.1 d_Wr_write_51 (by decide) ?_
            refine ucVi (As := [.int x2h48, .int 11]) (rest := [.int x3h48]) G hP hD hS (cu_Wd_of l D g ad y_h48 _ s_h48 a1 x2h48 11 H.size h_a1 h) w9_Wd_of q2154 ⟨Nat.le_of_ble_eq_true rfl, Nat.le_of_ble_eq_true rfl⟩ rfl rfl h_a1 (q := (RWd, TWd, 17)) rfl rfl hl.1 rfl (Nat.le_of_ble_eq_true rfl) rfl hd d_Wr_write_53 (fun r_14 s_15 H locs h hP hD hS => ?_)
            refine lv_icmp_ge (tgt := 74) G.1 G.2.1 d_Wr_write_56 (by decide) (fun c56 => ?_) (fun c56 => ?_)
            · skip
              have h := h.1 c56
              refine lv_aload_n G.1 G.2.1 d_Wr_write_74 rfl (lv_at hl 0 rfl) ?_
              refine lv_iconst (v := 0) G.1 G.2.1 d_Wr_write_75 (by decide) ?_
              obtain ⟨mc_21, ms_22, hr_23, h⟩ := h
              refine uaVv (As := [.int 0]) (rest := []) G hP hD hS (ca_Wr_beginLine l D g ad mc_21 ms_22 y_h48 _ s_15 a0 0 H.size (us H) h_a0 h) w9_Wr_beginLine q2155 ⟨Nat.le_of_ble_eq_true rfl, Nat.le_of_ble_eq_true rfl⟩ rfl rfl h_a0 (q := (RWr, TWr, 7)) rfl rfl hl.1 rfl (Nat.le_of_ble_eq_true rfl) rfl hr_23 d_Wr_write_76 (fun y_18 s_17 d_19 e_20 H locs h hP hD hS => ?_)
              have hl := lv_sub (l' := [(0, .ref (ad a0))]) hl [0] rfl
              obtain ⟨hd, h⟩ := h
              refine lv_aload_n G.1 G.2.1 d_Wr_write_79 rfl (lv_at hl 0 rfl) ?_
              refine lv_bipush (v := 36) G.1 G.2.1 d_Wr_write_80 (by decide) ?_
              refine W.eq (g2 := F0 m 82 ls [.int 36, .ref (ad a0)]) rfl ?_
              obtain ⟨mc_29, ms_30, hr_31, h⟩ := h
              refine uaVv (As := [.int 36]) (rest := []) G hP hD hS (ca_Wr_word l D g ad mc_29 ms_30 y_18 _ s_17 a0 36 H.size (us H) h_a0 h) w9_Wr_word q2164 ⟨Nat.le_of_ble_eq_true rfl, Nat.le_of_ble_eq_true rfl⟩ rfl rfl h_a0 (q := (RWr, TWr, 7)) rfl rfl hl.1 rfl (Nat.le_of_ble_eq_true rfl) rfl hr_31 d_Wr_write_82 (fun y_26 s_25 d_27 e_28 H locs h hP hD hS => ?_)
              obtain ⟨hd, h⟩ := h
              refine lv_aload_n G.1 G.2.1 d_Wr_write_85 rfl (lv_at hl 0 rfl) ?_
              obtain ⟨mc_37, ms_38, hr_39, h⟩ := h
              refine uaVv (As := []) (rest := []) G hP hD hS (ca_Wr_endLine l D g ad mc_37 ms_38 y_26 _ s_25 a0 H.size (us H) h_a0 h) w9_Wr_endLine q2178 ⟨Nat.le_of_ble_eq_true rfl, Nat.le_of_ble_eq_true rfl⟩ rfl rfl h_a0 (q := (RWr, TWr, 7)) rfl rfl hl.1 rfl (Nat.le_of_ble_eq_true rfl) rfl hr_39 d_Wr_write_86 (fun y_34 s_33 d_35 e_36 H locs h hP hD hS => ?_)
              obtain ⟨hd, h⟩ := h
              refine lv_aload_n G.1 G.2.1 d_Wr_write_89 rfl (lv_at hl 0 rfl) ?_
              refine ugf (v := .ref (ad (lk a0 0))) G hP h_a0 iWr rfl 0 (by decide) rfl q771 rfl rfl d_Wr_write_90 ?_
              refine ugf (v := .int (sV s_33 (lk a0 0) 1)) G hP (lk_10_0 h_a0) iIn rfl 1 (by decide) rfl q390 rfl rfl d_Wr_write_93 ?_
              exact hret _ (y_34, s_33, d_h48 + d_19 + d_27 + d_35, e_h48 + e_20 + e_28 + e_36) _ _ _ _ _ ls h hP hD hS (Nat.le_refl _) (Nat.le_refl _) hd.1 hd.2 d_Wr_write_96
            · skip
              have h := h.2 c56
              refine lv_aload_n G.1 G.2.1 d_Wr_write_59 rfl (lv_at hl 0 rfl) ?_
              refine lv_iload_n G.1 G.2.1 d_Wr_write_60 rfl (lv_at hl 3 rfl) ?_
              refine upf G hP hD hS h 4 putV h_a0 iWr tWr tWr_ok nWr rfl (by decide) rfl q776 rfl rfl fV rfl rfl d_Wr_write_61 (fun s_40 H locs h hP hD hS => ?_)
              refine lv_aload_n G.1 G.2.1 d_Wr_write_64 rfl (lv_at hl 0 rfl) ?_
              obtain ⟨mc_46, ms_47, hr_48, h⟩ := h
              refine utVv (As := []) (rest := []) G hP hD hS (ca_Wr_writeMethod l D g F sl hF ad mc_46 ms_47 y_h48 _ s_40 a0 H.size (us H) h_a0 h) w9_Wr_writeMethod q2198 ⟨Nat.le_of_ble_eq_true rfl, Nat.le_of_ble_eq_true rfl⟩ rfl rfl h_a0 (q := (RWr, TWr, 7)) rfl rfl hl.1 rfl (Nat.le_of_ble_eq_true rfl) rfl hr_48 d_Wr_write_65 (fun y_43 s_42 d_44 e_45 H locs h hP hD hS => ?_)
              obtain ⟨hd, h⟩ := h
              refine W.eq (g2 := F0 m 68 ls []) rfl ?_
              refine lv_iinc (v := x3h48 + 1) (lv' := [(3, .int (x3h48 + 1)), (0, .ref (ad a0)), (1, .ref (ad a1)), (2, .int x2h48)]) G.1 G.2.1 d_Wr_write_68 hl (k := 3) rfl rfl (by decide) rfl (fun ls hl => ?_)
              refine lv_goto (tgt := 48) G.1 G.2.1 d_Wr_write_71 (by decide) ?_
              have h := hK_48 y_43 s_42 (d_h48 + d_44) (e_h48 + e_45) x2h48 (x3h48 + 1) h
              exact ih_48 y_43 s_42 (d_h48 + d_44) (e_h48 + e_45) x2h48 (x3h48 + 1) (Nat.lt_of_lt_of_le h.2 (Nat.le_of_lt_succ hμ_48)) h.1 H locs hP hD hS ls (lv_sub hl [1, 2, 3, 0] rfl)
        exact L_48 _ y_h24 s_13 d_h24 e_h24 x2h24 0 (Nat.lt_succ_self _) hI_48 H locs hP hD hS ls (lv_sub hl [1, 2, 3, 0] rfl)
      · skip
        have h := h.2 c32
        refine lv_aload_n G.1 G.2.1 d_Wr_write_35 rfl (lv_at hl 0 rfl) ?_
        refine lv_iload_n G.1 G.2.1 d_Wr_write_36 rfl (lv_at hl 3 rfl) ?_
        obtain ⟨mc_54, ms_55, hr_56, h⟩ := h
        refine uaVv (As := [.int x3h24]) (rest := []) G hP hD hS (ca_Wr_writeField l D g ad mc_54 ms_55 y_h24 _ s_13 a0 x3h24 H.size (us H) h_a0 h) w9_Wr_writeField q2182 ⟨Nat.le_of_ble_eq_true rfl, Nat.le_of_ble_eq_true rfl⟩ rfl rfl h_a0 (q := (RWr, TWr, 7)) rfl rfl hl.1 rfl (Nat.le_of_ble_eq_true rfl) rfl hr_56 d_Wr_write_37 (fun y_51 s_50 d_52 e_53 H locs h hP hD hS => ?_)
        obtain ⟨hd, h⟩ := h
        refine lv_iinc (v := x3h24 + 1) (lv' := [(3, .int (x3h24 + 1)), (0, .ref (ad a0)), (1, .ref (ad a1)), (2, .int x2h24)]) G.1 G.2.1 d_Wr_write_40 hl (k := 3) rfl rfl (by decide) rfl (fun ls hl => ?_)
        refine lv_goto (tgt := 24) G.1 G.2.1 d_Wr_write_43 (by decide) ?_
        have h := hK_24 y_51 s_50 (d_h24 + d_52) (e_h24 + e_53) x2h24 (x3h24 + 1) h
        exact ih_24 y_51 s_50 (d_h24 + d_52) (e_h24 + e_53) x2h24 (x3h24 + 1) (Nat.lt_of_lt_of_le h.2 (Nat.le_of_lt_succ hμ_24)) h.1 H locs hP hD hS ls (lv_sub hl [1, 2, 3, 0] rfl)
  exact L_24 _ y_6 s_5 (0 + d_7) (0 + e_8) v2 0 (Nat.lt_succ_self _) hI_24 H locs hP hD hS ls (lv_sub hl [1, 2, 3, 0] rfl)
theorem q2146 : Cond.methodLink "ClassWorks" 346 y_Wr_write ∈ lw_ok := lw_okmem (List.mem_of_getElem? (i := 2146) (by decide +kernel)) rfl
theorem q2149 : Cond.code y_Wr_write b_Wr_write 4 (some .int) ∈ lw_ok := lw_okmem (List.mem_of_getElem? (i := 2149) (by decide +kernel)) rfl
theorem q2147 : Cond.instanceMethod y_Wr_write ∈ lw_ok := lw_okmem (List.mem_of_getElem? (i := 2147) (by decide +kernel)) rfl
theorem q2148 : Cond.selects y_Wr_write.cls y_Wr_write y_Wr_write ∈ lw_ok := lw_okmem (List.mem_of_getElem? (i := 2148) (by decide +kernel)) rfl
theorem w9_Wr_write : CWv y_Wr_write b_Wr_write 4 (some .int) 2 ∧ Cond.instanceMethod y_Wr_write ∈ lw_ok ∧ Cond.selects y_Wr_write.cls y_Wr_write y_Wr_write ∈ lw_ok := ⟨⟨q2149, q343, by decide +kernel, by decide +kernel, by decide +kernel⟩, q2147, q2148⟩
def y_Cw_print : MethodName := ⟨"ClassWorks", "print", "(II)I"⟩
abbrev b_Cw_print : ByteArray := prog_1_method_33_code
theorem d_Cw_print_0 : decode b_Cw_print 0 = .ok (.aload_n 0, 1) := by decide +kernel
theorem d_Cw_print_1 : decode b_Cw_print 1 = .ok (.iload_n 1, 1) := by decide +kernel
theorem d_Cw_print_2 : decode b_Cw_print 2 = .ok (.iload_n 2, 1) := by decide +kernel
theorem d_Cw_print_3 : decode b_Cw_print 3 = .ok (.invokevirtual 150, 3) := by decide +kernel
theorem d_Cw_print_6 : decode b_Cw_print 6 = .ok (.astore_n 3, 1) := by decide +kernel
theorem d_Cw_print_7 : decode b_Cw_print 7 = .ok (.aload_n 3, 1) := by decide +kernel
theorem d_Cw_print_8 : decode b_Cw_print 8 = .ok (.ifnull 9, 3) := by decide +kernel
theorem d_Cw_print_11 : decode b_Cw_print 11 = .ok (.iload_n 2, 1) := by decide +kernel
theorem d_Cw_print_12 : decode b_Cw_print 12 = .ok (.bipush 21, 2) := by decide +kernel
theorem d_Cw_print_14 : decode b_Cw_print 14 = .ok (.if_icmp .ge 7, 3) := by decide +kernel
theorem d_Cw_print_17 : decode b_Cw_print 17 = .ok (.iconst (-1), 1) := by decide +kernel
theorem d_Cw_print_18 : decode b_Cw_print 18 = .ok (.goto 12, 3) := by decide +kernel
theorem d_Cw_print_21 : decode b_Cw_print 21 = .ok (.aload_n 0, 1) := by decide +kernel
theorem d_Cw_print_22 : decode b_Cw_print 22 = .ok (.getfield 104, 3) := by decide +kernel
theorem d_Cw_print_25 : decode b_Cw_print 25 = .ok (.aload_n 3, 1) := by decide +kernel
theorem d_Cw_print_26 : decode b_Cw_print 26 = .ok (.iload_n 2, 1) := by decide +kernel
theorem d_Cw_print_27 : decode b_Cw_print 27 = .ok (.invokevirtual 346, 3) := by decide +kernel
theorem d_Cw_print_30 : decode b_Cw_print 30 = .ok (.ireturn, 1) := by decide +kernel
abbrev ra_Cw_print (mc ms : Nat) : Room := { frames := 12, cells := mc, slots := ms, locals := 577 }
def wja_Cw_print_30 (mc ms : Nat) (Post : Ly → St → Int32 → Nat → Nat → Prop) (a0 : Nat) (y_j30 : Ly) (s_j30 : St) (d_j30 e_j30 : Nat) (z0j30 : Int32) : Prop := (d_j30 ≤ mc ∧ e_j30 ≤ ms) ∧ Post y_j30 s_j30 z0j30 d_j30 e_j30
def wja_Cw_print_17 (mc ms : Nat) (Post : Ly → St → Int32 → Nat → Nat → Prop) (a0 : Nat) (y_j17 : Ly) (s_j17 : St) (d_j17 e_j17 : Nat) : Prop := (d_j17 ≤ mc ∧ e_j17 ≤ ms) ∧ wja_Cw_print_30 mc ms Post a0 y_j17 s_j17 d_j17 e_j17 (-1)
def wa_Cw_print (mc ms : Nat) (y : Ly) (Post : Ly → St → Int32 → Nat → Nat → Prop) (σ : St) (a0 : Nat) (v1 : Int32) (v2 : Int32) : Prop := wu_Cw_worldWith y (fun (s_2 : St) (r_1 : Option Nat) => ((r_1 = none → wja_Cw_print_17 mc ms Post a0 y s_2 0 0) ∧ (∀ r_1b : Nat, r_1 = some r_1b → (cl r_1b = 9 ∧ ((21 ≤ v2 → ∃ mc_8 ms_9 : Nat, (0 + mc_8 ≤ mc ∧ 0 + ms_9 ≤ ms) ∧ wa_Wr_write mc_8 ms_9 y (fun (y_5 : Ly) (s_4 : St) (r_3 : Int32) (d_6 e_7 : Nat) => (0 + d_6 ≤ mc ∧ 0 + e_7 ≤ ms) ∧ wja_Cw_print_30 mc ms Post a0 y_5 s_4 (0 + d_6) (0 + e_7) r_3) s_2 (lk a0 4) r_1b v2) ∧ (¬ (21 ≤ v2) → wja_Cw_print_17 mc ms Post a0 y s_2 0 0)))))) σ a0 v1 v2
set_option maxHeartbeats 4000000 in
set_option maxRecDepth 100000 in
theorem ca_Cw_print (l : Launch) (D : va_G) (g : Nat → ClassId) (F : Nat → SL) (sl : List SL) (hF : SOK F sl) (ad : Nat → Nat) (mc ms : Nat) (y : Ly) (Post : Ly → St → Int32 → Nat → Nat → Prop) (σ : St) (a0 : Nat) (v1 : Int32) (v2 : Int32) (sz uz : Nat) (h_a0 : cl a0 = 11) (h : wa_Cw_print mc ms y Post σ a0 v1 v2) : Met l y_Cw_print (mw y_Cw_print b_Cw_print 4 (some .int)) (ra_Cw_print mc ms) (PCu g D sl [.ref (ad a0), .int v1, .int v2] sz uz (ws g ad y σ)) (va_Qi (fun (r : Int32) (u : Ly × St × Nat × Nat) => Post u.1 u.2.1 r u.2.2.1 u.2.2.2) (QU D (va_A (ws g ad y σ) sz) (fun u => ws g ad u.1 u.2.1) sz uz (fun u => u.2.2.1) (fun u => u.2.2.2)) (va_A (ws g ad y σ) sz)) mc ms (va_A (ws g ad y σ) sz) := by
  refine ofIu (by decide +kernel) (Nat.le_of_ble_eq_true rfl) ?_
  intro p e s m args below meth c A Q ls H locs G hsz hP hD hS hl hret
  subst hsz
  have hl : lv_has ls 4 [(0, .ref (ad a0)), (1, .int v1), (2, .int v2)] := hl
  have hd : 0 ≤ mc ∧ 0 ≤ ms := ⟨Nat.zero_le _, Nat.zero_le _⟩
  unfold wa_Cw_print at h
  refine lv_aload_n G.1 G.2.1 d_Cw_print_0 rfl (lv_at hl 0 rfl) ?_
  refine lv_iload_n G.1 G.2.1 d_Cw_print_1 rfl (lv_at hl 1 rfl) ?_
  refine lv_iload_n G.1 G.2.1 d_Cw_print_2 rfl (lv_at hl 2 rfl) ?_
  refine ucVq (As := [.int v1, .int v2]) (rest := []) G hP hD hS (cu_Cw_worldWith l D g ad y _ σ a0 v1 v2 H.size h_a0 h) w9_Cw_worldWith q1481 ⟨Nat.le_of_ble_eq_true rfl, Nat.le_of_ble_eq_true rfl⟩ rfl rfl h_a0 (q := (RCw, TCw, 20)) rfl rfl hl.1 rfl (Nat.le_of_ble_eq_true rfl) rfl hd d_Cw_print_3 (fun r_1 s_2 H locs h hP hD hS => ?_)
  rcases r_1 with _ | r_1b
  · skip
    have h := h.1 rfl
    show W p l e (ra_Cw_print mc ms) s m args below meth c H locs 0 0 Q (F0 m 6 ls [.null])
    refine lv_astore_nN (lv' := [(3, .null), (0, .ref (ad a0)), (1, .int v1), (2, .int v2)]) G.1 G.2.1 d_Cw_print_6 rfl hl (by decide) rfl (fun ls hl => ?_)
    refine lv_aload_nN G.1 G.2.1 d_Cw_print_7 rfl (lv_at hl 0 rfl) ?_
    have J_30 : ∀ (y_j30 : Ly) (s_j30 : St) (d_j30 e_j30 : Nat) (z0j30 : Int32) (H : Heap) (locs : List Loc), wja_Cw_print_30 mc ms Post a0 y_j30 s_j30 d_j30 e_j30 z0j30 → va_P D CL (ws g ad y_j30 s_j30) H → va_D A (ws g ad y_j30 s_j30) → va_S A s.heap H locs → ∀ ls, lv_has ls 4 [] → W p l e (ra_Cw_print mc ms) s m args below meth c H locs d_j30 e_j30 Q (F0 m 30 ls [.int z0j30]) := by
      intro y_j30 s_j30 d_j30 e_j30 z0j30 H locs h hP hD hS ls hl
      unfold wja_Cw_print_30 at h
      obtain ⟨hd, h⟩ := h
      exact hret _ (y_j30, s_j30, d_j30, e_j30) _ _ _ _ _ ls h hP hD hS (Nat.le_refl _) (Nat.le_refl _) hd.1 hd.2 d_Cw_print_30
    have J_17 : ∀ (y_j17 : Ly) (s_j17 : St) (d_j17 e_j17 : Nat) (H : Heap) (locs : List Loc), wja_Cw_print_17 mc ms Post a0 y_j17 s_j17 d_j17 e_j17 → va_P D CL (ws g ad y_j17 s_j17) H → va_D A (ws g ad y_j17 s_j17) → va_S A s.heap H locs → ∀ ls, lv_has ls 4 [] → W p l e (ra_Cw_print mc ms) s m args below meth c H locs d_j17 e_j17 Q (F0 m 17 ls []) := by
      intro y_j17 s_j17 d_j17 e_j17 H locs h hP hD hS ls hl
      unfold wja_Cw_print_17 at h
      obtain ⟨hd, h⟩ := h
      refine lv_iconst (v := (-1)) G.1 G.2.1 d_Cw_print_17 (by decide) ?_
      refine lv_goto (tgt := 30) G.1 G.2.1 d_Cw_print_18 (by decide) ?_
      exact J_30 y_j17 s_j17 d_j17 e_j17 (-1) H locs h hP hD hS ls (lv_sub hl [] rfl)
    refine lv_ifnullN (tgt := 17) G.1 G.2.1 d_Cw_print_8 (by decide) ?_
    exact J_17 y s_2 0 0 H locs h hP hD hS ls (lv_sub hl [] rfl)
  · skip
    obtain ⟨c_r_1b, h⟩ := h.2 _ rfl
    show W p l e (ra_Cw_print mc ms) s m args below meth c H locs 0 0 Q (F0 m 6 ls [.ref (ad r_1b)])
    refine lv_astore_n (lv' := [(3, .ref (ad r_1b)), (0, .ref (ad a0)), (1, .int v1), (2, .int v2)]) G.1 G.2.1 d_Cw_print_6 rfl hl (by decide) rfl (fun ls hl => ?_)
    refine lv_aload_n G.1 G.2.1 d_Cw_print_7 rfl (lv_at hl 0 rfl) ?_
    have J_30 : ∀ (y_j30 : Ly) (s_j30 : St) (d_j30 e_j30 : Nat) (z0j30 : Int32) (H : Heap) (locs : List Loc), wja_Cw_print_30 mc ms Post a0 y_j30 s_j30 d_j30 e_j30 z0j30 → va_P D CL (ws g ad y_j30 s_j30) H → va_D A (ws g ad y_j30 s_j30) → va_S A s.heap H locs → ∀ ls, lv_has ls 4 [] → W p l e (ra_Cw_print mc ms) s m args below meth c H locs d_j30 e_j30 Q (F0 m 30 ls [.int z0j30]) := by
      intro y_j30 s_j30 d_j30 e_j30 z0j30 H locs h hP hD hS ls hl
      unfold wja_Cw_print_30 at h
      obtain ⟨hd, h⟩ := h
      exact hret _ (y_j30, s_j30, d_j30, e_j30) _ _ _ _ _ ls h hP hD hS (Nat.le_refl _) (Nat.le_refl _) hd.1 hd.2 d_Cw_print_30
    have J_17 : ∀ (y_j17 : Ly) (s_j17 : St) (d_j17 e_j17 : Nat) (H : Heap) (locs : List Loc), wja_Cw_print_17 mc ms Post a0 y_j17 s_j17 d_j17 e_j17 → va_P D CL (ws g ad y_j17 s_j17) H → va_D A (ws g ad y_j17 s_j17) → va_S A s.heap H locs → ∀ ls, lv_has ls 4 [] → W p l e (ra_Cw_print mc ms) s m args below meth c H locs d_j17 e_j17 Q (F0 m 17 ls []) := by
      intro y_j17 s_j17 d_j17 e_j17 H locs h hP hD hS ls hl
      unfold wja_Cw_print_17 at h
      obtain ⟨hd, h⟩ := h
      refine lv_iconst (v := (-1)) G.1 G.2.1 d_Cw_print_17 (by decide) ?_
      refine lv_goto (tgt := 30) G.1 G.2.1 d_Cw_print_18 (by decide) ?_
      exact J_30 y_j17 s_j17 d_j17 e_j17 (-1) H locs h hP hD hS ls (lv_sub hl [] rfl)
    refine lv_ifnull G.1 G.2.1 d_Cw_print_8 ?_
    refine lv_iload_n G.1 G.2.1 d_Cw_print_11 rfl (lv_at hl 3 rfl) ?_
    refine lv_bipush (v := 21) G.1 G.2.1 d_Cw_print_12 (by decide) ?_
    refine lv_icmp_ge (tgt := 21) G.1 G.2.1 d_Cw_print_14 (by decide) (fun c14 => ?_) (fun c14 => ?_)
    · skip
      have h := h.1 c14
      refine lv_aload_n G.1 G.2.1 d_Cw_print_21 rfl (lv_at hl 1 rfl) ?_
      refine W.eq (g2 := F0 m 22 ls [.ref (ad a0)]) rfl ?_
      refine ugf (v := .ref (ad (lk a0 4))) G hP h_a0 iCw rfl 4 (by decide) rfl q1138 rfl rfl d_Cw_print_22 ?_
      refine lv_aload_n G.1 G.2.1 d_Cw_print_25 rfl (lv_at hl 0 rfl) ?_
      refine lv_iload_n G.1 G.2.1 d_Cw_print_26 rfl (lv_at hl 3 rfl) ?_
      obtain ⟨mc_8, ms_9, hr_10, h⟩ := h
      refine utVi (As := [.ref (ad r_1b), .int v2]) (rest := []) G hP hD hS (ca_Wr_write l D g F sl hF ad mc_8 ms_9 y _ s_2 (lk a0 4) r_1b v2 H.size (us H) (lk_11_4 h_a0) c_r_1b h) w9_Wr_write q2146 ⟨Nat.le_of_ble_eq_true rfl, Nat.le_of_ble_eq_true rfl⟩ rfl rfl (lk_11_4 h_a0) (q := (RWr, TWr, 7)) rfl rfl hl.1 rfl (Nat.le_of_ble_eq_true rfl) rfl hr_10 d_Cw_print_27 (fun r_3 y_5 s_4 d_6 e_7 H locs h hP hD hS => ?_)
      have hl := lv_sub (l' := []) hl [] rfl
      obtain ⟨hd, h⟩ := h
      exact J_30 y_5 s_4 (0 + d_6) (0 + e_7) r_3 H locs h hP hD hS ls (lv_sub hl [] rfl)
    · skip
      have h := h.2 c14
      exact J_17 y s_2 0 0 H locs h hP hD hS ls (lv_sub hl [] rfl)
theorem q2279 : Cond.methodLink "ClassWorks$Checker" 246 y_Ck_handlersGo ∈ lw_ok := lw_okmem (List.mem_of_getElem? (i := 2279) (by decide +kernel)) rfl
theorem q2282 : Cond.code y_Ck_handlersGo b_Ck_handlersGo 8 (some .int) ∈ lw_ok := lw_okmem (List.mem_of_getElem? (i := 2282) (by decide +kernel)) rfl
theorem q2281 : Cond.instanceMethod y_Ck_handlersGo ∈ lw_ok := lw_okmem (List.mem_of_getElem? (i := 2281) (by decide +kernel)) rfl
theorem q141 : Cond.selects y_Ck_handlersGo.cls y_Ck_handlersGo y_Ck_handlersGo ∈ lw_ok := lw_okmem (List.mem_of_getElem? (i := 141) (by decide +kernel)) rfl
theorem w9_Ck_handlersGo : CWv y_Ck_handlersGo b_Ck_handlersGo 8 (some .int) 1 ∧ Cond.instanceMethod y_Ck_handlersGo ∈ lw_ok ∧ Cond.selects y_Ck_handlersGo.cls y_Ck_handlersGo y_Ck_handlersGo ∈ lw_ok := ⟨⟨q2282, q341, by decide +kernel, by decide +kernel, by decide +kernel⟩, q2281, q141⟩
def y_Ck_look : MethodName := ⟨"ClassWorks$Checker", "look", "(I)I"⟩
abbrev b_Ck_look : ByteArray := prog_2_method_30_code
theorem d_Ck_look_0 : decode b_Ck_look 0 = .ok (.aload_n 0, 1) := by decide +kernel
theorem d_Ck_look_1 : decode b_Ck_look 1 = .ok (.iload_n 1, 1) := by decide +kernel
theorem d_Ck_look_2 : decode b_Ck_look 2 = .ok (.invokevirtual 141, 3) := by decide +kernel
theorem d_Ck_look_5 : decode b_Ck_look 5 = .ok (.aload_n 0, 1) := by decide +kernel
theorem d_Ck_look_6 : decode b_Ck_look 6 = .ok (.iload_n 1, 1) := by decide +kernel
theorem d_Ck_look_7 : decode b_Ck_look 7 = .ok (.invokevirtual 246, 3) := by decide +kernel
theorem d_Ck_look_10 : decode b_Ck_look 10 = .ok (.istore_n 2, 1) := by decide +kernel
theorem d_Ck_look_11 : decode b_Ck_look 11 = .ok (.iload_n 2, 1) := by decide +kernel
theorem d_Ck_look_12 : decode b_Ck_look 12 = .ok (.ifCond .eq 7, 3) := by decide +kernel
theorem d_Ck_look_15 : decode b_Ck_look 15 = .ok (.iload_n 2, 1) := by decide +kernel
theorem d_Ck_look_16 : decode b_Ck_look 16 = .ok (.goto 8, 3) := by decide +kernel
theorem d_Ck_look_19 : decode b_Ck_look 19 = .ok (.aload_n 0, 1) := by decide +kernel
theorem d_Ck_look_20 : decode b_Ck_look 20 = .ok (.iload_n 1, 1) := by decide +kernel
theorem d_Ck_look_21 : decode b_Ck_look 21 = .ok (.invokevirtual 155, 3) := by decide +kernel
theorem d_Ck_look_24 : decode b_Ck_look 24 = .ok (.istore_n 2, 1) := by decide +kernel
theorem d_Ck_look_25 : decode b_Ck_look 25 = .ok (.iload_n 2, 1) := by decide +kernel
theorem d_Ck_look_26 : decode b_Ck_look 26 = .ok (.ifCond .eq 5, 3) := by decide +kernel
theorem d_Ck_look_29 : decode b_Ck_look 29 = .ok (.iload_n 2, 1) := by decide +kernel
theorem d_Ck_look_30 : decode b_Ck_look 30 = .ok (.ireturn, 1) := by decide +kernel
theorem d_Ck_look_31 : decode b_Ck_look 31 = .ok (.aload_n 0, 1) := by decide +kernel
theorem d_Ck_look_32 : decode b_Ck_look 32 = .ok (.iload_n 1, 1) := by decide +kernel
theorem d_Ck_look_33 : decode b_Ck_look 33 = .ok (.invokevirtual 158, 3) := by decide +kernel
theorem d_Ck_look_36 : decode b_Ck_look 36 = .ok (.aload_n 0, 1) := by decide +kernel
theorem d_Ck_look_37 : decode b_Ck_look 37 = .ok (.invokevirtual 161, 3) := by decide +kernel
theorem d_Ck_look_40 : decode b_Ck_look 40 = .ok (.ifCond .eq 9, 3) := by decide +kernel
theorem d_Ck_look_43 : decode b_Ck_look 43 = .ok (.aload_n 0, 1) := by decide +kernel
theorem d_Ck_look_44 : decode b_Ck_look 44 = .ok (.iload_n 1, 1) := by decide +kernel
theorem d_Ck_look_45 : decode b_Ck_look 45 = .ok (.invokevirtual 246, 3) := by decide +kernel
theorem d_Ck_look_48 : decode b_Ck_look 48 = .ok (.istore_n 2, 1) := by decide +kernel
theorem d_Ck_look_49 : decode b_Ck_look 49 = .ok (.iconst 0, 1) := by decide +kernel
theorem d_Ck_look_50 : decode b_Ck_look 50 = .ok (.istore_n 3, 1) := by decide +kernel
theorem d_Ck_look_51 : decode b_Ck_look 51 = .ok (.iload_n 3, 1) := by decide +kernel
theorem d_Ck_look_52 : decode b_Ck_look 52 = .ok (.aload_n 0, 1) := by decide +kernel
theorem d_Ck_look_53 : decode b_Ck_look 53 = .ok (.invokevirtual 237, 3) := by decide +kernel
theorem d_Ck_look_56 : decode b_Ck_look 56 = .ok (.if_icmp .ge 25, 3) := by decide +kernel
theorem d_Ck_look_59 : decode b_Ck_look 59 = .ok (.iload_n 2, 1) := by decide +kernel
theorem d_Ck_look_60 : decode b_Ck_look 60 = .ok (.ifCond .ne 21, 3) := by decide +kernel
theorem d_Ck_look_63 : decode b_Ck_look 63 = .ok (.aload_n 0, 1) := by decide +kernel
theorem d_Ck_look_64 : decode b_Ck_look 64 = .ok (.aload_n 0, 1) := by decide +kernel
theorem d_Ck_look_65 : decode b_Ck_look 65 = .ok (.iload_n 3, 1) := by decide +kernel
theorem d_Ck_look_66 : decode b_Ck_look 66 = .ok (.invokevirtual 240, 3) := by decide +kernel
theorem d_Ck_look_69 : decode b_Ck_look 69 = .ok (.ldc 175, 2) := by decide +kernel
theorem d_Ck_look_71 : decode b_Ck_look 71 = .ok (.invokevirtual 249, 3) := by decide +kernel
theorem d_Ck_look_74 : decode b_Ck_look 74 = .ok (.istore_n 2, 1) := by decide +kernel
theorem d_Ck_look_75 : decode b_Ck_look 75 = .ok (.iinc 3 1, 3) := by decide +kernel
theorem d_Ck_look_78 : decode b_Ck_look 78 = .ok (.goto (-27), 3) := by decide +kernel
theorem d_Ck_look_81 : decode b_Ck_look 81 = .ok (.iload_n 2, 1) := by decide +kernel
theorem d_Ck_look_82 : decode b_Ck_look 82 = .ok (.ifCond .ne 35, 3) := by decide +kernel
theorem d_Ck_look_85 : decode b_Ck_look 85 = .ok (.aload_n 0, 1) := by decide +kernel
theorem d_Ck_look_86 : decode b_Ck_look 86 = .ok (.invokevirtual 169, 3) := by decide +kernel
theorem d_Ck_look_89 : decode b_Ck_look 89 = .ok (.ifCond .eq 28, 3) := by decide +kernel
theorem d_Ck_look_92 : decode b_Ck_look 92 = .ok (.iload_n 1, 1) := by decide +kernel
theorem d_Ck_look_93 : decode b_Ck_look 93 = .ok (.aload_n 0, 1) := by decide +kernel
theorem d_Ck_look_94 : decode b_Ck_look 94 = .ok (.getfield 24, 3) := by decide +kernel
theorem d_Ck_look_97 : decode b_Ck_look 97 = .ok (.iconst 1, 1) := by decide +kernel
theorem d_Ck_look_98 : decode b_Ck_look 98 = .ok (.isub, 1) := by decide +kernel
theorem d_Ck_look_99 : decode b_Ck_look 99 = .ok (.if_icmp .ne 8, 3) := by decide +kernel
theorem d_Ck_look_102 : decode b_Ck_look 102 = .ok (.bipush 35, 2) := by decide +kernel
theorem d_Ck_look_104 : decode b_Ck_look 104 = .ok (.goto 12, 3) := by decide +kernel
theorem d_Ck_look_107 : decode b_Ck_look 107 = .ok (.aload_n 0, 1) := by decide +kernel
theorem d_Ck_look_108 : decode b_Ck_look 108 = .ok (.iload_n 1, 1) := by decide +kernel
theorem d_Ck_look_109 : decode b_Ck_look 109 = .ok (.iconst 1, 1) := by decide +kernel
theorem d_Ck_look_110 : decode b_Ck_look 110 = .ok (.iadd, 1) := by decide +kernel
theorem d_Ck_look_111 : decode b_Ck_look 111 = .ok (.ldc 175, 2) := by decide +kernel
theorem d_Ck_look_113 : decode b_Ck_look 113 = .ok (.invokevirtual 249, 3) := by decide +kernel
theorem d_Ck_look_116 : decode b_Ck_look 116 = .ok (.istore_n 2, 1) := by decide +kernel
theorem d_Ck_look_117 : decode b_Ck_look 117 = .ok (.iload_n 2, 1) := by decide +kernel
theorem d_Ck_look_118 : decode b_Ck_look 118 = .ok (.ireturn, 1) := by decide +kernel
abbrev ru_Ck_look : Room := { frames := 6, cells := 0, slots := 0, locals := 135 }
def wj_Ck_look_117 (y : Ly) (Post : St → Int32 → Prop) (a0 : Nat) (s_j117 : St) (x2j117 : Int32) : Prop := Post s_j117 x2j117
def wj_Ck_look_116 (y : Ly) (Post : St → Int32 → Prop) (a0 : Nat) (s_j116 : St) (z0j116 : Int32) : Prop := wj_Ck_look_117 y Post a0 s_j116 z0j116
def wj_Ck_look_81 (y : Ly) (Post : St → Int32 → Prop) (a0 : Nat) (s_j81 : St) (x1j81 : Int32) (x2j81 : Int32) : Prop := ((¬ x2j81 = 0 → wj_Ck_look_117 y Post a0 s_j81 x2j81) ∧ (x2j81 = 0 → wu_Ck_goesOn y (fun (s_12 : St) (r_11 : Int32) => ((r_11 = 0 → wj_Ck_look_117 y Post a0 s_12 x2j81) ∧ (¬ (r_11 = 0) → ((¬ x1j81 = ((sV s_12 a0 6) - 1) → wu_Ck_go y (fun (s_14 : St) (r_13 : Int32) => wj_Ck_look_116 y Post a0 s_14 r_13) s_12 a0 (x1j81 + 1) (-2147483648)) ∧ (x1j81 = ((sV s_12 a0 6) - 1) → wj_Ck_look_116 y Post a0 s_12 35))))) s_j81 a0))
def wb_Ck_look_51 (y : Ly) (Post : St → Int32 → Prop) (K_51 : St → Int32 → Int32 → Int32 → Prop) (a0 : Nat) (s_h51 : St) (x1h51 : Int32) (x2h51 : Int32) (x3h51 : Int32) : Prop := wu_Ck_labelCount y (fun (s_10 : St) (r_9 : Int32) => ((r_9 ≤ x3h51 → wj_Ck_look_81 y Post a0 s_10 x1h51 x2h51) ∧ (¬ (r_9 ≤ x3h51) → ((¬ x2h51 = 0 → wj_Ck_look_81 y Post a0 s_10 x1h51 x2h51) ∧ (x2h51 = 0 → wu_Ck_label y (fun (s_16 : St) (r_15 : Int32) => wu_Ck_go y (fun (s_18 : St) (r_17 : Int32) => K_51 s_18 x1h51 r_17 (x3h51 + 1)) s_16 a0 r_15 (-2147483648)) s_10 a0 x3h51))))) s_h51 a0
def wl_Ck_look_51 (y : Ly) (Post : St → Int32 → Prop) (a0 : Nat) (s_h51 : St) (x1h51 : Int32) (x2h51 : Int32) (x3h51 : Int32) : Prop := ∃ (I : St → Int32 → Int32 → Int32 → Prop) (μ : St → Int32 → Int32 → Int32 → Nat), I s_h51 x1h51 x2h51 x3h51 ∧ ∀ (u : St) (t0 : Int32) (t1 : Int32) (t2 : Int32), I u t0 t1 t2 → wb_Ck_look_51 y Post (fun z t0q t1q t2q => I z t0q t1q t2q ∧ μ z t0q t1q t2q < μ u t0 t1 t2) a0 u t0 t1 t2
def wj_Ck_look_49 (y : Ly) (Post : St → Int32 → Prop) (a0 : Nat) (s_j49 : St) (x1j49 : Int32) (x2j49 : Int32) : Prop := wl_Ck_look_51 y Post a0 s_j49 x1j49 x2j49 0
def wj_Ck_look_24 (y : Ly) (Post : St → Int32 → Prop) (a0 : Nat) (s_j24 : St) (x1j24 : Int32) (z0j24 : Int32) : Prop := ((z0j24 = 0 → wu_Ck_act y (fun (s_6 : St) => wu_Ck_changesLocals y (fun (s_8 : St) (r_7 : Int32) => ((r_7 = 0 → wj_Ck_look_49 y Post a0 s_8 x1j24 z0j24) ∧ (¬ (r_7 = 0) → wu_Ck_handlersGo y (fun (s_20 : St) (r_19 : Int32) => wj_Ck_look_49 y Post a0 s_20 x1j24 r_19) s_8 a0 x1j24))) s_6 a0) s_j24 a0 x1j24) ∧ (¬ (z0j24 = 0) → Post s_j24 z0j24))
def wu_Ck_look (y : Ly) (Post : St → Int32 → Prop) (σ : St) (a0 : Nat) (v1 : Int32) : Prop := wu_Ck_load y (fun (s_2 : St) => wu_Ck_handlersGo y (fun (s_4 : St) (r_3 : Int32) => ((r_3 = 0 → wu_Ck_rules y (fun (s_22 : St) (r_21 : Int32) => wj_Ck_look_24 y Post a0 s_22 v1 r_21) s_4 a0 v1) ∧ (¬ (r_3 = 0) → wj_Ck_look_24 y Post a0 s_4 v1 r_3))) s_2 a0 v1) σ a0 v1
set_option maxHeartbeats 4000000 in
set_option maxRecDepth 100000 in
theorem cu_Ck_look (l : Launch) (D : va_G) (g : Nat → ClassId) (F : Nat → SL) (sl : List SL) (hF : SOK F sl) (ad : Nat → Nat) (y : Ly) (Post : St → Int32 → Prop) (σ : St) (a0 : Nat) (v1 : Int32) (sz : Nat) (h_a0 : cl a0 = 0) (h : wu_Ck_look y Post σ a0 v1) : Met l y_Ck_look (mw y_Ck_look b_Ck_look 4 (some .int)) ru_Ck_look (PC g D sl [.ref (ad a0), .int v1] sz (ws g ad y σ)) (va_Qi (fun (r : Int32) (u : St) => Post u r) (QW D (va_A (ws g ad y σ) sz) (fun u => ws g ad y u)) (va_A (ws g ad y σ) sz)) 0 0 (va_A (ws g ad y σ) sz) := by
  refine ofI (by decide +kernel) (Nat.le_of_ble_eq_true rfl) ?_
  intro p e s m args below meth c A Q ls H locs G hsz hP hD hS hl hret
  subst hsz
  have hl : lv_has ls 4 [(0, .ref (ad a0)), (1, .int v1)] := hl
  unfold wu_Ck_look at h
  refine lv_aload_n G.1 G.2.1 d_Ck_look_0 rfl (lv_at hl 0 rfl) ?_
  refine lv_iload_n G.1 G.2.1 d_Ck_look_1 rfl (lv_at hl 1 rfl) ?_
  refine usVv (As := [.int v1]) (rest := []) G hP hD hS (cu_Ck_load l D g F sl hF ad y _ σ a0 v1 H.size h_a0 h) w9_Ck_load q1597 ⟨Nat.le_of_ble_eq_true rfl, Nat.le_of_ble_eq_true rfl⟩ rfl rfl h_a0 (q := (RCk, TCk, 22)) rfl rfl hl.1 rfl (Nat.le_of_ble_eq_true rfl) rfl ⟨Nat.le_refl _, Nat.le_refl _⟩ d_Ck_look_2 (fun s_2 H locs h hP hD hS => ?_)
  refine lv_aload_n G.1 G.2.1 d_Ck_look_5 rfl (lv_at hl 0 rfl) ?_
  refine lv_iload_n G.1 G.2.1 d_Ck_look_6 rfl (lv_at hl 1 rfl) ?_
  refine ucVi (As := [.int v1]) (rest := []) G hP hD hS (cu_Ck_handlersGo l D g ad y _ s_2 a0 v1 H.size h_a0 h) w9_Ck_handlersGo q2279 ⟨Nat.le_of_ble_eq_true rfl, Nat.le_of_ble_eq_true rfl⟩ rfl rfl h_a0 (q := (RCk, TCk, 22)) rfl rfl hl.1 rfl (Nat.le_of_ble_eq_true rfl) rfl ⟨Nat.le_refl _, Nat.le_refl _⟩ d_Ck_look_7 (fun r_3 s_4 H locs h hP hD hS => ?_)
  refine lv_istore_n (lv' := [(2, .int r_3), (0, .ref (ad a0)), (1, .int v1)]) G.1 G.2.1 d_Ck_look_10 rfl hl (by decide) rfl (fun ls hl => ?_)
  refine lv_iload_n G.1 G.2.1 d_Ck_look_11 rfl (lv_at hl 0 rfl) ?_
  have J_24 : ∀ (s_j24 : St) (x1j24 : Int32) (z0j24 : Int32) (H : Heap) (locs : List Loc), wj_Ck_look_24 y Post a0 s_j24 x1j24 z0j24 → va_P D CL (ws g ad y s_j24) H → va_D A (ws g ad y s_j24) → va_S A s.heap H locs → ∀ ls, lv_has ls 4 [(0, .ref (ad a0)), (1, .int x1j24)] → W p l e ru_Ck_look s m args below meth c H locs 0 0 Q (F0 m 24 ls [.int z0j24]) := by
    intro s_j24 x1j24 z0j24 H locs h hP hD hS ls hl
    unfold wj_Ck_look_24 at h
    refine lv_istore_n (lv' := [(2, .int z0j24), (0, .ref (ad a0)), (1, .int x1j24)]) G.1 G.2.1 d_Ck_look_24 rfl hl (by decide) rfl (fun ls hl => ?_)
    refine lv_iload_n G.1 G.2.1 d_Ck_look_25 rfl (lv_at hl 0 rfl) ?_
    refine lv_if_eq (tgt := 31) G.1 G.2.1 d_Ck_look_26 (by decide) (fun c26 => ?_) (fun c26 => ?_)
    · skip
      have h := h.1 c26
      refine lv_aload_n G.1 G.2.1 d_Ck_look_31 rfl (lv_at hl 1 rfl) ?_
      refine lv_iload_n G.1 G.2.1 d_Ck_look_32 rfl (lv_at hl 2 rfl) ?_
      refine usVv (As := [.int x1j24]) (rest := []) G hP hD hS (cu_Ck_act l D g F sl hF ad y _ s_j24 a0 x1j24 H.size h_a0 h) w9_Ck_act q1668 ⟨Nat.le_of_ble_eq_true rfl, Nat.le_of_ble_eq_true rfl⟩ rfl rfl h_a0 (q := (RCk, TCk, 22)) rfl rfl hl.1 rfl (Nat.le_of_ble_eq_true rfl) rfl ⟨Nat.le_refl _, Nat.le_refl _⟩ d_Ck_look_33 (fun s_6 H locs h hP hD hS => ?_)
      refine lv_aload_n G.1 G.2.1 d_Ck_look_36 rfl (lv_at hl 1 rfl) ?_
      refine ucVi (As := []) (rest := []) G hP hD hS (cu_Ck_changesLocals l D g ad y _ s_6 a0 H.size h_a0 h) w9_Ck_changesLocals q1680 ⟨Nat.le_of_ble_eq_true rfl, Nat.le_of_ble_eq_true rfl⟩ rfl rfl h_a0 (q := (RCk, TCk, 22)) rfl rfl hl.1 rfl (Nat.le_of_ble_eq_true rfl) rfl ⟨Nat.le_refl _, Nat.le_refl _⟩ d_Ck_look_37 (fun r_7 s_8 H locs h hP hD hS => ?_)
      have J_49 : ∀ (s_j49 : St) (x1j49 : Int32) (x2j49 : Int32) (H : Heap) (locs : List Loc), wj_Ck_look_49 y Post a0 s_j49 x1j49 x2j49 → va_P D CL (ws g ad y s_j49) H → va_D A (ws g ad y s_j49) → va_S A s.heap H locs → ∀ ls, lv_has ls 4 [(0, .ref (ad a0)), (1, .int x1j49), (2, .int x2j49)] → W p l e ru_Ck_look s m args below meth c H locs 0 0 Q (F0 m 49 ls []) := by
        intro s_j49 x1j49 x2j49 H locs h hP hD hS ls hl
        unfold wj_Ck_look_49 at h
        refine lv_iconst (v := 0) G.1 G.2.1 d_Ck_look_49 (by decide) ?_
        refine lv_istore_n (lv' := [(3, .int 0), (0, .ref (ad a0)), (1, .int x1j49), (2, .int x2j49)]) G.1 G.2.1 d_Ck_look_50 rfl hl (by decide) rfl (fun ls hl => ?_)
        unfold wl_Ck_look_51 at h
        obtain ⟨I_51, μ_51, hI_51, hB_51⟩ := h
        have L_51 : ∀ (n_51 : Nat) (s_h51 : St) (x1h51 : Int32) (x2h51 : Int32) (x3h51 : Int32), μ_51 s_h51 x1h51 x2h51 x3h51 < n_51 → I_51 s_h51 x1h51 x2h51 x3h51 → ∀ (H : Heap) (locs : List Loc), va_P D CL (ws g ad y s_h51) H → va_D A (ws g ad y s_h51) → va_S A s.heap H locs → ∀ ls, lv_has ls 4 [(0, .ref (ad a0)), (1, .int x1h51), (2, .int x2h51), (3, .int x3h51)] → W p l e ru_Ck_look s m args below meth c H locs 0 0 Q (F0 m 51 ls []) := by
          intro n_51
          induction n_51 with
          | zero => intro s_h51 x1h51 x2h51 x3h51 hμ; exact absurd hμ (Nat.not_lt_zero _)
          | succ n_51 ih_51 =>
            intro s_h51 x1h51 x2h51 x3h51 hμ_51 hJ H locs hP hD hS ls hl
            obtain ⟨K_51, hK_51, h⟩ : ∃ K : St → Int32 → Int32 → Int32 → Prop, (∀ z (t0 : Int32) (t1 : Int32) (t2 : Int32), K z t0 t1 t2 → I_51 z t0 t1 t2 ∧ μ_51 z t0 t1 t2 < μ_51 s_h51 x1h51 x2h51 x3h51) ∧ wb_Ck_look_51 y Post K a0 s_h51 x1h51 x2h51 x3h51 := ⟨_, fun _ _ _ _ h => h, hB_51 s_h51 x1h51 x2h51 x3h51 hJ⟩
            unfold wb_Ck_look_51 at h
            refine lv_iload_n G.1 G.2.1 d_Ck_look_51 rfl (lv_at hl 3 rfl) ?_
            refine lv_aload_n G.1 G.2.1 d_Ck_look_52 rfl (lv_at hl 0 rfl) ?_
            refine ucVi (As := []) (rest := [.int x3h51]) G hP hD hS (cu_Ck_labelCount l D g ad y _ s_h51 a0 H.size h_a0 h) w9_Ck_labelCount q1688 ⟨Nat.le_of_ble_eq_true rfl, Nat.le_of_ble_eq_true rfl⟩ rfl rfl h_a0 (q := (RCk, TCk, 22)) rfl rfl hl.1 rfl (Nat.le_of_ble_eq_true rfl) rfl ⟨Nat.le_refl _, Nat.le_refl _⟩ d_Ck_look_53 (fun r_9 s_10 H locs h hP hD hS => ?_)
            have J_81 : ∀ (s_j81 : St) (x1j81 : Int32) (x2j81 : Int32) (H : Heap) (locs : List Loc), wj_Ck_look_81 y Post a0 s_j81 x1j81 x2j81 → va_P D CL (ws g ad y s_j81) H → va_D A (ws g ad y s_j81) → va_S A s.heap H locs → ∀ ls, lv_has ls 4 [(0, .ref (ad a0)), (1, .int x1j81), (2, .int x2j81)] → W p l e ru_Ck_look s m args below meth c H locs 0 0 Q (F0 m 81 ls []) := by
              intro s_j81 x1j81 x2j81 H locs h hP hD hS ls hl
              unfold wj_Ck_look_81 at h
              refine lv_iload_n G.1 G.2.1 d_Ck_look_81 rfl (lv_at hl 2 rfl) ?_
              have J_117 : ∀ (s_j117 : St) (x2j117 : Int32) (H : Heap) (locs : List Loc), wj_Ck_look_117 y Post a0 s_j117 x2j117 → va_P D CL (ws g ad y s_j117) H → va_D A (ws g ad y s_j117) → va_S A s.heap H locs → ∀ ls, lv_has ls 4 [(2, .int x2j117)] → W p l e ru_Ck_look s m args below meth c H locs 0 0 Q (F0 m 117 ls []) := by
                intro s_j117 x2j117 H locs h hP hD hS ls hl
                unfold wj_Ck_look_117 at h
                refine lv_iload_n G.1 G.2.1 d_Ck_look_117 rfl (lv_at hl 0 rfl) ?_
                exact hret _ _ _ _ _ _ _ ls h hP hD hS (Nat.le_refl _) (Nat.le_refl _) d_Ck_look_118
              refine lv_if_ne (tgt := 117) G.1 G.2.1 d_Ck_look_82 (by decide) (fun c82 => ?_) (fun c82 => ?_)
              · skip
                have h := h.1 c82
                exact J_117 s_j81 x2j81 H locs h hP hD hS ls (lv_sub hl [2] rfl)
              · skip
                have h := h.2 c82
                refine lv_aload_n G.1 G.2.1 d_Ck_look_85 rfl (lv_at hl 0 rfl) ?_
                refine ucVi (As := []) (rest := []) G hP hD hS (cu_Ck_goesOn l D g ad y _ s_j81 a0 H.size h_a0 h) w9_Ck_goesOn q1696 ⟨Nat.le_of_ble_eq_true rfl, Nat.le_of_ble_eq_true rfl⟩ rfl rfl h_a0 (q := (RCk, TCk, 22)) rfl rfl hl.1 rfl (Nat.le_of_ble_eq_true rfl) rfl ⟨Nat.le_refl _, Nat.le_refl _⟩ d_Ck_look_86 (fun r_11 s_12 H locs h hP hD hS => ?_)
                refine lv_if_eq (tgt := 117) G.1 G.2.1 d_Ck_look_89 (by decide) (fun c89 => ?_) (fun c89 => ?_)
                · skip
                  have h := h.1 c89
                  exact J_117 s_12 x2j81 H locs h hP hD hS ls (lv_sub hl [2] rfl)
                · skip
                  have h := h.2 c89
                  refine lv_iload_n G.1 G.2.1 d_Ck_look_92 rfl (lv_at hl 1 rfl) ?_
                  refine lv_aload_n G.1 G.2.1 d_Ck_look_93 rfl (lv_at hl 0 rfl) ?_
                  refine ugf (v := .int (sV s_12 a0 6)) G hP h_a0 iCk rfl 6 (by decide) rfl q657 rfl rfl d_Ck_look_94 ?_
                  refine lv_iconst (v := 1) G.1 G.2.1 d_Ck_look_97 (by decide) ?_
                  refine lv_isub G.1 G.2.1 d_Ck_look_98 ?_
                  have J_116 : ∀ (s_j116 : St) (z0j116 : Int32) (H : Heap) (locs : List Loc), wj_Ck_look_116 y Post a0 s_j116 z0j116 → va_P D CL (ws g ad y s_j116) H → va_D A (ws g ad y s_j116) → va_S A s.heap H locs → ∀ ls, lv_has ls 4 [] → W p l e ru_Ck_look s m args below meth c H locs 0 0 Q (F0 m 116 ls [.int z0j116]) := by
                    intro s_j116 z0j116 H locs h hP hD hS ls hl
                    unfold wj_Ck_look_116 at h
                    refine lv_istore_n (lv' := [(2, .int z0j116)]) G.1 G.2.1 d_Ck_look_116 rfl hl (by decide) rfl (fun ls hl => ?_)
                    exact J_117 s_j116 z0j116 H locs h hP hD hS ls (lv_sub hl [0] rfl)
                  refine lv_icmp_ne (tgt := 107) G.1 G.2.1 d_Ck_look_99 (by decide) (fun c99 => ?_) (fun c99 => ?_)
                  · skip
                    have h := h.1 c99
                    refine W.eq (g2 := F0 m 107 ls []) rfl ?_
                    refine lv_aload_n G.1 G.2.1 d_Ck_look_107 rfl (lv_at hl 0 rfl) ?_
                    refine lv_iload_n G.1 G.2.1 d_Ck_look_108 rfl (lv_at hl 1 rfl) ?_
                    refine lv_iconst (v := 1) G.1 G.2.1 d_Ck_look_109 (by decide) ?_
                    refine lv_iadd G.1 G.2.1 d_Ck_look_110 ?_
                    refine lv_ldc (v := (-2147483648)) G.1 G.2.1 G.2.2.2.2.2.2.1 (G.2.2.2.2.2.1 _ q1611) d_Ck_look_111 ?_
                    refine ucVi (As := [.int (x1j81 + 1), .int (-2147483648)]) (rest := []) G hP hD hS (cu_Ck_go l D g ad y _ s_12 a0 (x1j81 + 1) (-2147483648) H.size h_a0 h) w9_Ck_go q2283 ⟨Nat.le_of_ble_eq_true rfl, Nat.le_of_ble_eq_true rfl⟩ rfl rfl h_a0 (q := (RCk, TCk, 22)) rfl rfl hl.1 rfl (Nat.le_of_ble_eq_true rfl) rfl ⟨Nat.le_refl _, Nat.le_refl _⟩ d_Ck_look_113 (fun r_13 s_14 H locs h hP hD hS => ?_)
                    exact J_116 s_14 r_13 H locs h hP hD hS ls (lv_sub hl [] rfl)
                  · skip
                    have h := h.2 c99
                    refine W.eq (g2 := F0 m 102 ls []) rfl ?_
                    refine lv_bipush (v := 35) G.1 G.2.1 d_Ck_look_102 (by decide) ?_
                    refine lv_goto (tgt := 116) G.1 G.2.1 d_Ck_look_104 (by decide) ?_
                    exact J_116 s_12 35 H locs h hP hD hS ls (lv_sub hl [] rfl)
            refine lv_icmp_ge (tgt := 81) G.1 G.2.1 d_Ck_look_56 (by decide) (fun c56 => ?_) (fun c56 => ?_)
            · skip
              have h := h.1 c56
              exact J_81 s_10 x1h51 x2h51 H locs h hP hD hS ls (lv_sub hl [0, 1, 2] rfl)
            · skip
              have h := h.2 c56
              refine lv_iload_n G.1 G.2.1 d_Ck_look_59 rfl (lv_at hl 2 rfl) ?_
              refine lv_if_ne (tgt := 81) G.1 G.2.1 d_Ck_look_60 (by decide) (fun c60 => ?_) (fun c60 => ?_)
              · skip
                have h := h.1 c60
                exact J_81 s_10 x1h51 x2h51 H locs h hP hD hS ls (lv_sub hl [0, 1, 2] rfl)
              · skip
                have h := h.2 c60
                refine lv_aload_n G.1 G.2.1 d_Ck_look_63 rfl (lv_at hl 0 rfl) ?_
                refine lv_aload_n G.1 G.2.1 d_Ck_look_64 rfl (lv_at hl 0 rfl) ?_
                refine lv_iload_n G.1 G.2.1 d_Ck_look_65 rfl (lv_at hl 3 rfl) ?_
                refine ucVi (As := [.int x3h51]) (rest := [.ref (ad a0)]) G hP hD hS (cu_Ck_label l D g ad y _ s_10 a0 x3h51 H.size h_a0 h) w9_Ck_label q1692 ⟨Nat.le_of_ble_eq_true rfl, Nat.le_of_ble_eq_true rfl⟩ rfl rfl h_a0 (q := (RCk, TCk, 22)) rfl rfl hl.1 rfl (Nat.le_of_ble_eq_true rfl) rfl ⟨Nat.le_refl _, Nat.le_refl _⟩ d_Ck_look_66 (fun r_15 s_16 H locs h hP hD hS => ?_)
                refine lv_ldc (v := (-2147483648)) G.1 G.2.1 G.2.2.2.2.2.2.1 (G.2.2.2.2.2.1 _ q1611) d_Ck_look_69 ?_
                refine W.eq (g2 := F0 m 71 ls [.int (-2147483648), .int r_15, .ref (ad a0)]) rfl ?_
                refine ucVi (As := [.int r_15, .int (-2147483648)]) (rest := []) G hP hD hS (cu_Ck_go l D g ad y _ s_16 a0 r_15 (-2147483648) H.size h_a0 h) w9_Ck_go q2283 ⟨Nat.le_of_ble_eq_true rfl, Nat.le_of_ble_eq_true rfl⟩ rfl rfl h_a0 (q := (RCk, TCk, 22)) rfl rfl hl.1 rfl (Nat.le_of_ble_eq_true rfl) rfl ⟨Nat.le_refl _, Nat.le_refl _⟩ d_Ck_look_71 (fun r_17 s_18 H locs h hP hD hS => ?_)
                refine lv_istore_n (lv' := [(2, .int r_17), (0, .ref (ad a0)), (1, .int x1h51), (3, .int x3h51)]) G.1 G.2.1 d_Ck_look_74 rfl hl (by decide) rfl (fun ls hl => ?_)
                refine lv_iinc (v := x3h51 + 1) (lv' := [(3, .int (x3h51 + 1)), (2, .int r_17), (0, .ref (ad a0)), (1, .int x1h51)]) G.1 G.2.1 d_Ck_look_75 hl (k := 3) rfl rfl (by decide) rfl (fun ls hl => ?_)
                refine lv_goto (tgt := 51) G.1 G.2.1 d_Ck_look_78 (by decide) ?_
                have h := hK_51 s_18 x1h51 r_17 (x3h51 + 1) h
                exact ih_51 s_18 x1h51 r_17 (x3h51 + 1) (Nat.lt_of_lt_of_le h.2 (Nat.le_of_lt_succ hμ_51)) h.1 H locs hP hD hS ls (lv_sub hl [2, 3, 1, 0] rfl)
        exact L_51 _ s_j49 x1j49 x2j49 0 (Nat.lt_succ_self _) hI_51 H locs hP hD hS ls (lv_sub hl [1, 2, 3, 0] rfl)
      refine lv_if_eq (tgt := 49) G.1 G.2.1 d_Ck_look_40 (by decide) (fun c40 => ?_) (fun c40 => ?_)
      · skip
        have h := h.1 c40
        exact J_49 s_8 x1j24 z0j24 H locs h hP hD hS ls (lv_sub hl [1, 2, 0] rfl)
      · skip
        have h := h.2 c40
        refine lv_aload_n G.1 G.2.1 d_Ck_look_43 rfl (lv_at hl 1 rfl) ?_
        refine lv_iload_n G.1 G.2.1 d_Ck_look_44 rfl (lv_at hl 2 rfl) ?_
        refine W.eq (g2 := F0 m 45 ls [.int x1j24, .ref (ad a0)]) rfl ?_
        refine ucVi (As := [.int x1j24]) (rest := []) G hP hD hS (cu_Ck_handlersGo l D g ad y _ s_8 a0 x1j24 H.size h_a0 h) w9_Ck_handlersGo q2279 ⟨Nat.le_of_ble_eq_true rfl, Nat.le_of_ble_eq_true rfl⟩ rfl rfl h_a0 (q := (RCk, TCk, 22)) rfl rfl hl.1 rfl (Nat.le_of_ble_eq_true rfl) rfl ⟨Nat.le_refl _, Nat.le_refl _⟩ d_Ck_look_45 (fun r_19 s_20 H locs h hP hD hS => ?_)
        refine lv_istore_n (lv' := [(2, .int r_19), (0, .ref (ad a0)), (1, .int x1j24)]) G.1 G.2.1 d_Ck_look_48 rfl hl (by decide) rfl (fun ls hl => ?_)
        exact J_49 s_20 x1j24 r_19 H locs h hP hD hS ls (lv_sub hl [1, 2, 0] rfl)
    · skip
      have h := h.2 c26
      refine lv_iload_n G.1 G.2.1 d_Ck_look_29 rfl (lv_at hl 0 rfl) ?_
      exact hret _ _ _ _ _ _ _ ls h hP hD hS (Nat.le_refl _) (Nat.le_refl _) d_Ck_look_30
  refine lv_if_eq (tgt := 19) G.1 G.2.1 d_Ck_look_12 (by decide) (fun c12 => ?_) (fun c12 => ?_)
  · skip
    have h := h.1 c12
    refine lv_aload_n G.1 G.2.1 d_Ck_look_19 rfl (lv_at hl 1 rfl) ?_
    refine lv_iload_n G.1 G.2.1 d_Ck_look_20 rfl (lv_at hl 2 rfl) ?_
    refine W.eq (g2 := F0 m 21 ls [.int v1, .ref (ad a0)]) rfl ?_
    refine usVi (As := [.int v1]) (rest := []) G hP hD hS (cu_Ck_rules l D g F sl hF ad y _ s_4 a0 v1 H.size h_a0 h) w9_Ck_rules q1633 ⟨Nat.le_of_ble_eq_true rfl, Nat.le_of_ble_eq_true rfl⟩ rfl rfl h_a0 (q := (RCk, TCk, 22)) rfl rfl hl.1 rfl (Nat.le_of_ble_eq_true rfl) rfl ⟨Nat.le_refl _, Nat.le_refl _⟩ d_Ck_look_21 (fun r_21 s_22 H locs h hP hD hS => ?_)
    exact J_24 s_22 v1 r_21 H locs h hP hD hS ls (lv_sub hl [1, 2] rfl)
  · skip
    have h := h.2 c12
    refine lv_iload_n G.1 G.2.1 d_Ck_look_15 rfl (lv_at hl 0 rfl) ?_
    refine lv_goto (tgt := 24) G.1 G.2.1 d_Ck_look_16 (by decide) ?_
    exact J_24 s_4 v1 r_3 H locs h hP hD hS ls (lv_sub hl [1, 2] rfl)
theorem q2275 : Cond.methodLink "ClassWorks$Checker" 243 y_Ck_look ∈ lw_ok := lw_okmem (List.mem_of_getElem? (i := 2275) (by decide +kernel)) rfl
theorem q2278 : Cond.code y_Ck_look b_Ck_look 4 (some .int) ∈ lw_ok := lw_okmem (List.mem_of_getElem? (i := 2278) (by decide +kernel)) rfl
theorem q2277 : Cond.instanceMethod y_Ck_look ∈ lw_ok := lw_okmem (List.mem_of_getElem? (i := 2277) (by decide +kernel)) rfl
theorem q140 : Cond.selects y_Ck_look.cls y_Ck_look y_Ck_look ∈ lw_ok := lw_okmem (List.mem_of_getElem? (i := 140) (by decide +kernel)) rfl
theorem w9_Ck_look : CWv y_Ck_look b_Ck_look 4 (some .int) 1 ∧ Cond.instanceMethod y_Ck_look ∈ lw_ok ∧ Cond.selects y_Ck_look.cls y_Ck_look y_Ck_look ∈ lw_ok := ⟨⟨q2278, q341, by decide +kernel, by decide +kernel, by decide +kernel⟩, q2277, q140⟩
def y_Ck_infer : MethodName := ⟨"ClassWorks$Checker", "infer", "(LClassWorks$World;II)I"⟩
abbrev b_Ck_infer : ByteArray := prog_2_method_29_code
theorem d_Ck_infer_0 : decode b_Ck_infer 0 = .ok (.aload_n 0, 1) := by decide +kernel
theorem d_Ck_infer_1 : decode b_Ck_infer 1 = .ok (.aload_n 1, 1) := by decide +kernel
theorem d_Ck_infer_2 : decode b_Ck_infer 2 = .ok (.iload_n 2, 1) := by decide +kernel
theorem d_Ck_infer_3 : decode b_Ck_infer 3 = .ok (.iload_n 3, 1) := by decide +kernel
theorem d_Ck_infer_4 : decode b_Ck_infer 4 = .ok (.invokevirtual 134, 3) := by decide +kernel
theorem d_Ck_infer_7 : decode b_Ck_infer 7 = .ok (.aload_n 0, 1) := by decide +kernel
theorem d_Ck_infer_8 : decode b_Ck_infer 8 = .ok (.invokevirtual 138, 3) := by decide +kernel
theorem d_Ck_infer_11 : decode b_Ck_infer 11 = .ok (.aload_n 0, 1) := by decide +kernel
theorem d_Ck_infer_12 : decode b_Ck_infer 12 = .ok (.iconst 0, 1) := by decide +kernel
theorem d_Ck_infer_13 : decode b_Ck_infer 13 = .ok (.invokevirtual 149, 3) := by decide +kernel
theorem d_Ck_infer_16 : decode b_Ck_infer 16 = .ok (.iconst 0, 1) := by decide +kernel
theorem d_Ck_infer_17 : decode b_Ck_infer 17 = .ok (.istore 4, 2) := by decide +kernel
theorem d_Ck_infer_19 : decode b_Ck_infer 19 = .ok (.iload 4, 2) := by decide +kernel
theorem d_Ck_infer_21 : decode b_Ck_infer 21 = .ok (.bipush 100, 2) := by decide +kernel
theorem d_Ck_infer_23 : decode b_Ck_infer 23 = .ok (.if_icmp .ge 103, 3) := by decide +kernel
theorem d_Ck_infer_26 : decode b_Ck_infer 26 = .ok (.aload_n 0, 1) := by decide +kernel
theorem d_Ck_infer_27 : decode b_Ck_infer 27 = .ok (.iconst 0, 1) := by decide +kernel
theorem d_Ck_infer_28 : decode b_Ck_infer 28 = .ok (.putfield 59, 3) := by decide +kernel
theorem d_Ck_infer_31 : decode b_Ck_infer 31 = .ok (.iconst 0, 1) := by decide +kernel
theorem d_Ck_infer_32 : decode b_Ck_infer 32 = .ok (.istore 5, 2) := by decide +kernel
theorem d_Ck_infer_34 : decode b_Ck_infer 34 = .ok (.iload 5, 2) := by decide +kernel
theorem d_Ck_infer_36 : decode b_Ck_infer 36 = .ok (.aload_n 0, 1) := by decide +kernel
theorem d_Ck_infer_37 : decode b_Ck_infer 37 = .ok (.getfield 24, 3) := by decide +kernel
theorem d_Ck_infer_40 : decode b_Ck_infer 40 = .ok (.if_icmp .ge 71, 3) := by decide +kernel
theorem d_Ck_infer_43 : decode b_Ck_infer 43 = .ok (.aload_n 0, 1) := by decide +kernel
theorem d_Ck_infer_44 : decode b_Ck_infer 44 = .ok (.getfield 65, 3) := by decide +kernel
theorem d_Ck_infer_47 : decode b_Ck_infer 47 = .ok (.iload 5, 2) := by decide +kernel
theorem d_Ck_infer_49 : decode b_Ck_infer 49 = .ok (.iaload, 1) := by decide +kernel
theorem d_Ck_infer_50 : decode b_Ck_infer 50 = .ok (.ifCond .lt 55, 3) := by decide +kernel
theorem d_Ck_infer_53 : decode b_Ck_infer 53 = .ok (.aload_n 0, 1) := by decide +kernel
theorem d_Ck_infer_54 : decode b_Ck_infer 54 = .ok (.getfield 62, 3) := by decide +kernel
theorem d_Ck_infer_57 : decode b_Ck_infer 57 = .ok (.iload 5, 2) := by decide +kernel
theorem d_Ck_infer_59 : decode b_Ck_infer 59 = .ok (.bipush 40, 2) := by decide +kernel
theorem d_Ck_infer_61 : decode b_Ck_infer 61 = .ok (.imul, 1) := by decide +kernel
theorem d_Ck_infer_62 : decode b_Ck_infer 62 = .ok (.aload_n 0, 1) := by decide +kernel
theorem d_Ck_infer_63 : decode b_Ck_infer 63 = .ok (.getfield 52, 3) := by decide +kernel
theorem d_Ck_infer_66 : decode b_Ck_infer 66 = .ok (.iconst 0, 1) := by decide +kernel
theorem d_Ck_infer_67 : decode b_Ck_infer 67 = .ok (.bipush 40, 2) := by decide +kernel
theorem d_Ck_infer_69 : decode b_Ck_infer 69 = .ok (.invokestatic 128, 3) := by decide +kernel
theorem d_Ck_infer_72 : decode b_Ck_infer 72 = .ok (.aload_n 0, 1) := by decide +kernel
theorem d_Ck_infer_73 : decode b_Ck_infer 73 = .ok (.aload_n 0, 1) := by decide +kernel
theorem d_Ck_infer_74 : decode b_Ck_infer 74 = .ok (.getfield 65, 3) := by decide +kernel
theorem d_Ck_infer_77 : decode b_Ck_infer 77 = .ok (.iload 5, 2) := by decide +kernel
theorem d_Ck_infer_79 : decode b_Ck_infer 79 = .ok (.iaload, 1) := by decide +kernel
theorem d_Ck_infer_80 : decode b_Ck_infer 80 = .ok (.putfield 56, 3) := by decide +kernel
theorem d_Ck_infer_83 : decode b_Ck_infer 83 = .ok (.aload_n 0, 1) := by decide +kernel
theorem d_Ck_infer_84 : decode b_Ck_infer 84 = .ok (.iload 5, 2) := by decide +kernel
theorem d_Ck_infer_86 : decode b_Ck_infer 86 = .ok (.invokevirtual 243, 3) := by decide +kernel
theorem d_Ck_infer_89 : decode b_Ck_infer 89 = .ok (.istore 6, 2) := by decide +kernel
theorem d_Ck_infer_91 : decode b_Ck_infer 91 = .ok (.iload 6, 2) := by decide +kernel
theorem d_Ck_infer_93 : decode b_Ck_infer 93 = .ok (.ifCond .eq 12, 3) := by decide +kernel
theorem d_Ck_infer_96 : decode b_Ck_infer 96 = .ok (.aload_n 0, 1) := by decide +kernel
theorem d_Ck_infer_97 : decode b_Ck_infer 97 = .ok (.iload 5, 2) := by decide +kernel
theorem d_Ck_infer_99 : decode b_Ck_infer 99 = .ok (.putfield 9, 3) := by decide +kernel
theorem d_Ck_infer_102 : decode b_Ck_infer 102 = .ok (.iload 6, 2) := by decide +kernel
theorem d_Ck_infer_104 : decode b_Ck_infer 104 = .ok (.ireturn, 1) := by decide +kernel
theorem d_Ck_infer_105 : decode b_Ck_infer 105 = .ok (.iinc 5 1, 3) := by decide +kernel
theorem d_Ck_infer_108 : decode b_Ck_infer 108 = .ok (.goto (-74), 3) := by decide +kernel
theorem d_Ck_infer_111 : decode b_Ck_infer 111 = .ok (.aload_n 0, 1) := by decide +kernel
theorem d_Ck_infer_112 : decode b_Ck_infer 112 = .ok (.getfield 59, 3) := by decide +kernel
theorem d_Ck_infer_115 : decode b_Ck_infer 115 = .ok (.ifCond .ne 5, 3) := by decide +kernel
theorem d_Ck_infer_118 : decode b_Ck_infer 118 = .ok (.iconst 0, 1) := by decide +kernel
theorem d_Ck_infer_119 : decode b_Ck_infer 119 = .ok (.ireturn, 1) := by decide +kernel
theorem d_Ck_infer_120 : decode b_Ck_infer 120 = .ok (.iinc 4 1, 3) := by decide +kernel
theorem d_Ck_infer_123 : decode b_Ck_infer 123 = .ok (.goto (-104), 3) := by decide +kernel
theorem d_Ck_infer_126 : decode b_Ck_infer 126 = .ok (.aload_n 0, 1) := by decide +kernel
theorem d_Ck_infer_127 : decode b_Ck_infer 127 = .ok (.iconst 0, 1) := by decide +kernel
theorem d_Ck_infer_128 : decode b_Ck_infer 128 = .ok (.putfield 9, 3) := by decide +kernel
theorem d_Ck_infer_131 : decode b_Ck_infer 131 = .ok (.bipush 44, 2) := by decide +kernel
theorem d_Ck_infer_133 : decode b_Ck_infer 133 = .ok (.ireturn, 1) := by decide +kernel
abbrev ru_Ck_infer : Room := { frames := 7, cells := 0, slots := 0, locals := 158 }
def wj_Ck_infer_105 (y : Ly) (Post : St → Int32 → Prop) (K_19 : St → Int32 → Prop) (K_34 : St → Int32 → Int32 → Prop) (a0 : Nat) (a1 : Nat) (s_j105 : St) (x4j105 : Int32) (x5j105 : Int32) : Prop := K_34 s_j105 x4j105 (x5j105 + 1)
def wb_Ck_infer_34 (y : Ly) (Post : St → Int32 → Prop) (K_19 : St → Int32 → Prop) (K_34 : St → Int32 → Int32 → Prop) (a0 : Nat) (a1 : Nat) (s_h34 : St) (x4h34 : Int32) (x5h34 : Int32) : Prop := (((sV s_h34 a0 6) ≤ x5h34 → ((¬ (sV s_h34 a0 17) = 0 → K_19 s_h34 (x4h34 + 1)) ∧ ((sV s_h34 a0 17) = 0 → Post s_h34 0))) ∧ (¬ ((sV s_h34 a0 6) ≤ x5h34) → xA y s_h34 a0 19 x5h34 (fun x_10 : Int32 => ((x_10 < 0 → wj_Ck_infer_105 y Post K_19 K_34 a0 a1 s_h34 x4h34 x5h34) ∧ (¬ (x_10 < 0) → xC y s_h34 a0 18 a0 15 .int (x5h34 * 40) 0 40 (fun s_11 : St => xA y s_11 a0 19 x5h34 (fun x_12 : Int32 => xP (uV s_11 a0 16 x_12) (fun s_13 : St => wu_Ck_look y (fun (s_15 : St) (r_14 : Int32) => ((r_14 = 0 → wj_Ck_infer_105 y Post K_19 K_34 a0 a1 s_15 x4h34 x5h34) ∧ (¬ (r_14 = 0) → xP (uV s_15 a0 0 x5h34) (fun s_16 : St => Post s_16 r_14)))) s_13 a0 x5h34))))))))
def wl_Ck_infer_34 (y : Ly) (Post : St → Int32 → Prop) (K_19 : St → Int32 → Prop) (a0 : Nat) (a1 : Nat) (s_h34 : St) (x4h34 : Int32) (x5h34 : Int32) : Prop := ∃ (I : St → Int32 → Int32 → Prop) (μ : St → Int32 → Int32 → Nat), I s_h34 x4h34 x5h34 ∧ ∀ (u : St) (t0 : Int32) (t1 : Int32), I u t0 t1 → wb_Ck_infer_34 y Post K_19 (fun z t0q t1q => I z t0q t1q ∧ μ z t0q t1q < μ u t0 t1) a0 a1 u t0 t1
def wb_Ck_infer_19 (y : Ly) (Post : St → Int32 → Prop) (K_19 : St → Int32 → Prop) (a0 : Nat) (a1 : Nat) (s_h19 : St) (x4h19 : Int32) : Prop := ((100 ≤ x4h19 → xP (uV s_h19 a0 0 0) (fun s_7 : St => Post s_7 44)) ∧ (¬ (100 ≤ x4h19) → nb 0 ∧ xP (uV s_h19 a0 17 0) (fun s_9 : St => wl_Ck_infer_34 y Post K_19 a0 a1 s_9 x4h19 0)))
def wl_Ck_infer_19 (y : Ly) (Post : St → Int32 → Prop) (a0 : Nat) (a1 : Nat) (s_h19 : St) (x4h19 : Int32) : Prop := ∃ (I : St → Int32 → Prop) (μ : St → Int32 → Nat), I s_h19 x4h19 ∧ ∀ (u : St) (t0 : Int32), I u t0 → wb_Ck_infer_19 y Post (fun z t0q => I z t0q ∧ μ z t0q < μ u t0) a0 a1 u t0
def wu_Ck_infer (y : Ly) (Post : St → Int32 → Prop) (σ : St) (a0 : Nat) (a1 : Nat) (v2 : Int32) (v3 : Int32) : Prop := wu_Ck_begin y (fun (s_2 : St) => wu_Ck_forget y (fun (s_4 : St) => wu_Ck_keep y (fun (s_6 : St) => wl_Ck_infer_19 y Post a0 a1 s_6 0) s_4 a0 0) s_2 a0) σ a0 a1 v2 v3
set_option maxHeartbeats 4000000 in
set_option maxRecDepth 100000 in
theorem cu_Ck_infer (l : Launch) (D : va_G) (g : Nat → ClassId) (F : Nat → SL) (sl : List SL) (hF : SOK F sl) (ad : Nat → Nat) (y : Ly) (Post : St → Int32 → Prop) (σ : St) (a0 : Nat) (a1 : Nat) (v2 : Int32) (v3 : Int32) (sz : Nat) (h_a0 : cl a0 = 0) (h_a1 : cl a1 = 9) (h : wu_Ck_infer y Post σ a0 a1 v2 v3) : Met l y_Ck_infer (mw y_Ck_infer b_Ck_infer 7 (some .int)) ru_Ck_infer (PC g D sl [.ref (ad a0), .ref (ad a1), .int v2, .int v3] sz (ws g ad y σ)) (va_Qi (fun (r : Int32) (u : St) => Post u r) (QW D (va_A (ws g ad y σ) sz) (fun u => ws g ad y u)) (va_A (ws g ad y σ) sz)) 0 0 (va_A (ws g ad y σ) sz) := by
  refine ofI (by decide +kernel) (Nat.le_of_ble_eq_true rfl) ?_
  intro p e s m args below meth c A Q ls H locs G hsz hP hD hS hl hret
  subst hsz
  have hl : lv_has ls 7 [(0, .ref (ad a0)), (1, .ref (ad a1)), (2, .int v2), (3, .int v3)] := hl
  unfold wu_Ck_infer at h
  refine lv_aload_n G.1 G.2.1 d_Ck_infer_0 rfl (lv_at hl 0 rfl) ?_
  refine lv_aload_n G.1 G.2.1 d_Ck_infer_1 rfl (lv_at hl 1 rfl) ?_
  refine lv_iload_n G.1 G.2.1 d_Ck_infer_2 rfl (lv_at hl 2 rfl) ?_
  refine lv_iload_n G.1 G.2.1 d_Ck_infer_3 rfl (lv_at hl 3 rfl) ?_
  refine ucVv (As := [.ref (ad a1), .int v2, .int v3]) (rest := []) G hP hD hS (cu_Ck_begin l D g ad y _ σ a0 a1 v2 v3 H.size h_a0 h_a1 h) w9_Ck_begin q1576 ⟨Nat.le_of_ble_eq_true rfl, Nat.le_of_ble_eq_true rfl⟩ rfl rfl h_a0 (q := (RCk, TCk, 22)) rfl rfl hl.1 rfl (Nat.le_of_ble_eq_true rfl) rfl ⟨Nat.le_refl _, Nat.le_refl _⟩ d_Ck_infer_4 (fun s_2 H locs h hP hD hS => ?_)
  refine lv_aload_n G.1 G.2.1 d_Ck_infer_7 rfl (lv_at hl 0 rfl) ?_
  refine ucVv (As := []) (rest := []) G hP hD hS (cu_Ck_forget l D g ad y _ s_2 a0 H.size h_a0 h) w9_Ck_forget q1593 ⟨Nat.le_of_ble_eq_true rfl, Nat.le_of_ble_eq_true rfl⟩ rfl rfl h_a0 (q := (RCk, TCk, 22)) rfl rfl hl.1 rfl (Nat.le_of_ble_eq_true rfl) rfl ⟨Nat.le_refl _, Nat.le_refl _⟩ d_Ck_infer_8 (fun s_4 H locs h hP hD hS => ?_)
  refine lv_aload_n G.1 G.2.1 d_Ck_infer_11 rfl (lv_at hl 0 rfl) ?_
  refine lv_iconst (v := 0) G.1 G.2.1 d_Ck_infer_12 (by decide) ?_
  refine ucVv (As := [.int 0]) (rest := []) G hP hD hS (cu_Ck_keep l D g ad y _ s_4 a0 0 H.size h_a0 h) w9_Ck_keep q1624 ⟨Nat.le_of_ble_eq_true rfl, Nat.le_of_ble_eq_true rfl⟩ rfl rfl h_a0 (q := (RCk, TCk, 22)) rfl rfl hl.1 rfl (Nat.le_of_ble_eq_true rfl) rfl ⟨Nat.le_refl _, Nat.le_refl _⟩ d_Ck_infer_13 (fun s_6 H locs h hP hD hS => ?_)
  refine lv_iconst (v := 0) G.1 G.2.1 d_Ck_infer_16 (by decide) ?_
  refine W.eq (g2 := F0 m 17 ls [.int 0]) rfl ?_
  refine lv_istore (lv' := [(4, .int 0), (0, .ref (ad a0)), (1, .ref (ad a1)), (2, .int v2), (3, .int v3)]) G.1 G.2.1 d_Ck_infer_17 hl (by decide) rfl (fun ls hl => ?_)
  unfold wl_Ck_infer_19 at h
  obtain ⟨I_19, μ_19, hI_19, hB_19⟩ := h
  have L_19 : ∀ (n_19 : Nat) (s_h19 : St) (x4h19 : Int32), μ_19 s_h19 x4h19 < n_19 → I_19 s_h19 x4h19 → ∀ (H : Heap) (locs : List Loc), va_P D CL (ws g ad y s_h19) H → va_D A (ws g ad y s_h19) → va_S A s.heap H locs → ∀ ls, lv_has ls 7 [(0, .ref (ad a0)), (4, .int x4h19)] → W p l e ru_Ck_infer s m args below meth c H locs 0 0 Q (F0 m 19 ls []) := by
    intro n_19
    induction n_19 with
    | zero => intro s_h19 x4h19 hμ; exact absurd hμ (Nat.not_lt_zero _)
    | succ n_19 ih_19 =>
      intro s_h19 x4h19 hμ_19 hJ H locs hP hD hS ls hl
      obtain ⟨K_19, hK_19, h⟩ : ∃ K : St → Int32 → Prop, (∀ z (t0 : Int32), K z t0 → I_19 z t0 ∧ μ_19 z t0 < μ_19 s_h19 x4h19) ∧ wb_Ck_infer_19 y Post K a0 a1 s_h19 x4h19 := ⟨_, fun _ _ h => h, hB_19 s_h19 x4h19 hJ⟩
      unfold wb_Ck_infer_19 at h
      refine lv_iload G.1 G.2.1 d_Ck_infer_19 (lv_at hl 1 rfl) ?_
      refine lv_bipush (v := 100) G.1 G.2.1 d_Ck_infer_21 (by decide) ?_
      refine lv_icmp_ge (tgt := 126) G.1 G.2.1 d_Ck_infer_23 (by decide) (fun c23 => ?_) (fun c23 => ?_)
      · skip
        have h := h.1 c23
        refine lv_aload_n G.1 G.2.1 d_Ck_infer_126 rfl (lv_at hl 0 rfl) ?_
        refine lv_iconst (v := 0) G.1 G.2.1 d_Ck_infer_127 (by decide) ?_
        refine upf G hP hD hS h 0 putV h_a0 iCk tCk tCk_ok nCk rfl (by decide) rfl q648 rfl rfl fV rfl rfl d_Ck_infer_128 (fun s_7 H locs h hP hD hS => ?_)
        refine lv_bipush (v := 44) G.1 G.2.1 d_Ck_infer_131 (by decide) ?_
        exact hret _ _ _ _ _ _ _ ls h hP hD hS (Nat.le_refl _) (Nat.le_refl _) d_Ck_infer_133
      · skip
        have h := h.2 c23
        refine lv_aload_n G.1 G.2.1 d_Ck_infer_26 rfl (lv_at hl 0 rfl) ?_
        refine lv_iconst (v := 0) G.1 G.2.1 d_Ck_infer_27 (by decide) ?_
        obtain ⟨n_8, h⟩ := h
        refine upf G hP hD hS h 17 putV h_a0 iCk tCk tCk_ok nCk rfl (by decide) rfl q668 rfl rfl fV (nb_n n_8) (nb_f n_8) d_Ck_infer_28 (fun s_9 H locs h hP hD hS => ?_)
        refine lv_iconst (v := 0) G.1 G.2.1 d_Ck_infer_31 (by decide) ?_
        refine lv_istore (lv' := [(5, .int 0), (0, .ref (ad a0)), (4, .int x4h19)]) G.1 G.2.1 d_Ck_infer_32 hl (by decide) rfl (fun ls hl => ?_)
        unfold wl_Ck_infer_34 at h
        obtain ⟨I_34, μ_34, hI_34, hB_34⟩ := h
        have L_34 : ∀ (n_34 : Nat) (s_h34 : St) (x4h34 : Int32) (x5h34 : Int32), μ_34 s_h34 x4h34 x5h34 < n_34 → I_34 s_h34 x4h34 x5h34 → ∀ (H : Heap) (locs : List Loc), va_P D CL (ws g ad y s_h34) H → va_D A (ws g ad y s_h34) → va_S A s.heap H locs → ∀ ls, lv_has ls 7 [(0, .ref (ad a0)), (4, .int x4h34), (5, .int x5h34)] → W p l e ru_Ck_infer s m args below meth c H locs 0 0 Q (F0 m 34 ls []) := by
          intro n_34
          induction n_34 with
          | zero => intro s_h34 x4h34 x5h34 hμ; exact absurd hμ (Nat.not_lt_zero _)
          | succ n_34 ih_34 =>
            intro s_h34 x4h34 x5h34 hμ_34 hJ H locs hP hD hS ls hl
            obtain ⟨K_34, hK_34, h⟩ : ∃ K : St → Int32 → Int32 → Prop, (∀ z (t0 : Int32) (t1 : Int32), K z t0 t1 → I_34 z t0 t1 ∧ μ_34 z t0 t1 < μ_34 s_h34 x4h34 x5h34) ∧ wb_Ck_infer_34 y Post K_19 K a0 a1 s_h34 x4h34 x5h34 := ⟨_, fun _ _ _ h => h, hB_34 s_h34 x4h34 x5h34 hJ⟩
            unfold wb_Ck_infer_34 at h
            refine lv_iload G.1 G.2.1 d_Ck_infer_34 (lv_at hl 2 rfl) ?_
            refine lv_aload_n G.1 G.2.1 d_Ck_infer_36 rfl (lv_at hl 0 rfl) ?_
            refine ugf (v := .int (sV s_h34 a0 6)) G hP h_a0 iCk rfl 6 (by decide) rfl q657 rfl rfl d_Ck_infer_37 ?_
            refine lv_icmp_ge (tgt := 111) G.1 G.2.1 d_Ck_infer_40 (by decide) (fun c40 => ?_) (fun c40 => ?_)
            · skip
              have h := h.1 c40
              refine lv_aload_n G.1 G.2.1 d_Ck_infer_111 rfl (lv_at hl 0 rfl) ?_
              refine ugf (v := .int (sV s_h34 a0 17)) G hP h_a0 iCk rfl 17 (by decide) rfl q668 rfl rfl d_Ck_infer_112 ?_
              refine lv_if_ne (tgt := 120) G.1 G.2.1 d_Ck_infer_115 (by decide) (fun c115 => ?_) (fun c115 => ?_)
              · skip
                have h := h.1 c115
                refine lv_iinc (v := x4h34 + 1) (lv' := [(4, .int (x4h34 + 1)), (0, .ref (ad a0)), (5, .int x5h34)]) G.1 G.2.1 d_Ck_infer_120 hl (k := 1) rfl rfl (by decide) rfl (fun ls hl => ?_)
                refine lv_goto (tgt := 19) G.1 G.2.1 d_Ck_infer_123 (by decide) ?_
                have h := hK_19 s_h34 (x4h34 + 1) h
                exact ih_19 s_h34 (x4h34 + 1) (Nat.lt_of_lt_of_le h.2 (Nat.le_of_lt_succ hμ_19)) h.1 H locs hP hD hS ls (lv_sub hl [1, 0] rfl)
              · skip
                have h := h.2 c115
                refine lv_iconst (v := 0) G.1 G.2.1 d_Ck_infer_118 (by decide) ?_
                exact hret _ _ _ _ _ _ _ ls h hP hD hS (Nat.le_refl _) (Nat.le_refl _) d_Ck_infer_119
            · skip
              have h := h.2 c40
              refine lv_aload_n G.1 G.2.1 d_Ck_infer_43 rfl (lv_at hl 0 rfl) ?_
              refine ugf (v := .ref (yP y a0 19)) G hP h_a0 iCk rfl 19 (by decide) rfl q670 rfl rfl d_Ck_infer_44 ?_
              refine lv_iload G.1 G.2.1 d_Ck_infer_47 (lv_at hl 2 rfl) ?_
              refine uiald G hP (kdp h_a0 rfl) (typ h_a0 rfl) h d_Ck_infer_49 (fun x_10 h => ?_)
              have J_105 : ∀ (s_j105 : St) (x4j105 : Int32) (x5j105 : Int32) (H : Heap) (locs : List Loc), wj_Ck_infer_105 y Post K_19 K_34 a0 a1 s_j105 x4j105 x5j105 → va_P D CL (ws g ad y s_j105) H → va_D A (ws g ad y s_j105) → va_S A s.heap H locs → ∀ ls, lv_has ls 7 [(0, .ref (ad a0)), (4, .int x4j105), (5, .int x5j105)] → W p l e ru_Ck_infer s m args below meth c H locs 0 0 Q (F0 m 105 ls []) := by
                intro s_j105 x4j105 x5j105 H locs h hP hD hS ls hl
                unfold wj_Ck_infer_105 at h
                refine lv_iinc (v := x5j105 + 1) (lv' := [(5, .int (x5j105 + 1)), (0, .ref (ad a0)), (4, .int x4j105)]) G.1 G.2.1 d_Ck_infer_105 hl (k := 2) rfl rfl (by decide) rfl (fun ls hl => ?_)
                refine lv_goto (tgt := 34) G.1 G.2.1 d_Ck_infer_108 (by decide) ?_
                have h := hK_34 s_j105 x4j105 (x5j105 + 1) h
                exact ih_34 s_j105 x4j105 (x5j105 + 1) (Nat.lt_of_lt_of_le h.2 (Nat.le_of_lt_succ hμ_34)) h.1 H locs hP hD hS ls (lv_sub hl [1, 2, 0] rfl)
              refine lv_if_lt (tgt := 105) G.1 G.2.1 d_Ck_infer_50 (by decide) (fun c50 => ?_) (fun c50 => ?_)
              · skip
                have h := h.1 c50
                exact J_105 s_h34 x4h34 x5h34 H locs h hP hD hS ls (lv_sub hl [0, 1, 2] rfl)
              · skip
                have h := h.2 c50
                refine lv_aload_n G.1 G.2.1 d_Ck_infer_53 rfl (lv_at hl 0 rfl) ?_
                refine ugf (v := .ref (yP y a0 18)) G hP h_a0 iCk rfl 18 (by decide) rfl q669 rfl rfl d_Ck_infer_54 ?_
                refine W.eq (g2 := F0 m 57 ls [.ref (yP y a0 18)]) rfl ?_
                refine lv_iload G.1 G.2.1 d_Ck_infer_57 (lv_at hl 2 rfl) ?_
                refine lv_bipush (v := 40) G.1 G.2.1 d_Ck_infer_59 (by decide) ?_
                refine lv_imul G.1 G.2.1 d_Ck_infer_61 ?_
                refine lv_aload_n G.1 G.2.1 d_Ck_infer_62 rfl (lv_at hl 0 rfl) ?_
                refine ugf (v := .ref (yP y a0 15)) G hP h_a0 iCk rfl 15 (by decide) rfl q666 rfl rfl d_Ck_infer_63 ?_
                refine lv_iconst (v := 0) G.1 G.2.1 d_Ck_infer_66 (by decide) ?_
                refine lv_bipush (v := 40) G.1 G.2.1 d_Ck_infer_67 (by decide) ?_
                refine ucpy G hP hD hS (kdp h_a0 rfl) (typ h_a0 rfl) (kdp h_a0 rfl) (typ h_a0 rfl) rfl rfl h hl.1 q1628 q488 q487 q338 (Nat.le_of_ble_eq_true rfl) (Nat.le_of_ble_eq_true rfl) d_Ck_infer_69 (fun s_11 H locs h hP hD hS => ?_)
                refine lv_aload_n G.1 G.2.1 d_Ck_infer_72 rfl (lv_at hl 0 rfl) ?_
                refine lv_aload_n G.1 G.2.1 d_Ck_infer_73 rfl (lv_at hl 0 rfl) ?_
                refine ugf (v := .ref (yP y a0 19)) G hP h_a0 iCk rfl 19 (by decide) rfl q670 rfl rfl d_Ck_infer_74 ?_
                refine lv_iload G.1 G.2.1 d_Ck_infer_77 (lv_at hl 2 rfl) ?_
                refine W.eq (g2 := F0 m 79 ls [.int x5h34, .ref (yP y a0 19), .ref (ad a0)]) rfl ?_
                refine uiald G hP (kdp h_a0 rfl) (typ h_a0 rfl) h d_Ck_infer_79 (fun x_12 h => ?_)
                refine upf G hP hD hS h 16 putV h_a0 iCk tCk tCk_ok nCk rfl (by decide) rfl q667 rfl rfl fV rfl rfl d_Ck_infer_80 (fun s_13 H locs h hP hD hS => ?_)
                refine lv_aload_n G.1 G.2.1 d_Ck_infer_83 rfl (lv_at hl 0 rfl) ?_
                refine lv_iload G.1 G.2.1 d_Ck_infer_84 (lv_at hl 2 rfl) ?_
                refine usVi (As := [.int x5h34]) (rest := []) G hP hD hS (cu_Ck_look l D g F sl hF ad y _ s_13 a0 x5h34 H.size h_a0 h) w9_Ck_look q2275 ⟨Nat.le_of_ble_eq_true rfl, Nat.le_of_ble_eq_true rfl⟩ rfl rfl h_a0 (q := (RCk, TCk, 22)) rfl rfl hl.1 rfl (Nat.le_of_ble_eq_true rfl) rfl ⟨Nat.le_refl _, Nat.le_refl _⟩ d_Ck_infer_86 (fun r_14 s_15 H locs h hP hD hS => ?_)
                refine lv_istore (lv' := [(6, .int r_14), (0, .ref (ad a0)), (4, .int x4h34), (5, .int x5h34)]) G.1 G.2.1 d_Ck_infer_89 hl (by decide) rfl (fun ls hl => ?_)
                refine lv_iload G.1 G.2.1 d_Ck_infer_91 (lv_at hl 0 rfl) ?_
                refine lv_if_eq (tgt := 105) G.1 G.2.1 d_Ck_infer_93 (by decide) (fun c93 => ?_) (fun c93 => ?_)
                · skip
                  have h := h.1 c93
                  exact J_105 s_15 x4h34 x5h34 H locs h hP hD hS ls (lv_sub hl [1, 2, 3] rfl)
                · skip
                  have h := h.2 c93
                  refine lv_aload_n G.1 G.2.1 d_Ck_infer_96 rfl (lv_at hl 1 rfl) ?_
                  refine lv_iload G.1 G.2.1 d_Ck_infer_97 (lv_at hl 3 rfl) ?_
                  refine upf G hP hD hS h 0 putV h_a0 iCk tCk tCk_ok nCk rfl (by decide) rfl q648 rfl rfl fV rfl rfl d_Ck_infer_99 (fun s_16 H locs h hP hD hS => ?_)
                  refine lv_iload G.1 G.2.1 d_Ck_infer_102 (lv_at hl 0 rfl) ?_
                  refine W.eq (g2 := F0 m 104 ls [.int r_14]) rfl ?_
                  exact hret _ _ _ _ _ _ _ ls h hP hD hS (Nat.le_refl _) (Nat.le_refl _) d_Ck_infer_104
        exact L_34 _ s_9 x4h19 0 (Nat.lt_succ_self _) hI_34 H locs hP hD hS ls (lv_sub hl [1, 2, 0] rfl)
  exact L_19 _ s_6 0 (Nat.lt_succ_self _) hI_19 H locs hP hD hS ls (lv_sub hl [1, 0] rfl)
theorem q2267 : Cond.methodLink "ClassWorks" 361 y_Wd_hasBody ∈ lw_ok := lw_okmem (List.mem_of_getElem? (i := 2267) (by decide +kernel)) rfl
theorem q2270 : Cond.code y_Wd_hasBody b_Wd_hasBody 4 (some (.boolean)) ∈ lw_ok := lw_okmem (List.mem_of_getElem? (i := 2270) (by decide +kernel)) rfl
theorem q2268 : Cond.instanceMethod y_Wd_hasBody ∈ lw_ok := lw_okmem (List.mem_of_getElem? (i := 2268) (by decide +kernel)) rfl
theorem q2269 : Cond.selects y_Wd_hasBody.cls y_Wd_hasBody y_Wd_hasBody ∈ lw_ok := lw_okmem (List.mem_of_getElem? (i := 2269) (by decide +kernel)) rfl
theorem w9_Wd_hasBody : CWv y_Wd_hasBody b_Wd_hasBody 4 (some (.boolean)) 2 ∧ Cond.instanceMethod y_Wd_hasBody ∈ lw_ok ∧ Cond.selects y_Wd_hasBody.cls y_Wd_hasBody y_Wd_hasBody ∈ lw_ok := ⟨⟨q2270, q345, by decide +kernel, by decide +kernel, by decide +kernel⟩, q2268, q2269⟩
theorem q2298 : Cond.methodLink "ClassWorks" 372 y_Ck_tellNumbers ∈ lw_ok := lw_okmem (List.mem_of_getElem? (i := 2298) (by decide +kernel)) rfl
theorem q2301 : Cond.code y_Ck_tellNumbers b_Ck_tellNumbers 4 (none) ∈ lw_ok := lw_okmem (List.mem_of_getElem? (i := 2301) (by decide +kernel)) rfl
theorem q2299 : Cond.instanceMethod y_Ck_tellNumbers ∈ lw_ok := lw_okmem (List.mem_of_getElem? (i := 2299) (by decide +kernel)) rfl
theorem q2300 : Cond.selects y_Ck_tellNumbers.cls y_Ck_tellNumbers y_Ck_tellNumbers ∈ lw_ok := lw_okmem (List.mem_of_getElem? (i := 2300) (by decide +kernel)) rfl
theorem w9_Ck_tellNumbers : CWv y_Ck_tellNumbers b_Ck_tellNumbers 4 (none) 0 ∧ Cond.instanceMethod y_Ck_tellNumbers ∈ lw_ok ∧ Cond.selects y_Ck_tellNumbers.cls y_Ck_tellNumbers y_Ck_tellNumbers ∈ lw_ok := ⟨⟨q2301, q341, by decide +kernel, by decide +kernel, by decide +kernel⟩, q2299, q2300⟩
theorem q650 : Cond.fieldLink "ClassWorks" 375 "ClassWorks$Checker" "spot" "I" ∈ lw_ok := lw_okmem (List.mem_of_getElem? (i := 650) (by decide +kernel)) rfl
theorem q2297 : Cond.methodLink "ClassWorks" 368 y_Ck_check ∈ lw_ok := lw_okmem (List.mem_of_getElem? (i := 2297) (by decide +kernel)) rfl
theorem q2271 : Cond.methodLink "ClassWorks" 364 y_Ck_infer ∈ lw_ok := lw_okmem (List.mem_of_getElem? (i := 2271) (by decide +kernel)) rfl
theorem q2274 : Cond.code y_Ck_infer b_Ck_infer 7 (some .int) ∈ lw_ok := lw_okmem (List.mem_of_getElem? (i := 2274) (by decide +kernel)) rfl
theorem q2272 : Cond.instanceMethod y_Ck_infer ∈ lw_ok := lw_okmem (List.mem_of_getElem? (i := 2272) (by decide +kernel)) rfl
theorem q2273 : Cond.selects y_Ck_infer.cls y_Ck_infer y_Ck_infer ∈ lw_ok := lw_okmem (List.mem_of_getElem? (i := 2273) (by decide +kernel)) rfl
theorem w9_Ck_infer : CWv y_Ck_infer b_Ck_infer 7 (some .int) 3 ∧ Cond.instanceMethod y_Ck_infer ∈ lw_ok ∧ Cond.selects y_Ck_infer.cls y_Ck_infer y_Ck_infer ∈ lw_ok := ⟨⟨q2274, q341, by decide +kernel, by decide +kernel, by decide +kernel⟩, q2272, q2273⟩
def y_Cw_kinds : MethodName := ⟨"ClassWorks", "kinds", "(IIIZ)I"⟩
abbrev b_Cw_kinds : ByteArray := prog_1_method_35_code
theorem d_Cw_kinds_0 : decode b_Cw_kinds 0 = .ok (.aload_n 0, 1) := by decide +kernel
theorem d_Cw_kinds_1 : decode b_Cw_kinds 1 = .ok (.iload_n 1, 1) := by decide +kernel
theorem d_Cw_kinds_2 : decode b_Cw_kinds 2 = .ok (.iload_n 2, 1) := by decide +kernel
theorem d_Cw_kinds_3 : decode b_Cw_kinds 3 = .ok (.invokevirtual 150, 3) := by decide +kernel
theorem d_Cw_kinds_6 : decode b_Cw_kinds 6 = .ok (.astore 5, 2) := by decide +kernel
theorem d_Cw_kinds_8 : decode b_Cw_kinds 8 = .ok (.aload 5, 2) := by decide +kernel
theorem d_Cw_kinds_10 : decode b_Cw_kinds 10 = .ok (.ifnull 29, 3) := by decide +kernel
theorem d_Cw_kinds_13 : decode b_Cw_kinds 13 = .ok (.iload_n 3, 1) := by decide +kernel
theorem d_Cw_kinds_14 : decode b_Cw_kinds 14 = .ok (.ifCond .lt 25, 3) := by decide +kernel
theorem d_Cw_kinds_17 : decode b_Cw_kinds 17 = .ok (.iload_n 3, 1) := by decide +kernel
theorem d_Cw_kinds_18 : decode b_Cw_kinds 18 = .ok (.aload 5, 2) := by decide +kernel
theorem d_Cw_kinds_20 : decode b_Cw_kinds 20 = .ok (.iload_n 2, 1) := by decide +kernel
theorem d_Cw_kinds_21 : decode b_Cw_kinds 21 = .ok (.bipush 11, 2) := by decide +kernel
theorem d_Cw_kinds_23 : decode b_Cw_kinds 23 = .ok (.invokevirtual 158, 3) := by decide +kernel
theorem d_Cw_kinds_26 : decode b_Cw_kinds 26 = .ok (.if_icmp .ge 13, 3) := by decide +kernel
theorem d_Cw_kinds_29 : decode b_Cw_kinds 29 = .ok (.aload 5, 2) := by decide +kernel
theorem d_Cw_kinds_31 : decode b_Cw_kinds 31 = .ok (.iload_n 2, 1) := by decide +kernel
theorem d_Cw_kinds_32 : decode b_Cw_kinds 32 = .ok (.iload_n 3, 1) := by decide +kernel
theorem d_Cw_kinds_33 : decode b_Cw_kinds 33 = .ok (.invokevirtual 361, 3) := by decide +kernel
theorem d_Cw_kinds_36 : decode b_Cw_kinds 36 = .ok (.ifCond .ne 5, 3) := by decide +kernel
theorem d_Cw_kinds_39 : decode b_Cw_kinds 39 = .ok (.iconst (-1), 1) := by decide +kernel
theorem d_Cw_kinds_40 : decode b_Cw_kinds 40 = .ok (.ireturn, 1) := by decide +kernel
theorem d_Cw_kinds_41 : decode b_Cw_kinds 41 = .ok (.iload 4, 2) := by decide +kernel
theorem d_Cw_kinds_43 : decode b_Cw_kinds 43 = .ok (.ifCond .eq 17, 3) := by decide +kernel
theorem d_Cw_kinds_46 : decode b_Cw_kinds 46 = .ok (.aload_n 0, 1) := by decide +kernel
theorem d_Cw_kinds_47 : decode b_Cw_kinds 47 = .ok (.getfield 88, 3) := by decide +kernel
theorem d_Cw_kinds_50 : decode b_Cw_kinds 50 = .ok (.aload 5, 2) := by decide +kernel
theorem d_Cw_kinds_52 : decode b_Cw_kinds 52 = .ok (.iload_n 2, 1) := by decide +kernel
theorem d_Cw_kinds_53 : decode b_Cw_kinds 53 = .ok (.iload_n 3, 1) := by decide +kernel
theorem d_Cw_kinds_54 : decode b_Cw_kinds 54 = .ok (.invokevirtual 364, 3) := by decide +kernel
theorem d_Cw_kinds_57 : decode b_Cw_kinds 57 = .ok (.goto 18, 3) := by decide +kernel
theorem d_Cw_kinds_60 : decode b_Cw_kinds 60 = .ok (.aload_n 0, 1) := by decide +kernel
theorem d_Cw_kinds_61 : decode b_Cw_kinds 61 = .ok (.getfield 88, 3) := by decide +kernel
theorem d_Cw_kinds_64 : decode b_Cw_kinds 64 = .ok (.aload 5, 2) := by decide +kernel
theorem d_Cw_kinds_66 : decode b_Cw_kinds 66 = .ok (.iload_n 2, 1) := by decide +kernel
theorem d_Cw_kinds_67 : decode b_Cw_kinds 67 = .ok (.iload_n 3, 1) := by decide +kernel
theorem d_Cw_kinds_68 : decode b_Cw_kinds 68 = .ok (.iload_n 3, 1) := by decide +kernel
theorem d_Cw_kinds_69 : decode b_Cw_kinds 69 = .ok (.iconst 1, 1) := by decide +kernel
theorem d_Cw_kinds_70 : decode b_Cw_kinds 70 = .ok (.iadd, 1) := by decide +kernel
theorem d_Cw_kinds_71 : decode b_Cw_kinds 71 = .ok (.iconst 1, 1) := by decide +kernel
theorem d_Cw_kinds_72 : decode b_Cw_kinds 72 = .ok (.invokevirtual 368, 3) := by decide +kernel
theorem d_Cw_kinds_75 : decode b_Cw_kinds 75 = .ok (.istore 6, 2) := by decide +kernel
theorem d_Cw_kinds_77 : decode b_Cw_kinds 77 = .ok (.aload_n 0, 1) := by decide +kernel
theorem d_Cw_kinds_78 : decode b_Cw_kinds 78 = .ok (.getfield 88, 3) := by decide +kernel
theorem d_Cw_kinds_81 : decode b_Cw_kinds 81 = .ok (.invokevirtual 372, 3) := by decide +kernel
theorem d_Cw_kinds_84 : decode b_Cw_kinds 84 = .ok (.iload 6, 2) := by decide +kernel
theorem d_Cw_kinds_86 : decode b_Cw_kinds 86 = .ok (.ifCond .ne 7, 3) := by decide +kernel
theorem d_Cw_kinds_89 : decode b_Cw_kinds 89 = .ok (.iconst 0, 1) := by decide +kernel
theorem d_Cw_kinds_90 : decode b_Cw_kinds 90 = .ok (.goto 17, 3) := by decide +kernel
theorem d_Cw_kinds_93 : decode b_Cw_kinds 93 = .ok (.sipush 1000, 3) := by decide +kernel
theorem d_Cw_kinds_96 : decode b_Cw_kinds 96 = .ok (.iload 6, 2) := by decide +kernel
theorem d_Cw_kinds_98 : decode b_Cw_kinds 98 = .ok (.imul, 1) := by decide +kernel
theorem d_Cw_kinds_99 : decode b_Cw_kinds 99 = .ok (.aload_n 0, 1) := by decide +kernel
theorem d_Cw_kinds_100 : decode b_Cw_kinds 100 = .ok (.getfield 88, 3) := by decide +kernel
theorem d_Cw_kinds_103 : decode b_Cw_kinds 103 = .ok (.getfield 375, 3) := by decide +kernel
theorem d_Cw_kinds_106 : decode b_Cw_kinds 106 = .ok (.iadd, 1) := by decide +kernel
theorem d_Cw_kinds_107 : decode b_Cw_kinds 107 = .ok (.ireturn, 1) := by decide +kernel
abbrev ru_Cw_kinds : Room := { frames := 8, cells := 0, slots := 0, locals := 184 }
def wj_Cw_kinds_39 (y : Ly) (Post : St → Int32 → Prop) (a0 : Nat) (s_j39 : St) : Prop := Post s_j39 (-1)
def wj_Cw_kinds_107 (y : Ly) (Post : St → Int32 → Prop) (a0 : Nat) (s_j107 : St) (z0j107 : Int32) : Prop := Post s_j107 z0j107
def wj_Cw_kinds_75 (y : Ly) (Post : St → Int32 → Prop) (a0 : Nat) (s_j75 : St) (z0j75 : Int32) : Prop := wu_Ck_tellNumbers y (fun (s_8 : St) => ((¬ z0j75 = 0 → wj_Cw_kinds_107 y Post a0 s_8 ((1000 * z0j75) + (sV s_8 (lk a0 2) 0))) ∧ (z0j75 = 0 → wj_Cw_kinds_107 y Post a0 s_8 0))) s_j75 (lk a0 2)
def wu_Cw_kinds (y : Ly) (Post : St → Int32 → Prop) (σ : St) (a0 : Nat) (v1 : Int32) (v2 : Int32) (v3 : Int32) (v4 : Int32) : Prop := wu_Cw_worldWith y (fun (s_2 : St) (r_1 : Option Nat) => ((r_1 = none → wj_Cw_kinds_39 y Post a0 s_2) ∧ (∀ r_1b : Nat, r_1 = some r_1b → (cl r_1b = 9 ∧ ((v3 < 0 → wj_Cw_kinds_39 y Post a0 s_2) ∧ (¬ (v3 < 0) → wu_Wd_of y (fun (s_4 : St) (r_3 : Int32) => ((r_3 ≤ v3 → wj_Cw_kinds_39 y Post a0 s_4) ∧ (¬ (r_3 ≤ v3) → wu_Wd_hasBody y (fun (s_6 : St) (r_5 : Int32) => ((¬ r_5 = 0 → ((v4 = 0 → wu_Ck_check y (fun (s_10 : St) (r_9 : Int32) => wj_Cw_kinds_75 y Post a0 s_10 r_9) s_6 (lk a0 2) r_1b v2 v3 (v3 + 1) 1) ∧ (¬ (v4 = 0) → wu_Ck_infer y (fun (s_12 : St) (r_11 : Int32) => wj_Cw_kinds_75 y Post a0 s_12 r_11) s_6 (lk a0 2) r_1b v2 v3))) ∧ (r_5 = 0 → wj_Cw_kinds_39 y Post a0 s_6))) s_4 r_1b v2 v3))) s_2 r_1b v2 11)))))) σ a0 v1 v2
set_option maxHeartbeats 4000000 in
set_option maxRecDepth 100000 in
theorem cu_Cw_kinds (l : Launch) (D : va_G) (g : Nat → ClassId) (F : Nat → SL) (sl : List SL) (hF : SOK F sl) (ad : Nat → Nat) (y : Ly) (Post : St → Int32 → Prop) (σ : St) (a0 : Nat) (v1 : Int32) (v2 : Int32) (v3 : Int32) (v4 : Int32) (sz : Nat) (h_a0 : cl a0 = 11) (h : wu_Cw_kinds y Post σ a0 v1 v2 v3 v4) : Met l y_Cw_kinds (mw y_Cw_kinds b_Cw_kinds 7 (some .int)) ru_Cw_kinds (PC g D sl [.ref (ad a0), .int v1, .int v2, .int v3, .int v4] sz (ws g ad y σ)) (va_Qi (fun (r : Int32) (u : St) => Post u r) (QW D (va_A (ws g ad y σ) sz) (fun u => ws g ad y u)) (va_A (ws g ad y σ) sz)) 0 0 (va_A (ws g ad y σ) sz) := by
  refine ofI (by decide +kernel) (Nat.le_of_ble_eq_true rfl) ?_
  intro p e s m args below meth c A Q ls H locs G hsz hP hD hS hl hret
  subst hsz
  have hl : lv_has ls 7 [(0, .ref (ad a0)), (1, .int v1), (2, .int v2), (3, .int v3), (4, .int v4)] := hl
  unfold wu_Cw_kinds at h
  refine lv_aload_n G.1 G.2.1 d_Cw_kinds_0 rfl (lv_at hl 0 rfl) ?_
  refine lv_iload_n G.1 G.2.1 d_Cw_kinds_1 rfl (lv_at hl 1 rfl) ?_
  refine lv_iload_n G.1 G.2.1 d_Cw_kinds_2 rfl (lv_at hl 2 rfl) ?_
  refine ucVq (As := [.int v1, .int v2]) (rest := []) G hP hD hS (cu_Cw_worldWith l D g ad y _ σ a0 v1 v2 H.size h_a0 h) w9_Cw_worldWith q1481 ⟨Nat.le_of_ble_eq_true rfl, Nat.le_of_ble_eq_true rfl⟩ rfl rfl h_a0 (q := (RCw, TCw, 20)) rfl rfl hl.1 rfl (Nat.le_of_ble_eq_true rfl) rfl ⟨Nat.le_refl _, Nat.le_refl _⟩ d_Cw_kinds_3 (fun r_1 s_2 H locs h hP hD hS => ?_)
  rcases r_1 with _ | r_1b
  · skip
    have h := h.1 rfl
    show W p l e ru_Cw_kinds s m args below meth c H locs 0 0 Q (F0 m 6 ls [.null])
    refine lv_astoreN (lv' := [(5, .null), (0, .ref (ad a0)), (1, .int v1), (2, .int v2), (3, .int v3), (4, .int v4)]) G.1 G.2.1 d_Cw_kinds_6 hl (by decide) rfl (fun ls hl => ?_)
    refine lv_aloadN G.1 G.2.1 d_Cw_kinds_8 (lv_at hl 0 rfl) ?_
    have J_39 : ∀ (s_j39 : St) (H : Heap) (locs : List Loc), wj_Cw_kinds_39 y Post a0 s_j39 → va_P D CL (ws g ad y s_j39) H → va_D A (ws g ad y s_j39) → va_S A s.heap H locs → ∀ ls, lv_has ls 7 [] → W p l e ru_Cw_kinds s m args below meth c H locs 0 0 Q (F0 m 39 ls []) := by
      intro s_j39 H locs h hP hD hS ls hl
      unfold wj_Cw_kinds_39 at h
      refine lv_iconst (v := (-1)) G.1 G.2.1 d_Cw_kinds_39 (by decide) ?_
      exact hret _ _ _ _ _ _ _ ls h hP hD hS (Nat.le_refl _) (Nat.le_refl _) d_Cw_kinds_40
    refine lv_ifnullN (tgt := 39) G.1 G.2.1 d_Cw_kinds_10 (by decide) ?_
    exact J_39 s_2 H locs h hP hD hS ls (lv_sub hl [] rfl)
  · skip
    obtain ⟨c_r_1b, h⟩ := h.2 _ rfl
    show W p l e ru_Cw_kinds s m args below meth c H locs 0 0 Q (F0 m 6 ls [.ref (ad r_1b)])
    refine lv_astore (lv' := [(5, .ref (ad r_1b)), (0, .ref (ad a0)), (1, .int v1), (2, .int v2), (3, .int v3), (4, .int v4)]) G.1 G.2.1 d_Cw_kinds_6 hl (by decide) rfl (fun ls hl => ?_)
    refine lv_aload G.1 G.2.1 d_Cw_kinds_8 (lv_at hl 0 rfl) ?_
    have J_39 : ∀ (s_j39 : St) (H : Heap) (locs : List Loc), wj_Cw_kinds_39 y Post a0 s_j39 → va_P D CL (ws g ad y s_j39) H → va_D A (ws g ad y s_j39) → va_S A s.heap H locs → ∀ ls, lv_has ls 7 [] → W p l e ru_Cw_kinds s m args below meth c H locs 0 0 Q (F0 m 39 ls []) := by
      intro s_j39 H locs h hP hD hS ls hl
      unfold wj_Cw_kinds_39 at h
      refine lv_iconst (v := (-1)) G.1 G.2.1 d_Cw_kinds_39 (by decide) ?_
      exact hret _ _ _ _ _ _ _ ls h hP hD hS (Nat.le_refl _) (Nat.le_refl _) d_Cw_kinds_40
    refine lv_ifnull G.1 G.2.1 d_Cw_kinds_10 ?_
    refine lv_iload_n G.1 G.2.1 d_Cw_kinds_13 rfl (lv_at hl 4 rfl) ?_
    refine lv_if_lt (tgt := 39) G.1 G.2.1 d_Cw_kinds_14 (by decide) (fun c14 => ?_) (fun c14 => ?_)
    · skip
      have h := h.1 c14
      exact J_39 s_2 H locs h hP hD hS ls (lv_sub hl [] rfl)
    · skip
      have h := h.2 c14
      refine lv_iload_n G.1 G.2.1 d_Cw_kinds_17 rfl (lv_at hl 4 rfl) ?_
      refine lv_aload G.1 G.2.1 d_Cw_kinds_18 (lv_at hl 0 rfl) ?_
      refine W.eq (g2 := F0 m 20 ls [.ref (ad r_1b), .int v3]) rfl ?_
      refine lv_iload_n G.1 G.2.1 d_Cw_kinds_20 rfl (lv_at hl 3 rfl) ?_
      refine lv_bipush (v := 11) G.1 G.2.1 d_Cw_kinds_21 (by decide) ?_
      refine ucVi (As := [.int v2, .int 11]) (rest := [.int v3]) G hP hD hS (cu_Wd_of l D g ad y _ s_2 r_1b v2 11 H.size c_r_1b h) w9_Wd_of q1493 ⟨Nat.le_of_ble_eq_true rfl, Nat.le_of_ble_eq_true rfl⟩ rfl rfl c_r_1b (q := (RWd, TWd, 17)) rfl rfl hl.1 rfl (Nat.le_of_ble_eq_true rfl) rfl ⟨Nat.le_refl _, Nat.le_refl _⟩ d_Cw_kinds_23 (fun r_3 s_4 H locs h hP hD hS => ?_)
      refine lv_icmp_ge (tgt := 39) G.1 G.2.1 d_Cw_kinds_26 (by decide) (fun c26 => ?_) (fun c26 => ?_)
      · skip
        have h := h.1 c26
        exact J_39 s_4 H locs h hP hD hS ls (lv_sub hl [] rfl)
      · skip
        have h := h.2 c26
        refine lv_aload G.1 G.2.1 d_Cw_kinds_29 (lv_at hl 0 rfl) ?_
        refine lv_iload_n G.1 G.2.1 d_Cw_kinds_31 rfl (lv_at hl 3 rfl) ?_
        refine lv_iload_n G.1 G.2.1 d_Cw_kinds_32 rfl (lv_at hl 4 rfl) ?_
        refine ucVi (As := [.int v2, .int v3]) (rest := []) G hP hD hS (cu_Wd_hasBody l D g ad y _ s_4 r_1b v2 v3 H.size c_r_1b h) w9_Wd_hasBody q2267 ⟨Nat.le_of_ble_eq_true rfl, Nat.le_of_ble_eq_true rfl⟩ rfl rfl c_r_1b (q := (RWd, TWd, 17)) rfl rfl hl.1 rfl (Nat.le_of_ble_eq_true rfl) rfl ⟨Nat.le_refl _, Nat.le_refl _⟩ d_Cw_kinds_33 (fun r_5 s_6 H locs h hP hD hS => ?_)
        refine lv_if_ne (tgt := 41) G.1 G.2.1 d_Cw_kinds_36 (by decide) (fun c36 => ?_) (fun c36 => ?_)
        · skip
          have h := h.1 c36
          refine lv_iload G.1 G.2.1 d_Cw_kinds_41 (lv_at hl 5 rfl) ?_
          have J_75 : ∀ (s_j75 : St) (z0j75 : Int32) (H : Heap) (locs : List Loc), wj_Cw_kinds_75 y Post a0 s_j75 z0j75 → va_P D CL (ws g ad y s_j75) H → va_D A (ws g ad y s_j75) → va_S A s.heap H locs → ∀ ls, lv_has ls 7 [(0, .ref (ad a0))] → W p l e ru_Cw_kinds s m args below meth c H locs 0 0 Q (F0 m 75 ls [.int z0j75]) := by
            intro s_j75 z0j75 H locs h hP hD hS ls hl
            unfold wj_Cw_kinds_75 at h
            refine lv_istore (lv' := [(6, .int z0j75), (0, .ref (ad a0))]) G.1 G.2.1 d_Cw_kinds_75 hl (by decide) rfl (fun ls hl => ?_)
            refine lv_aload_n G.1 G.2.1 d_Cw_kinds_77 rfl (lv_at hl 1 rfl) ?_
            refine ugf (v := .ref (ad (lk a0 2))) G hP h_a0 iCw rfl 2 (by decide) rfl q1136 rfl rfl d_Cw_kinds_78 ?_
            refine ucVv (As := []) (rest := []) G hP hD hS (cu_Ck_tellNumbers l D g ad y _ s_j75 (lk a0 2) H.size (lk_11_2 h_a0) h) w9_Ck_tellNumbers q2298 ⟨Nat.le_of_ble_eq_true rfl, Nat.le_of_ble_eq_true rfl⟩ rfl rfl (lk_11_2 h_a0) (q := (RCk, TCk, 22)) rfl rfl hl.1 rfl (Nat.le_of_ble_eq_true rfl) rfl ⟨Nat.le_refl _, Nat.le_refl _⟩ d_Cw_kinds_81 (fun s_8 H locs h hP hD hS => ?_)
            refine lv_iload G.1 G.2.1 d_Cw_kinds_84 (lv_at hl 0 rfl) ?_
            have J_107 : ∀ (s_j107 : St) (z0j107 : Int32) (H : Heap) (locs : List Loc), wj_Cw_kinds_107 y Post a0 s_j107 z0j107 → va_P D CL (ws g ad y s_j107) H → va_D A (ws g ad y s_j107) → va_S A s.heap H locs → ∀ ls, lv_has ls 7 [] → W p l e ru_Cw_kinds s m args below meth c H locs 0 0 Q (F0 m 107 ls [.int z0j107]) := by
              intro s_j107 z0j107 H locs h hP hD hS ls hl
              unfold wj_Cw_kinds_107 at h
              exact hret _ _ _ _ _ _ _ ls h hP hD hS (Nat.le_refl _) (Nat.le_refl _) d_Cw_kinds_107
            refine lv_if_ne (tgt := 93) G.1 G.2.1 d_Cw_kinds_86 (by decide) (fun c86 => ?_) (fun c86 => ?_)
            · skip
              have h := h.1 c86
              refine lv_sipush (v := 1000) G.1 G.2.1 d_Cw_kinds_93 (by decide) ?_
              refine lv_iload G.1 G.2.1 d_Cw_kinds_96 (lv_at hl 0 rfl) ?_
              refine lv_imul G.1 G.2.1 d_Cw_kinds_98 ?_
              refine lv_aload_n G.1 G.2.1 d_Cw_kinds_99 rfl (lv_at hl 1 rfl) ?_
              refine ugf (v := .ref (ad (lk a0 2))) G hP h_a0 iCw rfl 2 (by decide) rfl q1136 rfl rfl d_Cw_kinds_100 ?_
              refine W.eq (g2 := F0 m 103 ls [.ref (ad (lk a0 2)), .int (1000 * z0j75)]) rfl ?_
              refine ugf (v := .int (sV s_8 (lk a0 2) 0)) G hP (lk_11_2 h_a0) iCk rfl 0 (by decide) rfl q650 rfl rfl d_Cw_kinds_103 ?_
              refine lv_iadd G.1 G.2.1 d_Cw_kinds_106 ?_
              exact J_107 s_8 ((1000 * z0j75) + (sV s_8 (lk a0 2) 0)) H locs h hP hD hS ls (lv_sub hl [] rfl)
            · skip
              have h := h.2 c86
              refine lv_iconst (v := 0) G.1 G.2.1 d_Cw_kinds_89 (by decide) ?_
              refine lv_goto (tgt := 107) G.1 G.2.1 d_Cw_kinds_90 (by decide) ?_
              exact J_107 s_8 0 H locs h hP hD hS ls (lv_sub hl [] rfl)
          refine lv_if_eq (tgt := 60) G.1 G.2.1 d_Cw_kinds_43 (by decide) (fun c43 => ?_) (fun c43 => ?_)
          · skip
            have h := h.1 c43
            refine lv_aload_n G.1 G.2.1 d_Cw_kinds_60 rfl (lv_at hl 1 rfl) ?_
            refine W.eq (g2 := F0 m 61 ls [.ref (ad a0)]) rfl ?_
            refine ugf (v := .ref (ad (lk a0 2))) G hP h_a0 iCw rfl 2 (by decide) rfl q1136 rfl rfl d_Cw_kinds_61 ?_
            refine lv_aload G.1 G.2.1 d_Cw_kinds_64 (lv_at hl 0 rfl) ?_
            refine lv_iload_n G.1 G.2.1 d_Cw_kinds_66 rfl (lv_at hl 3 rfl) ?_
            refine lv_iload_n G.1 G.2.1 d_Cw_kinds_67 rfl (lv_at hl 4 rfl) ?_
            refine lv_iload_n G.1 G.2.1 d_Cw_kinds_68 rfl (lv_at hl 4 rfl) ?_
            refine lv_iconst (v := 1) G.1 G.2.1 d_Cw_kinds_69 (by decide) ?_
            refine lv_iadd G.1 G.2.1 d_Cw_kinds_70 ?_
            refine lv_iconst (v := 1) G.1 G.2.1 d_Cw_kinds_71 (by decide) ?_
            refine usVi (As := [.ref (ad r_1b), .int v2, .int v3, .int (v3 + 1), .int 1]) (rest := []) G hP hD hS (cu_Ck_check l D g F sl hF ad y _ s_6 (lk a0 2) r_1b v2 v3 (v3 + 1) 1 H.size (lk_11_2 h_a0) c_r_1b h) w9_Ck_check q2297 ⟨Nat.le_of_ble_eq_true rfl, Nat.le_of_ble_eq_true rfl⟩ rfl rfl (lk_11_2 h_a0) (q := (RCk, TCk, 22)) rfl rfl hl.1 rfl (Nat.le_of_ble_eq_true rfl) rfl ⟨Nat.le_refl _, Nat.le_refl _⟩ d_Cw_kinds_72 (fun r_9 s_10 H locs h hP hD hS => ?_)
            exact J_75 s_10 r_9 H locs h hP hD hS ls (lv_sub hl [1] rfl)
          · skip
            have h := h.2 c43
            refine lv_aload_n G.1 G.2.1 d_Cw_kinds_46 rfl (lv_at hl 1 rfl) ?_
            refine W.eq (g2 := F0 m 47 ls [.ref (ad a0)]) rfl ?_
            refine ugf (v := .ref (ad (lk a0 2))) G hP h_a0 iCw rfl 2 (by decide) rfl q1136 rfl rfl d_Cw_kinds_47 ?_
            refine lv_aload G.1 G.2.1 d_Cw_kinds_50 (lv_at hl 0 rfl) ?_
            refine lv_iload_n G.1 G.2.1 d_Cw_kinds_52 rfl (lv_at hl 3 rfl) ?_
            refine lv_iload_n G.1 G.2.1 d_Cw_kinds_53 rfl (lv_at hl 4 rfl) ?_
            refine usVi (As := [.ref (ad r_1b), .int v2, .int v3]) (rest := []) G hP hD hS (cu_Ck_infer l D g F sl hF ad y _ s_6 (lk a0 2) r_1b v2 v3 H.size (lk_11_2 h_a0) c_r_1b h) w9_Ck_infer q2271 ⟨Nat.le_of_ble_eq_true rfl, Nat.le_of_ble_eq_true rfl⟩ rfl rfl (lk_11_2 h_a0) (q := (RCk, TCk, 22)) rfl rfl hl.1 rfl (Nat.le_of_ble_eq_true rfl) rfl ⟨Nat.le_refl _, Nat.le_refl _⟩ d_Cw_kinds_54 (fun r_11 s_12 H locs h hP hD hS => ?_)
            refine lv_goto (tgt := 75) G.1 G.2.1 d_Cw_kinds_57 (by decide) ?_
            exact J_75 s_12 r_11 H locs h hP hD hS ls (lv_sub hl [1] rfl)
        · skip
          have h := h.2 c36
          exact J_39 s_6 H locs h hP hD hS ls (lv_sub hl [] rfl)
theorem q2318 : Cond.methodLink "ClassWorks$Finder" 186 y_Fi_find ∈ lw_ok := lw_okmem (List.mem_of_getElem? (i := 2318) (by decide +kernel)) rfl
theorem q2321 : Cond.code y_Fi_find b_Fi_find 9 (some .int) ∈ lw_ok := lw_okmem (List.mem_of_getElem? (i := 2321) (by decide +kernel)) rfl
theorem q2319 : Cond.instanceMethod y_Fi_find ∈ lw_ok := lw_okmem (List.mem_of_getElem? (i := 2319) (by decide +kernel)) rfl
theorem q2320 : Cond.selects y_Fi_find.cls y_Fi_find y_Fi_find ∈ lw_ok := lw_okmem (List.mem_of_getElem? (i := 2320) (by decide +kernel)) rfl
theorem w9_Fi_find : CWv y_Fi_find b_Fi_find 9 (some .int) 4 ∧ Cond.instanceMethod y_Fi_find ∈ lw_ok ∧ Cond.selects y_Fi_find.cls y_Fi_find y_Fi_find ∈ lw_ok := ⟨⟨q2321, q342, by decide +kernel, by decide +kernel, by decide +kernel⟩, q2319, q2320⟩
def y_Fi_findNow : MethodName := ⟨"ClassWorks$Finder", "findNow", "(LClassWorks$World;III)I"⟩
abbrev b_Fi_findNow : ByteArray := prog_3_method_12_code
theorem q2326 : Cond.methodLink "ClassWorks$Finder" 189 y_Fi_settle ∈ lw_ok := lw_okmem (List.mem_of_getElem? (i := 2326) (by decide +kernel)) rfl
theorem d_Fi_findNow_0 : decode b_Fi_findNow 0 = .ok (.aload_n 0, 1) := by decide +kernel
theorem d_Fi_findNow_1 : decode b_Fi_findNow 1 = .ok (.aload_n 1, 1) := by decide +kernel
theorem d_Fi_findNow_2 : decode b_Fi_findNow 2 = .ok (.iload_n 2, 1) := by decide +kernel
theorem d_Fi_findNow_3 : decode b_Fi_findNow 3 = .ok (.iload_n 3, 1) := by decide +kernel
theorem d_Fi_findNow_4 : decode b_Fi_findNow 4 = .ok (.iload 4, 2) := by decide +kernel
theorem d_Fi_findNow_6 : decode b_Fi_findNow 6 = .ok (.invokevirtual 186, 3) := by decide +kernel
theorem d_Fi_findNow_9 : decode b_Fi_findNow 9 = .ok (.istore 5, 2) := by decide +kernel
theorem d_Fi_findNow_11 : decode b_Fi_findNow 11 = .ok (.iload 5, 2) := by decide +kernel
theorem d_Fi_findNow_13 : decode b_Fi_findNow 13 = .ok (.iconst (-1), 1) := by decide +kernel
theorem d_Fi_findNow_14 : decode b_Fi_findNow 14 = .ok (.if_icmp .ne 24, 3) := by decide +kernel
theorem d_Fi_findNow_17 : decode b_Fi_findNow 17 = .ok (.aload_n 0, 1) := by decide +kernel
theorem d_Fi_findNow_18 : decode b_Fi_findNow 18 = .ok (.aload_n 1, 1) := by decide +kernel
theorem d_Fi_findNow_19 : decode b_Fi_findNow 19 = .ok (.aload_n 0, 1) := by decide +kernel
theorem d_Fi_findNow_20 : decode b_Fi_findNow 20 = .ok (.getfield 18, 3) := by decide +kernel
theorem d_Fi_findNow_23 : decode b_Fi_findNow 23 = .ok (.invokevirtual 189, 3) := by decide +kernel
theorem d_Fi_findNow_26 : decode b_Fi_findNow 26 = .ok (.pop, 1) := by decide +kernel
theorem d_Fi_findNow_27 : decode b_Fi_findNow 27 = .ok (.aload_n 0, 1) := by decide +kernel
theorem d_Fi_findNow_28 : decode b_Fi_findNow 28 = .ok (.aload_n 1, 1) := by decide +kernel
theorem d_Fi_findNow_29 : decode b_Fi_findNow 29 = .ok (.iload_n 2, 1) := by decide +kernel
theorem d_Fi_findNow_30 : decode b_Fi_findNow 30 = .ok (.iload_n 3, 1) := by decide +kernel
theorem d_Fi_findNow_31 : decode b_Fi_findNow 31 = .ok (.iload 4, 2) := by decide +kernel
theorem d_Fi_findNow_33 : decode b_Fi_findNow 33 = .ok (.invokevirtual 186, 3) := by decide +kernel
theorem d_Fi_findNow_36 : decode b_Fi_findNow 36 = .ok (.istore 5, 2) := by decide +kernel
theorem d_Fi_findNow_38 : decode b_Fi_findNow 38 = .ok (.iload 5, 2) := by decide +kernel
theorem d_Fi_findNow_40 : decode b_Fi_findNow 40 = .ok (.ireturn, 1) := by decide +kernel
abbrev ra_Fi_findNow (mc ms : Nat) : Room := { frames := 8, cells := mc, slots := ms, locals := 500 }
def wja_Fi_findNow_38 (mc ms : Nat) (Post : Ly → St → Int32 → Nat → Nat → Prop) (a0 : Nat) (a1 : Nat) (y_j38 : Ly) (s_j38 : St) (d_j38 e_j38 : Nat) (x5j38 : Int32) : Prop := (d_j38 ≤ mc ∧ e_j38 ≤ ms) ∧ Post y_j38 s_j38 x5j38 d_j38 e_j38
def wa_Fi_findNow (mc ms : Nat) (y : Ly) (Post : Ly → St → Int32 → Nat → Nat → Prop) (σ : St) (a0 : Nat) (a1 : Nat) (v2 : Int32) (v3 : Int32) (v4 : Int32) : Prop := wu_Fi_find y (fun (s_2 : St) (r_1 : Int32) => ((¬ r_1 = (-1) → wja_Fi_findNow_38 mc ms Post a0 a1 y s_2 0 0 r_1) ∧ (r_1 = (-1) → ∃ mc_8 ms_9 : Nat, (0 + mc_8 ≤ mc ∧ 0 + ms_9 ≤ ms) ∧ wa_Fi_settle mc_8 ms_9 y (fun (y_5 : Ly) (s_4 : St) (r_3 : Int32) (d_6 e_7 : Nat) => (0 + d_6 ≤ mc ∧ 0 + e_7 ≤ ms) ∧ wu_Fi_find y_5 (fun (s_12 : St) (r_11 : Int32) => wja_Fi_findNow_38 mc ms Post a0 a1 y_5 s_12 (0 + d_6) (0 + e_7) r_11) s_4 a0 a1 v2 v3 v4) s_2 a0 a1 (sV s_2 a0 2)))) σ a0 a1 v2 v3 v4
set_option maxHeartbeats 4000000 in
set_option maxRecDepth 100000 in
theorem ca_Fi_findNow (l : Launch) (D : va_G) (g : Nat → ClassId) (F : Nat → SL) (sl : List SL) (hF : SOK F sl) (ad : Nat → Nat) (mc ms : Nat) (y : Ly) (Post : Ly → St → Int32 → Nat → Nat → Prop) (σ : St) (a0 : Nat) (a1 : Nat) (v2 : Int32) (v3 : Int32) (v4 : Int32) (sz uz : Nat) (h_a0 : cl a0 = 1) (h_a1 : cl a1 = 9) (h : wa_Fi_findNow mc ms y Post σ a0 a1 v2 v3 v4) : Met l y_Fi_findNow (mw y_Fi_findNow b_Fi_findNow 6 (some .int)) (ra_Fi_findNow mc ms) (PCu g D sl [.ref (ad a0), .ref (ad a1), .int v2, .int v3, .int v4] sz uz (ws g ad y σ)) (va_Qi (fun (r : Int32) (u : Ly × St × Nat × Nat) => Post u.1 u.2.1 r u.2.2.1 u.2.2.2) (QU D (va_A (ws g ad y σ) sz) (fun u => ws g ad u.1 u.2.1) sz uz (fun u => u.2.2.1) (fun u => u.2.2.2)) (va_A (ws g ad y σ) sz)) mc ms (va_A (ws g ad y σ) sz) := by
  refine ofIu (by decide +kernel) (Nat.le_of_ble_eq_true rfl) ?_
  intro p e s m args below meth c A Q ls H locs G hsz hP hD hS hl hret
  subst hsz
  have hl : lv_has ls 6 [(0, .ref (ad a0)), (1, .ref (ad a1)), (2, .int v2), (3, .int v3), (4, .int v4)] := hl
  have hd : 0 ≤ mc ∧ 0 ≤ ms := ⟨Nat.zero_le _, Nat.zero_le _⟩
  unfold wa_Fi_findNow at h
  refine lv_aload_n G.1 G.2.1 d_Fi_findNow_0 rfl (lv_at hl 0 rfl) ?_
  refine lv_aload_n G.1 G.2.1 d_Fi_findNow_1 rfl (lv_at hl 1 rfl) ?_
  refine lv_iload_n G.1 G.2.1 d_Fi_findNow_2 rfl (lv_at hl 2 rfl) ?_
  refine lv_iload_n G.1 G.2.1 d_Fi_findNow_3 rfl (lv_at hl 3 rfl) ?_
  refine lv_iload G.1 G.2.1 d_Fi_findNow_4 (lv_at hl 4 rfl) ?_
  refine ucVi (As := [.ref (ad a1), .int v2, .int v3, .int v4]) (rest := []) G hP hD hS (cu_Fi_find l D g ad y _ σ a0 a1 v2 v3 v4 H.size h_a0 h_a1 h) w9_Fi_find q2318 ⟨Nat.le_of_ble_eq_true rfl, Nat.le_of_ble_eq_true rfl⟩ rfl rfl h_a0 (q := (RFi, TFi, 10)) rfl rfl hl.1 rfl (Nat.le_of_ble_eq_true rfl) rfl hd d_Fi_findNow_6 (fun r_1 s_2 H locs h hP hD hS => ?_)
  refine lv_istore (lv' := [(5, .int r_1), (0, .ref (ad a0)), (1, .ref (ad a1)), (2, .int v2), (3, .int v3), (4, .int v4)]) G.1 G.2.1 d_Fi_findNow_9 hl (by decide) rfl (fun ls hl => ?_)
  refine lv_iload G.1 G.2.1 d_Fi_findNow_11 (lv_at hl 0 rfl) ?_
  refine lv_iconst (v := (-1)) G.1 G.2.1 d_Fi_findNow_13 (by decide) ?_
  have J_38 : ∀ (y_j38 : Ly) (s_j38 : St) (d_j38 e_j38 : Nat) (x5j38 : Int32) (H : Heap) (locs : List Loc), wja_Fi_findNow_38 mc ms Post a0 a1 y_j38 s_j38 d_j38 e_j38 x5j38 → va_P D CL (ws g ad y_j38 s_j38) H → va_D A (ws g ad y_j38 s_j38) → va_S A s.heap H locs → ∀ ls, lv_has ls 6 [(5, .int x5j38)] → W p l e (ra_Fi_findNow mc ms) s m args below meth c H locs d_j38 e_j38 Q (F0 m 38 ls []) := by
    intro y_j38 s_j38 d_j38 e_j38 x5j38 H locs h hP hD hS ls hl
    unfold wja_Fi_findNow_38 at h
    obtain ⟨hd, h⟩ := h
    refine lv_iload G.1 G.2.1 d_Fi_findNow_38 (lv_at hl 0 rfl) ?_
    exact hret _ (y_j38, s_j38, d_j38, e_j38) _ _ _ _ _ ls h hP hD hS (Nat.le_refl _) (Nat.le_refl _) hd.1 hd.2 d_Fi_findNow_40
  refine lv_icmp_ne (tgt := 38) G.1 G.2.1 d_Fi_findNow_14 (by decide) (fun c14 => ?_) (fun c14 => ?_)
  · skip
    have h := h.1 c14
    exact J_38 y s_2 0 0 r_1 H locs h hP hD hS ls (lv_sub hl [0] rfl)
  · skip
    have h := h.2 c14
    refine lv_aload_n G.1 G.2.1 d_Fi_findNow_17 rfl (lv_at hl 1 rfl) ?_
    refine W.eq (g2 := F0 m 18 ls [.ref (ad a0)]) rfl ?_
    refine lv_aload_n G.1 G.2.1 d_Fi_findNow_18 rfl (lv_at hl 2 rfl) ?_
    refine lv_aload_n G.1 G.2.1 d_Fi_findNow_19 rfl (lv_at hl 1 rfl) ?_
    refine ugf (v := .int (sV s_2 a0 2)) G hP h_a0 iFi rfl 2 (by decide) rfl q732 rfl rfl d_Fi_findNow_20 ?_
    obtain ⟨mc_8, ms_9, hr_10, h⟩ := h
    refine utVi (As := [.ref (ad a1), .int (sV s_2 a0 2)]) (rest := []) G hP hD hS (ca_Fi_settle l D g F sl hF ad mc_8 ms_9 y _ s_2 a0 a1 (sV s_2 a0 2) H.size (us H) h_a0 h_a1 h) w9_Fi_settle q2326 ⟨Nat.le_of_ble_eq_true rfl, Nat.le_of_ble_eq_true rfl⟩ rfl rfl h_a0 (q := (RFi, TFi, 10)) rfl rfl hl.1 rfl (Nat.le_of_ble_eq_true rfl) rfl hr_10 d_Fi_findNow_23 (fun r_3 y_5 s_4 d_6 e_7 H locs h hP hD hS => ?_)
    have hl := lv_sub (l' := [(0, .ref (ad a0)), (1, .ref (ad a1)), (2, .int v2), (3, .int v3), (4, .int v4)]) hl [1, 2, 3, 4, 5] rfl
    obtain ⟨hd, h⟩ := h
    refine lv_pop G.1 G.2.1 d_Fi_findNow_26 rfl ?_
    refine lv_aload_n G.1 G.2.1 d_Fi_findNow_27 rfl (lv_at hl 0 rfl) ?_
    refine lv_aload_n G.1 G.2.1 d_Fi_findNow_28 rfl (lv_at hl 1 rfl) ?_
    refine lv_iload_n G.1 G.2.1 d_Fi_findNow_29 rfl (lv_at hl 2 rfl) ?_
    refine lv_iload_n G.1 G.2.1 d_Fi_findNow_30 rfl (lv_at hl 3 rfl) ?_
    refine lv_iload G.1 G.2.1 d_Fi_findNow_31 (lv_at hl 4 rfl) ?_
    refine ucVi (As := [.ref (ad a1), .int v2, .int v3, .int v4]) (rest := []) G hP hD hS (cu_Fi_find l D g ad y_5 _ s_4 a0 a1 v2 v3 v4 H.size h_a0 h_a1 h) w9_Fi_find q2318 ⟨Nat.le_of_ble_eq_true rfl, Nat.le_of_ble_eq_true rfl⟩ rfl rfl h_a0 (q := (RFi, TFi, 10)) rfl rfl hl.1 rfl (Nat.le_of_ble_eq_true rfl) rfl hd d_Fi_findNow_33 (fun r_11 s_12 H locs h hP hD hS => ?_)
    refine lv_istore (lv' := [(5, .int r_11), (0, .ref (ad a0)), (1, .ref (ad a1)), (2, .int v2), (3, .int v3), (4, .int v4)]) G.1 G.2.1 d_Fi_findNow_36 hl (by decide) rfl (fun ls hl => ?_)
    exact J_38 y_5 s_12 (0 + d_6) (0 + e_7) r_11 H locs h hP hD hS ls (lv_sub hl [0] rfl)
theorem q2314 : Cond.methodLink "ClassWorks" 379 y_Fi_findNow ∈ lw_ok := lw_okmem (List.mem_of_getElem? (i := 2314) (by decide +kernel)) rfl
theorem q2317 : Cond.code y_Fi_findNow b_Fi_findNow 6 (some .int) ∈ lw_ok := lw_okmem (List.mem_of_getElem? (i := 2317) (by decide +kernel)) rfl
theorem q2315 : Cond.instanceMethod y_Fi_findNow ∈ lw_ok := lw_okmem (List.mem_of_getElem? (i := 2315) (by decide +kernel)) rfl
theorem q2316 : Cond.selects y_Fi_findNow.cls y_Fi_findNow y_Fi_findNow ∈ lw_ok := lw_okmem (List.mem_of_getElem? (i := 2316) (by decide +kernel)) rfl
theorem w9_Fi_findNow : CWv y_Fi_findNow b_Fi_findNow 6 (some .int) 4 ∧ Cond.instanceMethod y_Fi_findNow ∈ lw_ok ∧ Cond.selects y_Fi_findNow.cls y_Fi_findNow y_Fi_findNow ∈ lw_ok := ⟨⟨q2317, q342, by decide +kernel, by decide +kernel, by decide +kernel⟩, q2315, q2316⟩
def y_Cw_foretell : MethodName := ⟨"ClassWorks", "foretell", "(IIII)I"⟩
abbrev b_Cw_foretell : ByteArray := prog_1_method_37_code
theorem d_Cw_foretell_0 : decode b_Cw_foretell 0 = .ok (.aload_n 0, 1) := by decide +kernel
theorem d_Cw_foretell_1 : decode b_Cw_foretell 1 = .ok (.iload_n 1, 1) := by decide +kernel
theorem d_Cw_foretell_2 : decode b_Cw_foretell 2 = .ok (.iload_n 2, 1) := by decide +kernel
theorem d_Cw_foretell_3 : decode b_Cw_foretell 3 = .ok (.invokevirtual 150, 3) := by decide +kernel
theorem d_Cw_foretell_6 : decode b_Cw_foretell 6 = .ok (.astore 5, 2) := by decide +kernel
theorem d_Cw_foretell_8 : decode b_Cw_foretell 8 = .ok (.aload 5, 2) := by decide +kernel
theorem d_Cw_foretell_10 : decode b_Cw_foretell 10 = .ok (.ifnull 18, 3) := by decide +kernel
theorem d_Cw_foretell_13 : decode b_Cw_foretell 13 = .ok (.iload_n 3, 1) := by decide +kernel
theorem d_Cw_foretell_14 : decode b_Cw_foretell 14 = .ok (.ifCond .lt 14, 3) := by decide +kernel
theorem d_Cw_foretell_17 : decode b_Cw_foretell 17 = .ok (.iload 4, 2) := by decide +kernel
theorem d_Cw_foretell_19 : decode b_Cw_foretell 19 = .ok (.ifCond .lt 9, 3) := by decide +kernel
theorem d_Cw_foretell_22 : decode b_Cw_foretell 22 = .ok (.iload 4, 2) := by decide +kernel
theorem d_Cw_foretell_24 : decode b_Cw_foretell 24 = .ok (.iconst 2, 1) := by decide +kernel
theorem d_Cw_foretell_25 : decode b_Cw_foretell 25 = .ok (.if_icmp .le 5, 3) := by decide +kernel
theorem d_Cw_foretell_28 : decode b_Cw_foretell 28 = .ok (.iconst (-1), 1) := by decide +kernel
theorem d_Cw_foretell_29 : decode b_Cw_foretell 29 = .ok (.ireturn, 1) := by decide +kernel
theorem d_Cw_foretell_30 : decode b_Cw_foretell 30 = .ok (.iconst 0, 1) := by decide +kernel
theorem d_Cw_foretell_31 : decode b_Cw_foretell 31 = .ok (.istore 6, 2) := by decide +kernel
theorem d_Cw_foretell_33 : decode b_Cw_foretell 33 = .ok (.iconst 0, 1) := by decide +kernel
theorem d_Cw_foretell_34 : decode b_Cw_foretell 34 = .ok (.istore 7, 2) := by decide +kernel
theorem d_Cw_foretell_36 : decode b_Cw_foretell 36 = .ok (.iload 7, 2) := by decide +kernel
theorem d_Cw_foretell_38 : decode b_Cw_foretell 38 = .ok (.aload 5, 2) := by decide +kernel
theorem d_Cw_foretell_40 : decode b_Cw_foretell 40 = .ok (.iload_n 2, 1) := by decide +kernel
theorem d_Cw_foretell_41 : decode b_Cw_foretell 41 = .ok (.bipush 11, 2) := by decide +kernel
theorem d_Cw_foretell_43 : decode b_Cw_foretell 43 = .ok (.invokevirtual 158, 3) := by decide +kernel
theorem d_Cw_foretell_46 : decode b_Cw_foretell 46 = .ok (.if_icmp .ge 101, 3) := by decide +kernel
theorem d_Cw_foretell_49 : decode b_Cw_foretell 49 = .ok (.iconst 0, 1) := by decide +kernel
theorem d_Cw_foretell_50 : decode b_Cw_foretell 50 = .ok (.istore 8, 2) := by decide +kernel
theorem d_Cw_foretell_52 : decode b_Cw_foretell 52 = .ok (.iload 8, 2) := by decide +kernel
theorem d_Cw_foretell_54 : decode b_Cw_foretell 54 = .ok (.aload 5, 2) := by decide +kernel
theorem d_Cw_foretell_56 : decode b_Cw_foretell 56 = .ok (.iload_n 2, 1) := by decide +kernel
theorem d_Cw_foretell_57 : decode b_Cw_foretell 57 = .ok (.iload 7, 2) := by decide +kernel
theorem d_Cw_foretell_59 : decode b_Cw_foretell 59 = .ok (.iconst 5, 1) := by decide +kernel
theorem d_Cw_foretell_60 : decode b_Cw_foretell 60 = .ok (.invokevirtual 176, 3) := by decide +kernel
theorem d_Cw_foretell_63 : decode b_Cw_foretell 63 = .ok (.if_icmp .ge 78, 3) := by decide +kernel
theorem d_Cw_foretell_66 : decode b_Cw_foretell 66 = .ok (.aload_n 0, 1) := by decide +kernel
theorem d_Cw_foretell_67 : decode b_Cw_foretell 67 = .ok (.getfield 97, 3) := by decide +kernel
theorem d_Cw_foretell_70 : decode b_Cw_foretell 70 = .ok (.aload 5, 2) := by decide +kernel
theorem d_Cw_foretell_72 : decode b_Cw_foretell 72 = .ok (.iload_n 2, 1) := by decide +kernel
theorem d_Cw_foretell_73 : decode b_Cw_foretell 73 = .ok (.iload 7, 2) := by decide +kernel
theorem d_Cw_foretell_75 : decode b_Cw_foretell 75 = .ok (.iload 8, 2) := by decide +kernel
theorem d_Cw_foretell_77 : decode b_Cw_foretell 77 = .ok (.invokevirtual 379, 3) := by decide +kernel
theorem d_Cw_foretell_80 : decode b_Cw_foretell 80 = .ok (.istore 9, 2) := by decide +kernel
theorem d_Cw_foretell_82 : decode b_Cw_foretell 82 = .ok (.iload 9, 2) := by decide +kernel
theorem d_Cw_foretell_84 : decode b_Cw_foretell 84 = .ok (.ifCond .eq 36, 3) := by decide +kernel
theorem d_Cw_foretell_87 : decode b_Cw_foretell 87 = .ok (.iload 6, 2) := by decide +kernel
theorem d_Cw_foretell_89 : decode b_Cw_foretell 89 = .ok (.iload_n 3, 1) := by decide +kernel
theorem d_Cw_foretell_90 : decode b_Cw_foretell 90 = .ok (.if_icmp .ne 30, 3) := by decide +kernel
theorem d_Cw_foretell_93 : decode b_Cw_foretell 93 = .ok (.iload 4, 2) := by decide +kernel
theorem d_Cw_foretell_95 : decode b_Cw_foretell 95 = .ok (.ifCond .ne 8, 3) := by decide +kernel
theorem d_Cw_foretell_98 : decode b_Cw_foretell 98 = .ok (.iload 7, 2) := by decide +kernel
theorem d_Cw_foretell_100 : decode b_Cw_foretell 100 = .ok (.goto 19, 3) := by decide +kernel
theorem d_Cw_foretell_103 : decode b_Cw_foretell 103 = .ok (.iload 4, 2) := by decide +kernel
theorem d_Cw_foretell_105 : decode b_Cw_foretell 105 = .ok (.iconst 1, 1) := by decide +kernel
theorem d_Cw_foretell_106 : decode b_Cw_foretell 106 = .ok (.if_icmp .ne 8, 3) := by decide +kernel
theorem d_Cw_foretell_109 : decode b_Cw_foretell 109 = .ok (.iload 8, 2) := by decide +kernel
theorem d_Cw_foretell_111 : decode b_Cw_foretell 111 = .ok (.goto 8, 3) := by decide +kernel
theorem d_Cw_foretell_114 : decode b_Cw_foretell 114 = .ok (.iload 9, 2) := by decide +kernel
theorem d_Cw_foretell_116 : decode b_Cw_foretell 116 = .ok (.bipush 100, 2) := by decide +kernel
theorem d_Cw_foretell_118 : decode b_Cw_foretell 118 = .ok (.idiv, 1) := by decide +kernel
theorem d_Cw_foretell_119 : decode b_Cw_foretell 119 = .ok (.ireturn, 1) := by decide +kernel
theorem d_Cw_foretell_120 : decode b_Cw_foretell 120 = .ok (.iload 6, 2) := by decide +kernel
theorem d_Cw_foretell_122 : decode b_Cw_foretell 122 = .ok (.iload 9, 2) := by decide +kernel
theorem d_Cw_foretell_124 : decode b_Cw_foretell 124 = .ok (.ifCond .ne 7, 3) := by decide +kernel
theorem d_Cw_foretell_127 : decode b_Cw_foretell 127 = .ok (.iconst 0, 1) := by decide +kernel
theorem d_Cw_foretell_128 : decode b_Cw_foretell 128 = .ok (.goto 4, 3) := by decide +kernel
theorem d_Cw_foretell_131 : decode b_Cw_foretell 131 = .ok (.iconst 1, 1) := by decide +kernel
theorem d_Cw_foretell_132 : decode b_Cw_foretell 132 = .ok (.iadd, 1) := by decide +kernel
theorem d_Cw_foretell_133 : decode b_Cw_foretell 133 = .ok (.istore 6, 2) := by decide +kernel
theorem d_Cw_foretell_135 : decode b_Cw_foretell 135 = .ok (.iinc 8 1, 3) := by decide +kernel
theorem d_Cw_foretell_138 : decode b_Cw_foretell 138 = .ok (.goto (-86), 3) := by decide +kernel
theorem d_Cw_foretell_141 : decode b_Cw_foretell 141 = .ok (.iinc 7 1, 3) := by decide +kernel
theorem d_Cw_foretell_144 : decode b_Cw_foretell 144 = .ok (.goto (-108), 3) := by decide +kernel
theorem d_Cw_foretell_147 : decode b_Cw_foretell 147 = .ok (.bipush (-2), 2) := by decide +kernel
theorem d_Cw_foretell_149 : decode b_Cw_foretell 149 = .ok (.ireturn, 1) := by decide +kernel
abbrev ra_Cw_foretell (mc ms : Nat) : Room := { frames := 9, cells := mc, slots := ms, locals := 525 }
def wja_Cw_foretell_28 (mc ms : Nat) (Post : Ly → St → Int32 → Nat → Nat → Prop) (a0 : Nat) (y_j28 : Ly) (s_j28 : St) (d_j28 e_j28 : Nat) : Prop := (d_j28 ≤ mc ∧ e_j28 ≤ ms) ∧ Post y_j28 s_j28 (-1) d_j28 e_j28
def wja_Cw_foretell_132 (mc ms : Nat) (Post : Ly → St → Int32 → Nat → Nat → Prop) (K_36 : Ly → St → Nat → Nat → Int32 → Int32 → Int32 → Nat → Int32 → Int32 → Prop) (K_52 : Ly → St → Nat → Nat → Int32 → Int32 → Int32 → Nat → Int32 → Int32 → Int32 → Prop) (a0 : Nat) (y_j132 : Ly) (s_j132 : St) (d_j132 e_j132 : Nat) (x2j132 : Int32) (x3j132 : Int32) (x4j132 : Int32) (x5j132 : Nat) (x7j132 : Int32) (x8j132 : Int32) (z0j132 : Int32) (z1j132 : Int32) : Prop := (d_j132 ≤ mc ∧ e_j132 ≤ ms) ∧ cl x5j132 = 9 ∧ K_52 y_j132 s_j132 d_j132 e_j132 x2j132 x3j132 x4j132 x5j132 (z0j132 + z1j132) x7j132 (x8j132 + 1)
def wja_Cw_foretell_120 (mc ms : Nat) (Post : Ly → St → Int32 → Nat → Nat → Prop) (K_36 : Ly → St → Nat → Nat → Int32 → Int32 → Int32 → Nat → Int32 → Int32 → Prop) (K_52 : Ly → St → Nat → Nat → Int32 → Int32 → Int32 → Nat → Int32 → Int32 → Int32 → Prop) (a0 : Nat) (y_j120 : Ly) (s_j120 : St) (d_j120 e_j120 : Nat) (x2j120 : Int32) (x3j120 : Int32) (x4j120 : Int32) (x5j120 : Nat) (x6j120 : Int32) (x7j120 : Int32) (x8j120 : Int32) (x9j120 : Int32) : Prop := (d_j120 ≤ mc ∧ e_j120 ≤ ms) ∧ cl x5j120 = 9 ∧ ((¬ x9j120 = 0 → wja_Cw_foretell_132 mc ms Post K_36 K_52 a0 y_j120 s_j120 d_j120 e_j120 x2j120 x3j120 x4j120 x5j120 x7j120 x8j120 x6j120 1) ∧ (x9j120 = 0 → wja_Cw_foretell_132 mc ms Post K_36 K_52 a0 y_j120 s_j120 d_j120 e_j120 x2j120 x3j120 x4j120 x5j120 x7j120 x8j120 x6j120 0))
def wja_Cw_foretell_119 (mc ms : Nat) (Post : Ly → St → Int32 → Nat → Nat → Prop) (a0 : Nat) (y_j119 : Ly) (s_j119 : St) (d_j119 e_j119 : Nat) (z0j119 : Int32) : Prop := (d_j119 ≤ mc ∧ e_j119 ≤ ms) ∧ Post y_j119 s_j119 z0j119 d_j119 e_j119
def wba_Cw_foretell_52 (mc ms : Nat) (Post : Ly → St → Int32 → Nat → Nat → Prop) (K_36 : Ly → St → Nat → Nat → Int32 → Int32 → Int32 → Nat → Int32 → Int32 → Prop) (K_52 : Ly → St → Nat → Nat → Int32 → Int32 → Int32 → Nat → Int32 → Int32 → Int32 → Prop) (a0 : Nat) (y_h52 : Ly) (s_h52 : St) (d_h52 e_h52 : Nat) (x2h52 : Int32) (x3h52 : Int32) (x4h52 : Int32) (x5h52 : Nat) (x6h52 : Int32) (x7h52 : Int32) (x8h52 : Int32) : Prop := (d_h52 ≤ mc ∧ e_h52 ≤ ms) ∧ cl x5h52 = 9 ∧ wu_Wd_method y_h52 (fun (s_6 : St) (r_5 : Int32) => ((r_5 ≤ x8h52 → K_36 y_h52 s_6 d_h52 e_h52 x2h52 x3h52 x4h52 x5h52 x6h52 (x7h52 + 1)) ∧ (¬ (r_5 ≤ x8h52) → ∃ mc_12 ms_13 : Nat, (d_h52 + mc_12 ≤ mc ∧ e_h52 + ms_13 ≤ ms) ∧ wa_Fi_findNow mc_12 ms_13 y_h52 (fun (y_9 : Ly) (s_8 : St) (r_7 : Int32) (d_10 e_11 : Nat) => (d_h52 + d_10 ≤ mc ∧ e_h52 + e_11 ≤ ms) ∧ ((r_7 = 0 → wja_Cw_foretell_120 mc ms Post K_36 K_52 a0 y_9 s_8 (d_h52 + d_10) (e_h52 + e_11) x2h52 x3h52 x4h52 x5h52 x6h52 x7h52 x8h52 r_7) ∧ (¬ (r_7 = 0) → ((¬ x6h52 = x3h52 → wja_Cw_foretell_120 mc ms Post K_36 K_52 a0 y_9 s_8 (d_h52 + d_10) (e_h52 + e_11) x2h52 x3h52 x4h52 x5h52 x6h52 x7h52 x8h52 r_7) ∧ (x6h52 = x3h52 → ((¬ x4h52 = 0 → ((¬ x4h52 = 1 → wja_Cw_foretell_119 mc ms Post a0 y_9 s_8 (d_h52 + d_10) (e_h52 + e_11) (r_7 / 100)) ∧ (x4h52 = 1 → wja_Cw_foretell_119 mc ms Post a0 y_9 s_8 (d_h52 + d_10) (e_h52 + e_11) x8h52))) ∧ (x4h52 = 0 → wja_Cw_foretell_119 mc ms Post a0 y_9 s_8 (d_h52 + d_10) (e_h52 + e_11) x7h52))))))) s_6 (lk a0 3) x5h52 x2h52 x7h52 x8h52))) s_h52 x5h52 x2h52 x7h52 5
def wla_Cw_foretell_52 (mc ms : Nat) (Post : Ly → St → Int32 → Nat → Nat → Prop) (K_36 : Ly → St → Nat → Nat → Int32 → Int32 → Int32 → Nat → Int32 → Int32 → Prop) (a0 : Nat) (y_h52 : Ly) (s_h52 : St) (d_h52 e_h52 : Nat) (x2h52 : Int32) (x3h52 : Int32) (x4h52 : Int32) (x5h52 : Nat) (x6h52 : Int32) (x7h52 : Int32) (x8h52 : Int32) : Prop := ∃ (I : Ly → St → Nat → Nat → Int32 → Int32 → Int32 → Nat → Int32 → Int32 → Int32 → Prop) (μ : Ly → St → Nat → Nat → Int32 → Int32 → Int32 → Nat → Int32 → Int32 → Int32 → Nat), I y_h52 s_h52 d_h52 e_h52 x2h52 x3h52 x4h52 x5h52 x6h52 x7h52 x8h52 ∧ ∀ (u1 : Ly) (u2 : St) (u3 u4 : Nat) (t0 : Int32) (t1 : Int32) (t2 : Int32) (t3 : Nat) (t4 : Int32) (t5 : Int32) (t6 : Int32), I u1 u2 u3 u4 t0 t1 t2 t3 t4 t5 t6 → wba_Cw_foretell_52 mc ms Post K_36 (fun z1 z2 z3 z4 t0q t1q t2q t3q t4q t5q t6q => I z1 z2 z3 z4 t0q t1q t2q t3q t4q t5q t6q ∧ μ z1 z2 z3 z4 t0q t1q t2q t3q t4q t5q t6q < μ u1 u2 u3 u4 t0 t1 t2 t3 t4 t5 t6) a0 u1 u2 u3 u4 t0 t1 t2 t3 t4 t5 t6
def wba_Cw_foretell_36 (mc ms : Nat) (Post : Ly → St → Int32 → Nat → Nat → Prop) (K_36 : Ly → St → Nat → Nat → Int32 → Int32 → Int32 → Nat → Int32 → Int32 → Prop) (a0 : Nat) (y_h36 : Ly) (s_h36 : St) (d_h36 e_h36 : Nat) (x2h36 : Int32) (x3h36 : Int32) (x4h36 : Int32) (x5h36 : Nat) (x6h36 : Int32) (x7h36 : Int32) : Prop := (d_h36 ≤ mc ∧ e_h36 ≤ ms) ∧ cl x5h36 = 9 ∧ wu_Wd_of y_h36 (fun (s_4 : St) (r_3 : Int32) => ((r_3 ≤ x7h36 → Post y_h36 s_4 (-2) d_h36 e_h36) ∧ (¬ (r_3 ≤ x7h36) → wla_Cw_foretell_52 mc ms Post K_36 a0 y_h36 s_4 d_h36 e_h36 x2h36 x3h36 x4h36 x5h36 x6h36 x7h36 0))) s_h36 x5h36 x2h36 11
def wla_Cw_foretell_36 (mc ms : Nat) (Post : Ly → St → Int32 → Nat → Nat → Prop) (a0 : Nat) (y_h36 : Ly) (s_h36 : St) (d_h36 e_h36 : Nat) (x2h36 : Int32) (x3h36 : Int32) (x4h36 : Int32) (x5h36 : Nat) (x6h36 : Int32) (x7h36 : Int32) : Prop := ∃ (I : Ly → St → Nat → Nat → Int32 → Int32 → Int32 → Nat → Int32 → Int32 → Prop) (μ : Ly → St → Nat → Nat → Int32 → Int32 → Int32 → Nat → Int32 → Int32 → Nat), I y_h36 s_h36 d_h36 e_h36 x2h36 x3h36 x4h36 x5h36 x6h36 x7h36 ∧ ∀ (u1 : Ly) (u2 : St) (u3 u4 : Nat) (t0 : Int32) (t1 : Int32) (t2 : Int32) (t3 : Nat) (t4 : Int32) (t5 : Int32), I u1 u2 u3 u4 t0 t1 t2 t3 t4 t5 → wba_Cw_foretell_36 mc ms Post (fun z1 z2 z3 z4 t0q t1q t2q t3q t4q t5q => I z1 z2 z3 z4 t0q t1q t2q t3q t4q t5q ∧ μ z1 z2 z3 z4 t0q t1q t2q t3q t4q t5q < μ u1 u2 u3 u4 t0 t1 t2 t3 t4 t5) a0 u1 u2 u3 u4 t0 t1 t2 t3 t4 t5
def wa_Cw_foretell (mc ms : Nat) (y : Ly) (Post : Ly → St → Int32 → Nat → Nat → Prop) (σ : St) (a0 : Nat) (v1 : Int32) (v2 : Int32) (v3 : Int32) (v4 : Int32) : Prop := wu_Cw_worldWith y (fun (s_2 : St) (r_1 : Option Nat) => ((r_1 = none → wja_Cw_foretell_28 mc ms Post a0 y s_2 0 0) ∧ (∀ r_1b : Nat, r_1 = some r_1b → (cl r_1b = 9 ∧ ((v3 < 0 → wja_Cw_foretell_28 mc ms Post a0 y s_2 0 0) ∧ (¬ (v3 < 0) → ((v4 < 0 → wja_Cw_foretell_28 mc ms Post a0 y s_2 0 0) ∧ (¬ (v4 < 0) → ((v4 ≤ 2 → wla_Cw_foretell_36 mc ms Post a0 y s_2 0 0 v2 v3 v4 r_1b 0 0) ∧ (¬ (v4 ≤ 2) → wja_Cw_foretell_28 mc ms Post a0 y s_2 0 0)))))))))) σ a0 v1 v2
set_option maxHeartbeats 4000000 in
set_option maxRecDepth 100000 in
theorem ca_Cw_foretell (l : Launch) (D : va_G) (g : Nat → ClassId) (F : Nat → SL) (sl : List SL) (hF : SOK F sl) (ad : Nat → Nat) (mc ms : Nat) (y : Ly) (Post : Ly → St → Int32 → Nat → Nat → Prop) (σ : St) (a0 : Nat) (v1 : Int32) (v2 : Int32) (v3 : Int32) (v4 : Int32) (sz uz : Nat) (h_a0 : cl a0 = 11) (h : wa_Cw_foretell mc ms y Post σ a0 v1 v2 v3 v4) : Met l y_Cw_foretell (mw y_Cw_foretell b_Cw_foretell 10 (some .int)) (ra_Cw_foretell mc ms) (PCu g D sl [.ref (ad a0), .int v1, .int v2, .int v3, .int v4] sz uz (ws g ad y σ)) (va_Qi (fun (r : Int32) (u : Ly × St × Nat × Nat) => Post u.1 u.2.1 r u.2.2.1 u.2.2.2) (QU D (va_A (ws g ad y σ) sz) (fun u => ws g ad u.1 u.2.1) sz uz (fun u => u.2.2.1) (fun u => u.2.2.2)) (va_A (ws g ad y σ) sz)) mc ms (va_A (ws g ad y σ) sz) := by
  refine ofIu (by decide +kernel) (Nat.le_of_ble_eq_true rfl) ?_
  intro p e s m args below meth c A Q ls H locs G hsz hP hD hS hl hret
  subst hsz
  have hl : lv_has ls 10 [(0, .ref (ad a0)), (1, .int v1), (2, .int v2), (3, .int v3), (4, .int v4)] := hl
  have hd : 0 ≤ mc ∧ 0 ≤ ms := ⟨Nat.zero_le _, Nat.zero_le _⟩
  unfold wa_Cw_foretell at h
  refine lv_aload_n G.1 G.2.1 d_Cw_foretell_0 rfl (lv_at hl 0 rfl) ?_
  refine lv_iload_n G.1 G.2.1 d_Cw_foretell_1 rfl (lv_at hl 1 rfl) ?_
  refine lv_iload_n G.1 G.2.1 d_Cw_foretell_2 rfl (lv_at hl 2 rfl) ?_
  refine ucVq (As := [.int v1, .int v2]) (rest := []) G hP hD hS (cu_Cw_worldWith l D g ad y _ σ a0 v1 v2 H.size h_a0 h) w9_Cw_worldWith q1481 ⟨Nat.le_of_ble_eq_true rfl, Nat.le_of_ble_eq_true rfl⟩ rfl rfl h_a0 (q := (RCw, TCw, 20)) rfl rfl hl.1 rfl (Nat.le_of_ble_eq_true rfl) rfl hd d_Cw_foretell_3 (fun r_1 s_2 H locs h hP hD hS => ?_)
  rcases r_1 with _ | r_1b
  · skip
    have h := h.1 rfl
    show W p l e (ra_Cw_foretell mc ms) s m args below meth c H locs 0 0 Q (F0 m 6 ls [.null])
    refine lv_astoreN (lv' := [(5, .null), (0, .ref (ad a0)), (1, .int v1), (2, .int v2), (3, .int v3), (4, .int v4)]) G.1 G.2.1 d_Cw_foretell_6 hl (by decide) rfl (fun ls hl => ?_)
    refine lv_aloadN G.1 G.2.1 d_Cw_foretell_8 (lv_at hl 0 rfl) ?_
    have J_28 : ∀ (y_j28 : Ly) (s_j28 : St) (d_j28 e_j28 : Nat) (H : Heap) (locs : List Loc), wja_Cw_foretell_28 mc ms Post a0 y_j28 s_j28 d_j28 e_j28 → va_P D CL (ws g ad y_j28 s_j28) H → va_D A (ws g ad y_j28 s_j28) → va_S A s.heap H locs → ∀ ls, lv_has ls 10 [] → W p l e (ra_Cw_foretell mc ms) s m args below meth c H locs d_j28 e_j28 Q (F0 m 28 ls []) := by
      intro y_j28 s_j28 d_j28 e_j28 H locs h hP hD hS ls hl
      unfold wja_Cw_foretell_28 at h
      obtain ⟨hd, h⟩ := h
      refine lv_iconst (v := (-1)) G.1 G.2.1 d_Cw_foretell_28 (by decide) ?_
      exact hret _ (y_j28, s_j28, d_j28, e_j28) _ _ _ _ _ ls h hP hD hS (Nat.le_refl _) (Nat.le_refl _) hd.1 hd.2 d_Cw_foretell_29
    refine lv_ifnullN (tgt := 28) G.1 G.2.1 d_Cw_foretell_10 (by decide) ?_
    exact J_28 y s_2 0 0 H locs h hP hD hS ls (lv_sub hl [] rfl)
  · skip
    obtain ⟨c_r_1b, h⟩ := h.2 _ rfl
    show W p l e (ra_Cw_foretell mc ms) s m args below meth c H locs 0 0 Q (F0 m 6 ls [.ref (ad r_1b)])
    refine lv_astore (lv' := [(5, .ref (ad r_1b)), (0, .ref (ad a0)), (1, .int v1), (2, .int v2), (3, .int v3), (4, .int v4)]) G.1 G.2.1 d_Cw_foretell_6 hl (by decide) rfl (fun ls hl => ?_)
    refine lv_aload G.1 G.2.1 d_Cw_foretell_8 (lv_at hl 0 rfl) ?_
    have J_28 : ∀ (y_j28 : Ly) (s_j28 : St) (d_j28 e_j28 : Nat) (H : Heap) (locs : List Loc), wja_Cw_foretell_28 mc ms Post a0 y_j28 s_j28 d_j28 e_j28 → va_P D CL (ws g ad y_j28 s_j28) H → va_D A (ws g ad y_j28 s_j28) → va_S A s.heap H locs → ∀ ls, lv_has ls 10 [] → W p l e (ra_Cw_foretell mc ms) s m args below meth c H locs d_j28 e_j28 Q (F0 m 28 ls []) := by
      intro y_j28 s_j28 d_j28 e_j28 H locs h hP hD hS ls hl
      unfold wja_Cw_foretell_28 at h
      obtain ⟨hd, h⟩ := h
      refine lv_iconst (v := (-1)) G.1 G.2.1 d_Cw_foretell_28 (by decide) ?_
      exact hret _ (y_j28, s_j28, d_j28, e_j28) _ _ _ _ _ ls h hP hD hS (Nat.le_refl _) (Nat.le_refl _) hd.1 hd.2 d_Cw_foretell_29
    refine lv_ifnull G.1 G.2.1 d_Cw_foretell_10 ?_
    refine lv_iload_n G.1 G.2.1 d_Cw_foretell_13 rfl (lv_at hl 4 rfl) ?_
    refine lv_if_lt (tgt := 28) G.1 G.2.1 d_Cw_foretell_14 (by decide) (fun c14 => ?_) (fun c14 => ?_)
    · skip
      have h := h.1 c14
      exact J_28 y s_2 0 0 H locs h hP hD hS ls (lv_sub hl [] rfl)
    · skip
      have h := h.2 c14
      refine lv_iload G.1 G.2.1 d_Cw_foretell_17 (lv_at hl 5 rfl) ?_
      refine lv_if_lt (tgt := 28) G.1 G.2.1 d_Cw_foretell_19 (by decide) (fun c19 => ?_) (fun c19 => ?_)
      · skip
        have h := h.1 c19
        exact J_28 y s_2 0 0 H locs h hP hD hS ls (lv_sub hl [] rfl)
      · skip
        have h := h.2 c19
        refine W.eq (g2 := F0 m 22 ls []) rfl ?_
        refine lv_iload G.1 G.2.1 d_Cw_foretell_22 (lv_at hl 5 rfl) ?_
        refine lv_iconst (v := 2) G.1 G.2.1 d_Cw_foretell_24 (by decide) ?_
        refine lv_icmp_le (tgt := 30) G.1 G.2.1 d_Cw_foretell_25 (by decide) (fun c25 => ?_) (fun c25 => ?_)
        · skip
          have h := h.1 c25
          refine lv_iconst (v := 0) G.1 G.2.1 d_Cw_foretell_30 (by decide) ?_
          refine lv_istore (lv' := [(6, .int 0), (5, .ref (ad r_1b)), (0, .ref (ad a0)), (1, .int v1), (2, .int v2), (3, .int v3), (4, .int v4)]) G.1 G.2.1 d_Cw_foretell_31 hl (by decide) rfl (fun ls hl => ?_)
          refine lv_iconst (v := 0) G.1 G.2.1 d_Cw_foretell_33 (by decide) ?_
          refine lv_istore (lv' := [(7, .int 0), (6, .int 0), (5, .ref (ad r_1b)), (0, .ref (ad a0)), (1, .int v1), (2, .int v2), (3, .int v3), (4, .int v4)]) G.1 G.2.1 d_Cw_foretell_34 hl (by decide) rfl (fun ls hl => ?_)
          unfold wla_Cw_foretell_36 at h
          obtain ⟨I_36, μ_36, hI_36, hB_36⟩ := h
          have L_36 : ∀ (n_36 : Nat) (y_h36 : Ly) (s_h36 : St) (d_h36 e_h36 : Nat) (x2h36 : Int32) (x3h36 : Int32) (x4h36 : Int32) (x5h36 : Nat) (x6h36 : Int32) (x7h36 : Int32), μ_36 y_h36 s_h36 d_h36 e_h36 x2h36 x3h36 x4h36 x5h36 x6h36 x7h36 < n_36 → I_36 y_h36 s_h36 d_h36 e_h36 x2h36 x3h36 x4h36 x5h36 x6h36 x7h36 → ∀ (H : Heap) (locs : List Loc), va_P D CL (ws g ad y_h36 s_h36) H → va_D A (ws g ad y_h36 s_h36) → va_S A s.heap H locs → ∀ ls, lv_has ls 10 [(0, .ref (ad a0)), (2, .int x2h36), (3, .int x3h36), (4, .int x4h36), (5, .ref (ad x5h36)), (6, .int x6h36), (7, .int x7h36)] → W p l e (ra_Cw_foretell mc ms) s m args below meth c H locs d_h36 e_h36 Q (F0 m 36 ls []) := by
            intro n_36
            induction n_36 with
            | zero => intro y_h36 s_h36 d_h36 e_h36 x2h36 x3h36 x4h36 x5h36 x6h36 x7h36 hμ; exact absurd hμ (Nat.not_lt_zero _)
            | succ n_36 ih_36 =>
              intro y_h36 s_h36 d_h36 e_h36 x2h36 x3h36 x4h36 x5h36 x6h36 x7h36 hμ_36 hJ H locs hP hD hS ls hl
              obtain ⟨K_36, hK_36, h⟩ : ∃ K : Ly → St → Nat → Nat → Int32 → Int32 → Int32 → Nat → Int32 → Int32 → Prop, (∀ z1 z2 z3 z4 (t0 : Int32) (t1 : Int32) (t2 : Int32) (t3 : Nat) (t4 : Int32) (t5 : Int32), K z1 z2 z3 z4 t0 t1 t2 t3 t4 t5 → I_36 z1 z2 z3 z4 t0 t1 t2 t3 t4 t5 ∧ μ_36 z1 z2 z3 z4 t0 t1 t2 t3 t4 t5 < μ_36 y_h36 s_h36 d_h36 e_h36 x2h36 x3h36 x4h36 x5h36 x6h36 x7h36) ∧ wba_Cw_foretell_36 mc ms Post K a0 y_h36 s_h36 d_h36 e_h36 x2h36 x3h36 x4h36 x5h36 x6h36 x7h36 := ⟨_, fun _ _ _ _ _ _ _ _ _ _ h => h, hB_36 y_h36 s_h36 d_h36 e_h36 x2h36 x3h36 x4h36 x5h36 x6h36 x7h36 hJ⟩
              unfold wba_Cw_foretell_36 at h
              obtain ⟨hd, h⟩ := h
              obtain ⟨c_x5h36, h⟩ := h
              refine lv_iload G.1 G.2.1 d_Cw_foretell_36 (lv_at hl 6 rfl) ?_
              refine lv_aload G.1 G.2.1 d_Cw_foretell_38 (lv_at hl 4 rfl) ?_
              refine lv_iload_n G.1 G.2.1 d_Cw_foretell_40 rfl (lv_at hl 1 rfl) ?_
              refine lv_bipush (v := 11) G.1 G.2.1 d_Cw_foretell_41 (by decide) ?_
              refine ucVi (As := [.int x2h36, .int 11]) (rest := [.int x7h36]) G hP hD hS (cu_Wd_of l D g ad y_h36 _ s_h36 x5h36 x2h36 11 H.size c_x5h36 h) w9_Wd_of q1493 ⟨Nat.le_of_ble_eq_true rfl, Nat.le_of_ble_eq_true rfl⟩ rfl rfl c_x5h36 (q := (RWd, TWd, 17)) rfl rfl hl.1 rfl (Nat.le_of_ble_eq_true rfl) rfl hd d_Cw_foretell_43 (fun r_3 s_4 H locs h hP hD hS => ?_)
              refine lv_icmp_ge (tgt := 147) G.1 G.2.1 d_Cw_foretell_46 (by decide) (fun c46 => ?_) (fun c46 => ?_)
              · skip
                have h := h.1 c46
                refine lv_bipush (v := (-2)) G.1 G.2.1 d_Cw_foretell_147 (by decide) ?_
                exact hret _ (y_h36, s_4, d_h36, e_h36) _ _ _ _ _ ls h hP hD hS (Nat.le_refl _) (Nat.le_refl _) hd.1 hd.2 d_Cw_foretell_149
              · skip
                have h := h.2 c46
                refine lv_iconst (v := 0) G.1 G.2.1 d_Cw_foretell_49 (by decide) ?_
                refine lv_istore (lv' := [(8, .int 0), (0, .ref (ad a0)), (2, .int x2h36), (3, .int x3h36), (4, .int x4h36), (5, .ref (ad x5h36)), (6, .int x6h36), (7, .int x7h36)]) G.1 G.2.1 d_Cw_foretell_50 hl (by decide) rfl (fun ls hl => ?_)
                unfold wla_Cw_foretell_52 at h
                obtain ⟨I_52, μ_52, hI_52, hB_52⟩ := h
                have L_52 : ∀ (n_52 : Nat) (y_h52 : Ly) (s_h52 : St) (d_h52 e_h52 : Nat) (x2h52 : Int32) (x3h52 : Int32) (x4h52 : Int32) (x5h52 : Nat) (x6h52 : Int32) (x7h52 : Int32) (x8h52 : Int32), μ_52 y_h52 s_h52 d_h52 e_h52 x2h52 x3h52 x4h52 x5h52 x6h52 x7h52 x8h52 < n_52 → I_52 y_h52 s_h52 d_h52 e_h52 x2h52 x3h52 x4h52 x5h52 x6h52 x7h52 x8h52 → ∀ (H : Heap) (locs : List Loc), va_P D CL (ws g ad y_h52 s_h52) H → va_D A (ws g ad y_h52 s_h52) → va_S A s.heap H locs → ∀ ls, lv_has ls 10 [(0, .ref (ad a0)), (2, .int x2h52), (3, .int x3h52), (4, .int x4h52), (5, .ref (ad x5h52)), (6, .int x6h52), (7, .int x7h52), (8, .int x8h52)] → W p l e (ra_Cw_foretell mc ms) s m args below meth c H locs d_h52 e_h52 Q (F0 m 52 ls []) := by
                  intro n_52
                  induction n_52 with
                  | zero => intro y_h52 s_h52 d_h52 e_h52 x2h52 x3h52 x4h52 x5h52 x6h52 x7h52 x8h52 hμ; exact absurd hμ (Nat.not_lt_zero _)
                  | succ n_52 ih_52 =>
                    intro y_h52 s_h52 d_h52 e_h52 x2h52 x3h52 x4h52 x5h52 x6h52 x7h52 x8h52 hμ_52 hJ H locs hP hD hS ls hl
                    obtain ⟨K_52, hK_52, h⟩ : ∃ K : Ly → St → Nat → Nat → Int32 → Int32 → Int32 → Nat → Int32 → Int32 → Int32 → Prop, (∀ z1 z2 z3 z4 (t0 : Int32) (t1 : Int32) (t2 : Int32) (t3 : Nat) (t4 : Int32) (t5 : Int32) (t6 : Int32), K z1 z2 z3 z4 t0 t1 t2 t3 t4 t5 t6 → I_52 z1 z2 z3 z4 t0 t1 t2 t3 t4 t5 t6 ∧ μ_52 z1 z2 z3 z4 t0 t1 t2 t3 t4 t5 t6 < μ_52 y_h52 s_h52 d_h52 e_h52 x2h52 x3h52 x4h52 x5h52 x6h52 x7h52 x8h52) ∧ wba_Cw_foretell_52 mc ms Post K_36 K a0 y_h52 s_h52 d_h52 e_h52 x2h52 x3h52 x4h52 x5h52 x6h52 x7h52 x8h52 := ⟨_, fun _ _ _ _ _ _ _ _ _ _ _ h => h, hB_52 y_h52 s_h52 d_h52 e_h52 x2h52 x3h52 x4h52 x5h52 x6h52 x7h52 x8h52 hJ⟩
                    unfold wba_Cw_foretell_52 at h
                    obtain ⟨hd, h⟩ := h
                    obtain ⟨c_x5h52, h⟩ := h
                    refine lv_iload G.1 G.2.1 d_Cw_foretell_52 (lv_at hl 7 rfl) ?_
                    refine lv_aload G.1 G.2.1 d_Cw_foretell_54 (lv_at hl 4 rfl) ?_
                    refine lv_iload_n G.1 G.2.1 d_Cw_foretell_56 rfl (lv_at hl 1 rfl) ?_
                    refine lv_iload G.1 G.2.1 d_Cw_foretell_57 (lv_at hl 6 rfl) ?_
                    refine lv_iconst (v := 5) G.1 G.2.1 d_Cw_foretell_59 (by decide) ?_
                    refine ucVi (As := [.int x2h52, .int x7h52, .int 5]) (rest := [.int x8h52]) G hP hD hS (cu_Wd_method l D g ad y_h52 _ s_h52 x5h52 x2h52 x7h52 5 H.size c_x5h52 h) w9_Wd_method q1510 ⟨Nat.le_of_ble_eq_true rfl, Nat.le_of_ble_eq_true rfl⟩ rfl rfl c_x5h52 (q := (RWd, TWd, 17)) rfl rfl hl.1 rfl (Nat.le_of_ble_eq_true rfl) rfl hd d_Cw_foretell_60 (fun r_5 s_6 H locs h hP hD hS => ?_)
                    refine lv_icmp_ge (tgt := 141) G.1 G.2.1 d_Cw_foretell_63 (by decide) (fun c63 => ?_) (fun c63 => ?_)
                    · skip
                      have h := h.1 c63
                      refine lv_iinc (v := x7h52 + 1) (lv' := [(7, .int (x7h52 + 1)), (0, .ref (ad a0)), (2, .int x2h52), (3, .int x3h52), (4, .int x4h52), (5, .ref (ad x5h52)), (6, .int x6h52), (8, .int x8h52)]) G.1 G.2.1 d_Cw_foretell_141 hl (k := 6) rfl rfl (by decide) rfl (fun ls hl => ?_)
                      refine lv_goto (tgt := 36) G.1 G.2.1 d_Cw_foretell_144 (by decide) ?_
                      have h := hK_36 y_h52 s_6 d_h52 e_h52 x2h52 x3h52 x4h52 x5h52 x6h52 (x7h52 + 1) h
                      exact ih_36 y_h52 s_6 d_h52 e_h52 x2h52 x3h52 x4h52 x5h52 x6h52 (x7h52 + 1) (Nat.lt_of_lt_of_le h.2 (Nat.le_of_lt_succ hμ_36)) h.1 H locs hP hD hS ls (lv_sub hl [1, 2, 3, 4, 5, 6, 0] rfl)
                    · skip
                      have h := h.2 c63
                      refine lv_aload_n G.1 G.2.1 d_Cw_foretell_66 rfl (lv_at hl 0 rfl) ?_
                      refine ugf (v := .ref (ad (lk a0 3))) G hP h_a0 iCw rfl 3 (by decide) rfl q1137 rfl rfl d_Cw_foretell_67 ?_
                      refine lv_aload G.1 G.2.1 d_Cw_foretell_70 (lv_at hl 4 rfl) ?_
                      refine lv_iload_n G.1 G.2.1 d_Cw_foretell_72 rfl (lv_at hl 1 rfl) ?_
                      refine W.eq (g2 := F0 m 73 ls [.int x2h52, .ref (ad x5h52), .ref (ad (lk a0 3))]) rfl ?_
                      refine lv_iload G.1 G.2.1 d_Cw_foretell_73 (lv_at hl 6 rfl) ?_
                      refine lv_iload G.1 G.2.1 d_Cw_foretell_75 (lv_at hl 7 rfl) ?_
                      obtain ⟨mc_12, ms_13, hr_14, h⟩ := h
                      refine utVi (As := [.ref (ad x5h52), .int x2h52, .int x7h52, .int x8h52]) (rest := []) G hP hD hS (ca_Fi_findNow l D g F sl hF ad mc_12 ms_13 y_h52 _ s_6 (lk a0 3) x5h52 x2h52 x7h52 x8h52 H.size (us H) (lk_11_3 h_a0) c_x5h52 h) w9_Fi_findNow q2314 ⟨Nat.le_of_ble_eq_true rfl, Nat.le_of_ble_eq_true rfl⟩ rfl rfl (lk_11_3 h_a0) (q := (RFi, TFi, 10)) rfl rfl hl.1 rfl (Nat.le_of_ble_eq_true rfl) rfl hr_14 d_Cw_foretell_77 (fun r_7 y_9 s_8 d_10 e_11 H locs h hP hD hS => ?_)
                      obtain ⟨hd, h⟩ := h
                      refine lv_istore (lv' := [(9, .int r_7), (0, .ref (ad a0)), (2, .int x2h52), (3, .int x3h52), (4, .int x4h52), (5, .ref (ad x5h52)), (6, .int x6h52), (7, .int x7h52), (8, .int x8h52)]) G.1 G.2.1 d_Cw_foretell_80 hl (by decide) rfl (fun ls hl => ?_)
                      refine lv_iload G.1 G.2.1 d_Cw_foretell_82 (lv_at hl 0 rfl) ?_
                      have J_120 : ∀ (y_j120 : Ly) (s_j120 : St) (d_j120 e_j120 : Nat) (x2j120 : Int32) (x3j120 : Int32) (x4j120 : Int32) (x5j120 : Nat) (x6j120 : Int32) (x7j120 : Int32) (x8j120 : Int32) (x9j120 : Int32) (H : Heap) (locs : List Loc), wja_Cw_foretell_120 mc ms Post K_36 K_52 a0 y_j120 s_j120 d_j120 e_j120 x2j120 x3j120 x4j120 x5j120 x6j120 x7j120 x8j120 x9j120 → va_P D CL (ws g ad y_j120 s_j120) H → va_D A (ws g ad y_j120 s_j120) → va_S A s.heap H locs → ∀ ls, lv_has ls 10 [(0, .ref (ad a0)), (2, .int x2j120), (3, .int x3j120), (4, .int x4j120), (5, .ref (ad x5j120)), (6, .int x6j120), (7, .int x7j120), (8, .int x8j120), (9, .int x9j120)] → W p l e (ra_Cw_foretell mc ms) s m args below meth c H locs d_j120 e_j120 Q (F0 m 120 ls []) := by
                        intro y_j120 s_j120 d_j120 e_j120 x2j120 x3j120 x4j120 x5j120 x6j120 x7j120 x8j120 x9j120 H locs h hP hD hS ls hl
                        unfold wja_Cw_foretell_120 at h
                        obtain ⟨hd, h⟩ := h
                        obtain ⟨c_x5j120, h⟩ := h
                        refine lv_iload G.1 G.2.1 d_Cw_foretell_120 (lv_at hl 5 rfl) ?_
                        refine lv_iload G.1 G.2.1 d_Cw_foretell_122 (lv_at hl 8 rfl) ?_
                        have J_132 : ∀ (y_j132 : Ly) (s_j132 : St) (d_j132 e_j132 : Nat) (x2j132 : Int32) (x3j132 : Int32) (x4j132 : Int32) (x5j132 : Nat) (x7j132 : Int32) (x8j132 : Int32) (z0j132 : Int32) (z1j132 : Int32) (H : Heap) (locs : List Loc), wja_Cw_foretell_132 mc ms Post K_36 K_52 a0 y_j132 s_j132 d_j132 e_j132 x2j132 x3j132 x4j132 x5j132 x7j132 x8j132 z0j132 z1j132 → va_P D CL (ws g ad y_j132 s_j132) H → va_D A (ws g ad y_j132 s_j132) → va_S A s.heap H locs → ∀ ls, lv_has ls 10 [(0, .ref (ad a0)), (2, .int x2j132), (3, .int x3j132), (4, .int x4j132), (5, .ref (ad x5j132)), (7, .int x7j132), (8, .int x8j132)] → W p l e (ra_Cw_foretell mc ms) s m args below meth c H locs d_j132 e_j132 Q (F0 m 132 ls [.int z1j132, .int z0j132]) := by
                          intro y_j132 s_j132 d_j132 e_j132 x2j132 x3j132 x4j132 x5j132 x7j132 x8j132 z0j132 z1j132 H locs h hP hD hS ls hl
                          unfold wja_Cw_foretell_132 at h
                          obtain ⟨hd, h⟩ := h
                          obtain ⟨c_x5j132, h⟩ := h
                          refine lv_iadd G.1 G.2.1 d_Cw_foretell_132 ?_
                          refine lv_istore (lv' := [(6, .int (z0j132 + z1j132)), (0, .ref (ad a0)), (2, .int x2j132), (3, .int x3j132), (4, .int x4j132), (5, .ref (ad x5j132)), (7, .int x7j132), (8, .int x8j132)]) G.1 G.2.1 d_Cw_foretell_133 hl (by decide) rfl (fun ls hl => ?_)
                          refine lv_iinc (v := x8j132 + 1) (lv' := [(8, .int (x8j132 + 1)), (6, .int (z0j132 + z1j132)), (0, .ref (ad a0)), (2, .int x2j132), (3, .int x3j132), (4, .int x4j132), (5, .ref (ad x5j132)), (7, .int x7j132)]) G.1 G.2.1 d_Cw_foretell_135 hl (k := 7) rfl rfl (by decide) rfl (fun ls hl => ?_)
                          refine lv_goto (tgt := 52) G.1 G.2.1 d_Cw_foretell_138 (by decide) ?_
                          have h := hK_52 y_j132 s_j132 d_j132 e_j132 x2j132 x3j132 x4j132 x5j132 (z0j132 + z1j132) x7j132 (x8j132 + 1) h
                          exact ih_52 y_j132 s_j132 d_j132 e_j132 x2j132 x3j132 x4j132 x5j132 (z0j132 + z1j132) x7j132 (x8j132 + 1) (Nat.lt_of_lt_of_le h.2 (Nat.le_of_lt_succ hμ_52)) h.1 H locs hP hD hS ls (lv_sub hl [2, 3, 4, 5, 6, 1, 7, 0] rfl)
                        refine lv_if_ne (tgt := 131) G.1 G.2.1 d_Cw_foretell_124 (by decide) (fun c124 => ?_) (fun c124 => ?_)
                        · skip
                          have h := h.1 c124
                          refine lv_iconst (v := 1) G.1 G.2.1 d_Cw_foretell_131 (by decide) ?_
                          exact J_132 y_j120 s_j120 d_j120 e_j120 x2j120 x3j120 x4j120 x5j120 x7j120 x8j120 x6j120 1 H locs h hP hD hS ls (lv_sub hl [0, 1, 2, 3, 4, 6, 7] rfl)
                        · skip
                          have h := h.2 c124
                          refine lv_iconst (v := 0) G.1 G.2.1 d_Cw_foretell_127 (by decide) ?_
                          refine lv_goto (tgt := 132) G.1 G.2.1 d_Cw_foretell_128 (by decide) ?_
                          exact J_132 y_j120 s_j120 d_j120 e_j120 x2j120 x3j120 x4j120 x5j120 x7j120 x8j120 x6j120 0 H locs h hP hD hS ls (lv_sub hl [0, 1, 2, 3, 4, 6, 7] rfl)
                      refine lv_if_eq (tgt := 120) G.1 G.2.1 d_Cw_foretell_84 (by decide) (fun c84 => ?_) (fun c84 => ?_)
                      · skip
                        have h := h.1 c84
                        exact J_120 y_9 s_8 (d_h52 + d_10) (e_h52 + e_11) x2h52 x3h52 x4h52 x5h52 x6h52 x7h52 x8h52 r_7 H locs h hP hD hS ls (lv_sub hl [1, 2, 3, 4, 5, 6, 7, 8, 0] rfl)
                      · skip
                        have h := h.2 c84
                        refine lv_iload G.1 G.2.1 d_Cw_foretell_87 (lv_at hl 6 rfl) ?_
                        refine lv_iload_n G.1 G.2.1 d_Cw_foretell_89 rfl (lv_at hl 3 rfl) ?_
                        refine lv_icmp_ne (tgt := 120) G.1 G.2.1 d_Cw_foretell_90 (by decide) (fun c90 => ?_) (fun c90 => ?_)
                        · skip
                          have h := h.1 c90
                          exact J_120 y_9 s_8 (d_h52 + d_10) (e_h52 + e_11) x2h52 x3h52 x4h52 x5h52 x6h52 x7h52 x8h52 r_7 H locs h hP hD hS ls (lv_sub hl [1, 2, 3, 4, 5, 6, 7, 8, 0] rfl)
                        · skip
                          have h := h.2 c90
                          refine lv_iload G.1 G.2.1 d_Cw_foretell_93 (lv_at hl 4 rfl) ?_
                          have J_119 : ∀ (y_j119 : Ly) (s_j119 : St) (d_j119 e_j119 : Nat) (z0j119 : Int32) (H : Heap) (locs : List Loc), wja_Cw_foretell_119 mc ms Post a0 y_j119 s_j119 d_j119 e_j119 z0j119 → va_P D CL (ws g ad y_j119 s_j119) H → va_D A (ws g ad y_j119 s_j119) → va_S A s.heap H locs → ∀ ls, lv_has ls 10 [] → W p l e (ra_Cw_foretell mc ms) s m args below meth c H locs d_j119 e_j119 Q (F0 m 119 ls [.int z0j119]) := by
                            intro y_j119 s_j119 d_j119 e_j119 z0j119 H locs h hP hD hS ls hl
                            unfold wja_Cw_foretell_119 at h
                            obtain ⟨hd, h⟩ := h
                            exact hret _ (y_j119, s_j119, d_j119, e_j119) _ _ _ _ _ ls h hP hD hS (Nat.le_refl _) (Nat.le_refl _) hd.1 hd.2 d_Cw_foretell_119
                          refine lv_if_ne (tgt := 103) G.1 G.2.1 d_Cw_foretell_95 (by decide) (fun c95 => ?_) (fun c95 => ?_)
                          · skip
                            have h := h.1 c95
                            refine lv_iload G.1 G.2.1 d_Cw_foretell_103 (lv_at hl 4 rfl) ?_
                            refine W.eq (g2 := F0 m 105 ls [.int x4h52]) rfl ?_
                            refine lv_iconst (v := 1) G.1 G.2.1 d_Cw_foretell_105 (by decide) ?_
                            refine lv_icmp_ne (tgt := 114) G.1 G.2.1 d_Cw_foretell_106 (by decide) (fun c106 => ?_) (fun c106 => ?_)
                            · skip
                              have h := h.1 c106
                              refine lv_iload G.1 G.2.1 d_Cw_foretell_114 (lv_at hl 0 rfl) ?_
                              refine lv_bipush (v := 100) G.1 G.2.1 d_Cw_foretell_116 (by decide) ?_
                              refine lv_idiv G.1 G.2.1 d_Cw_foretell_118 (by decide) ?_
                              exact J_119 y_9 s_8 (d_h52 + d_10) (e_h52 + e_11) (r_7 / 100) H locs h hP hD hS ls (lv_sub hl [] rfl)
                            · skip
                              have h := h.2 c106
                              refine lv_iload G.1 G.2.1 d_Cw_foretell_109 (lv_at hl 8 rfl) ?_
                              refine lv_goto (tgt := 119) G.1 G.2.1 d_Cw_foretell_111 (by decide) ?_
                              exact J_119 y_9 s_8 (d_h52 + d_10) (e_h52 + e_11) x8h52 H locs h hP hD hS ls (lv_sub hl [] rfl)
                          · skip
                            have h := h.2 c95
                            refine lv_iload G.1 G.2.1 d_Cw_foretell_98 (lv_at hl 7 rfl) ?_
                            refine W.eq (g2 := F0 m 100 ls [.int x7h52]) rfl ?_
                            refine lv_goto (tgt := 119) G.1 G.2.1 d_Cw_foretell_100 (by decide) ?_
                            exact J_119 y_9 s_8 (d_h52 + d_10) (e_h52 + e_11) x7h52 H locs h hP hD hS ls (lv_sub hl [] rfl)
                exact L_52 _ y_h36 s_4 d_h36 e_h36 x2h36 x3h36 x4h36 x5h36 x6h36 x7h36 0 (Nat.lt_succ_self _) hI_52 H locs hP hD hS ls (lv_sub hl [1, 2, 3, 4, 5, 6, 7, 0] rfl)
          exact L_36 _ y s_2 0 0 v2 v3 v4 r_1b 0 0 (Nat.lt_succ_self _) hI_36 H locs hP hD hS ls (lv_sub hl [3, 5, 6, 7, 2, 1, 0] rfl)
        · skip
          have h := h.2 c25
          exact J_28 y s_2 0 0 H locs h hP hD hS ls (lv_sub hl [] rfl)
theorem q2336 : Cond.methodLink "ClassWorks$Finder" 216 y_Fi_select ∈ lw_ok := lw_okmem (List.mem_of_getElem? (i := 2336) (by decide +kernel)) rfl
theorem q2339 : Cond.code y_Fi_select b_Fi_select 5 (some .int) ∈ lw_ok := lw_okmem (List.mem_of_getElem? (i := 2339) (by decide +kernel)) rfl
theorem q2338 : Cond.instanceMethod y_Fi_select ∈ lw_ok := lw_okmem (List.mem_of_getElem? (i := 2338) (by decide +kernel)) rfl
theorem q145 : Cond.selects y_Fi_select.cls y_Fi_select y_Fi_select ∈ lw_ok := lw_okmem (List.mem_of_getElem? (i := 145) (by decide +kernel)) rfl
theorem w9_Fi_select : CWv y_Fi_select b_Fi_select 5 (some .int) 3 ∧ Cond.instanceMethod y_Fi_select ∈ lw_ok ∧ Cond.selects y_Fi_select.cls y_Fi_select y_Fi_select ∈ lw_ok := ⟨⟨q2339, q342, by decide +kernel, by decide +kernel, by decide +kernel⟩, q2338, q145⟩
def y_Fi_ask : MethodName := ⟨"ClassWorks$Finder", "ask", "(LClassWorks$World;III)I"⟩
abbrev b_Fi_ask : ByteArray := prog_3_method_22_code
theorem d_Fi_ask_0 : decode b_Fi_ask 0 = .ok (.aload_n 0, 1) := by decide +kernel
theorem d_Fi_ask_1 : decode b_Fi_ask 1 = .ok (.aload_n 1, 1) := by decide +kernel
theorem d_Fi_ask_2 : decode b_Fi_ask 2 = .ok (.bipush (-2), 2) := by decide +kernel
theorem d_Fi_ask_4 : decode b_Fi_ask 4 = .ok (.bipush 50, 2) := by decide +kernel
theorem d_Fi_ask_6 : decode b_Fi_ask 6 = .ok (.iload_n 2, 1) := by decide +kernel
theorem d_Fi_ask_7 : decode b_Fi_ask 7 = .ok (.iload_n 3, 1) := by decide +kernel
theorem d_Fi_ask_8 : decode b_Fi_ask 8 = .ok (.invokevirtual 182, 3) := by decide +kernel
theorem d_Fi_ask_11 : decode b_Fi_ask 11 = .ok (.istore 5, 2) := by decide +kernel
theorem d_Fi_ask_13 : decode b_Fi_ask 13 = .ok (.iload 5, 2) := by decide +kernel
theorem d_Fi_ask_15 : decode b_Fi_ask 15 = .ok (.iconst (-1), 1) := by decide +kernel
theorem d_Fi_ask_16 : decode b_Fi_ask 16 = .ok (.if_icmp .ne 26, 3) := by decide +kernel
theorem d_Fi_ask_19 : decode b_Fi_ask 19 = .ok (.aload_n 0, 1) := by decide +kernel
theorem d_Fi_ask_20 : decode b_Fi_ask 20 = .ok (.aload_n 1, 1) := by decide +kernel
theorem d_Fi_ask_21 : decode b_Fi_ask 21 = .ok (.aload_n 0, 1) := by decide +kernel
theorem d_Fi_ask_22 : decode b_Fi_ask 22 = .ok (.getfield 18, 3) := by decide +kernel
theorem d_Fi_ask_25 : decode b_Fi_ask 25 = .ok (.invokevirtual 189, 3) := by decide +kernel
theorem d_Fi_ask_28 : decode b_Fi_ask 28 = .ok (.pop, 1) := by decide +kernel
theorem d_Fi_ask_29 : decode b_Fi_ask 29 = .ok (.aload_n 0, 1) := by decide +kernel
theorem d_Fi_ask_30 : decode b_Fi_ask 30 = .ok (.aload_n 1, 1) := by decide +kernel
theorem d_Fi_ask_31 : decode b_Fi_ask 31 = .ok (.bipush (-2), 2) := by decide +kernel
theorem d_Fi_ask_33 : decode b_Fi_ask 33 = .ok (.bipush 50, 2) := by decide +kernel
theorem d_Fi_ask_35 : decode b_Fi_ask 35 = .ok (.iload_n 2, 1) := by decide +kernel
theorem d_Fi_ask_36 : decode b_Fi_ask 36 = .ok (.iload_n 3, 1) := by decide +kernel
theorem d_Fi_ask_37 : decode b_Fi_ask 37 = .ok (.invokevirtual 182, 3) := by decide +kernel
theorem d_Fi_ask_40 : decode b_Fi_ask 40 = .ok (.istore 5, 2) := by decide +kernel
theorem d_Fi_ask_42 : decode b_Fi_ask 42 = .ok (.iload 5, 2) := by decide +kernel
theorem d_Fi_ask_44 : decode b_Fi_ask 44 = .ok (.ifCond .eq 6, 3) := by decide +kernel
theorem d_Fi_ask_47 : decode b_Fi_ask 47 = .ok (.iload 5, 2) := by decide +kernel
theorem d_Fi_ask_49 : decode b_Fi_ask 49 = .ok (.ireturn, 1) := by decide +kernel
theorem d_Fi_ask_50 : decode b_Fi_ask 50 = .ok (.aload_n 0, 1) := by decide +kernel
theorem d_Fi_ask_51 : decode b_Fi_ask 51 = .ok (.aload_n 1, 1) := by decide +kernel
theorem d_Fi_ask_52 : decode b_Fi_ask 52 = .ok (.iload 4, 2) := by decide +kernel
theorem d_Fi_ask_54 : decode b_Fi_ask 54 = .ok (.invokevirtual 189, 3) := by decide +kernel
theorem d_Fi_ask_57 : decode b_Fi_ask 57 = .ok (.istore 5, 2) := by decide +kernel
theorem d_Fi_ask_59 : decode b_Fi_ask 59 = .ok (.iload 5, 2) := by decide +kernel
theorem d_Fi_ask_61 : decode b_Fi_ask 61 = .ok (.ifCond .ne 12, 3) := by decide +kernel
theorem d_Fi_ask_64 : decode b_Fi_ask 64 = .ok (.aload_n 0, 1) := by decide +kernel
theorem d_Fi_ask_65 : decode b_Fi_ask 65 = .ok (.aload_n 1, 1) := by decide +kernel
theorem d_Fi_ask_66 : decode b_Fi_ask 66 = .ok (.iconst 4, 1) := by decide +kernel
theorem d_Fi_ask_67 : decode b_Fi_ask 67 = .ok (.invokevirtual 213, 3) := by decide +kernel
theorem d_Fi_ask_70 : decode b_Fi_ask 70 = .ok (.ifCond .eq 8, 3) := by decide +kernel
theorem d_Fi_ask_73 : decode b_Fi_ask 73 = .ok (.iload 5, 2) := by decide +kernel
theorem d_Fi_ask_75 : decode b_Fi_ask 75 = .ok (.goto 11, 3) := by decide +kernel
theorem d_Fi_ask_78 : decode b_Fi_ask 78 = .ok (.aload_n 0, 1) := by decide +kernel
theorem d_Fi_ask_79 : decode b_Fi_ask 79 = .ok (.aload_n 1, 1) := by decide +kernel
theorem d_Fi_ask_80 : decode b_Fi_ask 80 = .ok (.iload 4, 2) := by decide +kernel
theorem d_Fi_ask_82 : decode b_Fi_ask 82 = .ok (.iload_n 3, 1) := by decide +kernel
theorem d_Fi_ask_83 : decode b_Fi_ask 83 = .ok (.invokevirtual 216, 3) := by decide +kernel
theorem d_Fi_ask_86 : decode b_Fi_ask 86 = .ok (.ireturn, 1) := by decide +kernel
abbrev ra_Fi_ask (mc ms : Nat) : Room := { frames := 8, cells := mc, slots := ms, locals := 500 }
def wja_Fi_ask_86 (mc ms : Nat) (Post : Ly → St → Int32 → Nat → Nat → Prop) (a0 : Nat) (a1 : Nat) (y_j86 : Ly) (s_j86 : St) (d_j86 e_j86 : Nat) (z0j86 : Int32) : Prop := (d_j86 ≤ mc ∧ e_j86 ≤ ms) ∧ Post y_j86 s_j86 z0j86 d_j86 e_j86
def wja_Fi_ask_73 (mc ms : Nat) (Post : Ly → St → Int32 → Nat → Nat → Prop) (a0 : Nat) (a1 : Nat) (y_j73 : Ly) (s_j73 : St) (d_j73 e_j73 : Nat) (x5j73 : Int32) : Prop := (d_j73 ≤ mc ∧ e_j73 ≤ ms) ∧ wja_Fi_ask_86 mc ms Post a0 a1 y_j73 s_j73 d_j73 e_j73 x5j73
def wja_Fi_ask_42 (mc ms : Nat) (Post : Ly → St → Int32 → Nat → Nat → Prop) (a0 : Nat) (a1 : Nat) (y_j42 : Ly) (s_j42 : St) (d_j42 e_j42 : Nat) (x3j42 : Int32) (x4j42 : Int32) (x5j42 : Int32) : Prop := (d_j42 ≤ mc ∧ e_j42 ≤ ms) ∧ ((x5j42 = 0 → ∃ mc_8 ms_9 : Nat, (d_j42 + mc_8 ≤ mc ∧ e_j42 + ms_9 ≤ ms) ∧ wa_Fi_settle mc_8 ms_9 y_j42 (fun (y_5 : Ly) (s_4 : St) (r_3 : Int32) (d_6 e_7 : Nat) => (d_j42 + d_6 ≤ mc ∧ e_j42 + e_7 ≤ ms) ∧ ((¬ r_3 = 0 → wja_Fi_ask_73 mc ms Post a0 a1 y_5 s_4 (d_j42 + d_6) (e_j42 + e_7) r_3) ∧ (r_3 = 0 → wu_Fi_isFound y_5 (fun (s_12 : St) (r_11 : Int32) => ((r_11 = 0 → wu_Fi_select y_5 (fun (s_14 : St) (r_13 : Int32) => wja_Fi_ask_86 mc ms Post a0 a1 y_5 s_14 (d_j42 + d_6) (e_j42 + e_7) r_13) s_12 a0 a1 x4j42 x3j42) ∧ (¬ (r_11 = 0) → wja_Fi_ask_73 mc ms Post a0 a1 y_5 s_12 (d_j42 + d_6) (e_j42 + e_7) r_3))) s_4 a0 a1 4))) s_j42 a0 a1 x4j42) ∧ (¬ (x5j42 = 0) → Post y_j42 s_j42 x5j42 d_j42 e_j42))
def wa_Fi_ask (mc ms : Nat) (y : Ly) (Post : Ly → St → Int32 → Nat → Nat → Prop) (σ : St) (a0 : Nat) (a1 : Nat) (v2 : Int32) (v3 : Int32) (v4 : Int32) : Prop := wu_Fi_findMethod y (fun (s_2 : St) (r_1 : Int32) => ((¬ r_1 = (-1) → wja_Fi_ask_42 mc ms Post a0 a1 y s_2 0 0 v3 v4 r_1) ∧ (r_1 = (-1) → ∃ mc_20 ms_21 : Nat, (0 + mc_20 ≤ mc ∧ 0 + ms_21 ≤ ms) ∧ wa_Fi_settle mc_20 ms_21 y (fun (y_17 : Ly) (s_16 : St) (r_15 : Int32) (d_18 e_19 : Nat) => (0 + d_18 ≤ mc ∧ 0 + e_19 ≤ ms) ∧ wu_Fi_findMethod y_17 (fun (s_24 : St) (r_23 : Int32) => wja_Fi_ask_42 mc ms Post a0 a1 y_17 s_24 (0 + d_18) (0 + e_19) v3 v4 r_23) s_16 a0 a1 (-2) 50 v2 v3) s_2 a0 a1 (sV s_2 a0 2)))) σ a0 a1 (-2) 50 v2 v3
set_option maxHeartbeats 4000000 in
set_option maxRecDepth 100000 in
theorem ca_Fi_ask (l : Launch) (D : va_G) (g : Nat → ClassId) (F : Nat → SL) (sl : List SL) (hF : SOK F sl) (ad : Nat → Nat) (mc ms : Nat) (y : Ly) (Post : Ly → St → Int32 → Nat → Nat → Prop) (σ : St) (a0 : Nat) (a1 : Nat) (v2 : Int32) (v3 : Int32) (v4 : Int32) (sz uz : Nat) (h_a0 : cl a0 = 1) (h_a1 : cl a1 = 9) (h : wa_Fi_ask mc ms y Post σ a0 a1 v2 v3 v4) : Met l y_Fi_ask (mw y_Fi_ask b_Fi_ask 6 (some .int)) (ra_Fi_ask mc ms) (PCu g D sl [.ref (ad a0), .ref (ad a1), .int v2, .int v3, .int v4] sz uz (ws g ad y σ)) (va_Qi (fun (r : Int32) (u : Ly × St × Nat × Nat) => Post u.1 u.2.1 r u.2.2.1 u.2.2.2) (QU D (va_A (ws g ad y σ) sz) (fun u => ws g ad u.1 u.2.1) sz uz (fun u => u.2.2.1) (fun u => u.2.2.2)) (va_A (ws g ad y σ) sz)) mc ms (va_A (ws g ad y σ) sz) := by
  refine ofIu (by decide +kernel) (Nat.le_of_ble_eq_true rfl) ?_
  intro p e s m args below meth c A Q ls H locs G hsz hP hD hS hl hret
  subst hsz
  have hl : lv_has ls 6 [(0, .ref (ad a0)), (1, .ref (ad a1)), (2, .int v2), (3, .int v3), (4, .int v4)] := hl
  have hd : 0 ≤ mc ∧ 0 ≤ ms := ⟨Nat.zero_le _, Nat.zero_le _⟩
  unfold wa_Fi_ask at h
  refine lv_aload_n G.1 G.2.1 d_Fi_ask_0 rfl (lv_at hl 0 rfl) ?_
  refine lv_aload_n G.1 G.2.1 d_Fi_ask_1 rfl (lv_at hl 1 rfl) ?_
  refine lv_bipush (v := (-2)) G.1 G.2.1 d_Fi_ask_2 (by decide) ?_
  refine lv_bipush (v := 50) G.1 G.2.1 d_Fi_ask_4 (by decide) ?_
  refine lv_iload_n G.1 G.2.1 d_Fi_ask_6 rfl (lv_at hl 2 rfl) ?_
  refine lv_iload_n G.1 G.2.1 d_Fi_ask_7 rfl (lv_at hl 3 rfl) ?_
  refine ucVi (As := [.ref (ad a1), .int (-2), .int 50, .int v2, .int v3]) (rest := []) G hP hD hS (cu_Fi_findMethod l D g ad y _ σ a0 a1 (-2) 50 v2 v3 H.size h_a0 h_a1 h) w9_Fi_findMethod q2325 ⟨Nat.le_of_ble_eq_true rfl, Nat.le_of_ble_eq_true rfl⟩ rfl rfl h_a0 (q := (RFi, TFi, 10)) rfl rfl hl.1 rfl (Nat.le_of_ble_eq_true rfl) rfl hd d_Fi_ask_8 (fun r_1 s_2 H locs h hP hD hS => ?_)
  refine lv_istore (lv' := [(5, .int r_1), (0, .ref (ad a0)), (1, .ref (ad a1)), (2, .int v2), (3, .int v3), (4, .int v4)]) G.1 G.2.1 d_Fi_ask_11 hl (by decide) rfl (fun ls hl => ?_)
  refine lv_iload G.1 G.2.1 d_Fi_ask_13 (lv_at hl 0 rfl) ?_
  refine lv_iconst (v := (-1)) G.1 G.2.1 d_Fi_ask_15 (by decide) ?_
  have J_42 : ∀ (y_j42 : Ly) (s_j42 : St) (d_j42 e_j42 : Nat) (x3j42 : Int32) (x4j42 : Int32) (x5j42 : Int32) (H : Heap) (locs : List Loc), wja_Fi_ask_42 mc ms Post a0 a1 y_j42 s_j42 d_j42 e_j42 x3j42 x4j42 x5j42 → va_P D CL (ws g ad y_j42 s_j42) H → va_D A (ws g ad y_j42 s_j42) → va_S A s.heap H locs → ∀ ls, lv_has ls 6 [(0, .ref (ad a0)), (1, .ref (ad a1)), (3, .int x3j42), (4, .int x4j42), (5, .int x5j42)] → W p l e (ra_Fi_ask mc ms) s m args below meth c H locs d_j42 e_j42 Q (F0 m 42 ls []) := by
    intro y_j42 s_j42 d_j42 e_j42 x3j42 x4j42 x5j42 H locs h hP hD hS ls hl
    unfold wja_Fi_ask_42 at h
    obtain ⟨hd, h⟩ := h
    refine lv_iload G.1 G.2.1 d_Fi_ask_42 (lv_at hl 4 rfl) ?_
    refine lv_if_eq (tgt := 50) G.1 G.2.1 d_Fi_ask_44 (by decide) (fun c44 => ?_) (fun c44 => ?_)
    · skip
      have h := h.1 c44
      refine lv_aload_n G.1 G.2.1 d_Fi_ask_50 rfl (lv_at hl 0 rfl) ?_
      refine lv_aload_n G.1 G.2.1 d_Fi_ask_51 rfl (lv_at hl 1 rfl) ?_
      refine lv_iload G.1 G.2.1 d_Fi_ask_52 (lv_at hl 3 rfl) ?_
      obtain ⟨mc_8, ms_9, hr_10, h⟩ := h
      refine utVi (As := [.ref (ad a1), .int x4j42]) (rest := []) G hP hD hS (ca_Fi_settle l D g F sl hF ad mc_8 ms_9 y_j42 _ s_j42 a0 a1 x4j42 H.size (us H) h_a0 h_a1 h) w9_Fi_settle q2326 ⟨Nat.le_of_ble_eq_true rfl, Nat.le_of_ble_eq_true rfl⟩ rfl rfl h_a0 (q := (RFi, TFi, 10)) rfl rfl hl.1 rfl (Nat.le_of_ble_eq_true rfl) rfl hr_10 d_Fi_ask_54 (fun r_3 y_5 s_4 d_6 e_7 H locs h hP hD hS => ?_)
      have hl := lv_sub (l' := [(0, .ref (ad a0)), (1, .ref (ad a1)), (3, .int x3j42), (4, .int x4j42)]) hl [0, 1, 2, 3] rfl
      obtain ⟨hd, h⟩ := h
      refine lv_istore (lv' := [(5, .int r_3), (0, .ref (ad a0)), (1, .ref (ad a1)), (3, .int x3j42), (4, .int x4j42)]) G.1 G.2.1 d_Fi_ask_57 hl (by decide) rfl (fun ls hl => ?_)
      refine lv_iload G.1 G.2.1 d_Fi_ask_59 (lv_at hl 0 rfl) ?_
      have J_86 : ∀ (y_j86 : Ly) (s_j86 : St) (d_j86 e_j86 : Nat) (z0j86 : Int32) (H : Heap) (locs : List Loc), wja_Fi_ask_86 mc ms Post a0 a1 y_j86 s_j86 d_j86 e_j86 z0j86 → va_P D CL (ws g ad y_j86 s_j86) H → va_D A (ws g ad y_j86 s_j86) → va_S A s.heap H locs → ∀ ls, lv_has ls 6 [] → W p l e (ra_Fi_ask mc ms) s m args below meth c H locs d_j86 e_j86 Q (F0 m 86 ls [.int z0j86]) := by
        intro y_j86 s_j86 d_j86 e_j86 z0j86 H locs h hP hD hS ls hl
        unfold wja_Fi_ask_86 at h
        obtain ⟨hd, h⟩ := h
        exact hret _ (y_j86, s_j86, d_j86, e_j86) _ _ _ _ _ ls h hP hD hS (Nat.le_refl _) (Nat.le_refl _) hd.1 hd.2 d_Fi_ask_86
      have J_73 : ∀ (y_j73 : Ly) (s_j73 : St) (d_j73 e_j73 : Nat) (x5j73 : Int32) (H : Heap) (locs : List Loc), wja_Fi_ask_73 mc ms Post a0 a1 y_j73 s_j73 d_j73 e_j73 x5j73 → va_P D CL (ws g ad y_j73 s_j73) H → va_D A (ws g ad y_j73 s_j73) → va_S A s.heap H locs → ∀ ls, lv_has ls 6 [(5, .int x5j73)] → W p l e (ra_Fi_ask mc ms) s m args below meth c H locs d_j73 e_j73 Q (F0 m 73 ls []) := by
        intro y_j73 s_j73 d_j73 e_j73 x5j73 H locs h hP hD hS ls hl
        unfold wja_Fi_ask_73 at h
        obtain ⟨hd, h⟩ := h
        refine lv_iload G.1 G.2.1 d_Fi_ask_73 (lv_at hl 0 rfl) ?_
        refine lv_goto (tgt := 86) G.1 G.2.1 d_Fi_ask_75 (by decide) ?_
        exact J_86 y_j73 s_j73 d_j73 e_j73 x5j73 H locs h hP hD hS ls (lv_sub hl [] rfl)
      refine lv_if_ne (tgt := 73) G.1 G.2.1 d_Fi_ask_61 (by decide) (fun c61 => ?_) (fun c61 => ?_)
      · skip
        have h := h.1 c61
        exact J_73 y_5 s_4 (d_j42 + d_6) (e_j42 + e_7) r_3 H locs h hP hD hS ls (lv_sub hl [0] rfl)
      · skip
        have h := h.2 c61
        refine lv_aload_n G.1 G.2.1 d_Fi_ask_64 rfl (lv_at hl 1 rfl) ?_
        refine lv_aload_n G.1 G.2.1 d_Fi_ask_65 rfl (lv_at hl 2 rfl) ?_
        refine W.eq (g2 := F0 m 66 ls [.ref (ad a1), .ref (ad a0)]) rfl ?_
        refine lv_iconst (v := 4) G.1 G.2.1 d_Fi_ask_66 (by decide) ?_
        refine ucVi (As := [.ref (ad a1), .int 4]) (rest := []) G hP hD hS (cu_Fi_isFound l D g ad y_5 _ s_4 a0 a1 4 H.size h_a0 h_a1 h) w9_Fi_isFound q2335 ⟨Nat.le_of_ble_eq_true rfl, Nat.le_of_ble_eq_true rfl⟩ rfl rfl h_a0 (q := (RFi, TFi, 10)) rfl rfl hl.1 rfl (Nat.le_of_ble_eq_true rfl) rfl hd d_Fi_ask_67 (fun r_11 s_12 H locs h hP hD hS => ?_)
        refine lv_if_eq (tgt := 78) G.1 G.2.1 d_Fi_ask_70 (by decide) (fun c70 => ?_) (fun c70 => ?_)
        · skip
          have h := h.1 c70
          refine lv_aload_n G.1 G.2.1 d_Fi_ask_78 rfl (lv_at hl 1 rfl) ?_
          refine lv_aload_n G.1 G.2.1 d_Fi_ask_79 rfl (lv_at hl 2 rfl) ?_
          refine lv_iload G.1 G.2.1 d_Fi_ask_80 (lv_at hl 4 rfl) ?_
          refine lv_iload_n G.1 G.2.1 d_Fi_ask_82 rfl (lv_at hl 3 rfl) ?_
          refine ucVi (As := [.ref (ad a1), .int x4j42, .int x3j42]) (rest := []) G hP hD hS (cu_Fi_select l D g ad y_5 _ s_12 a0 a1 x4j42 x3j42 H.size h_a0 h_a1 h) w9_Fi_select q2336 ⟨Nat.le_of_ble_eq_true rfl, Nat.le_of_ble_eq_true rfl⟩ rfl rfl h_a0 (q := (RFi, TFi, 10)) rfl rfl hl.1 rfl (Nat.le_of_ble_eq_true rfl) rfl hd d_Fi_ask_83 (fun r_13 s_14 H locs h hP hD hS => ?_)
          exact J_86 y_5 s_14 (d_j42 + d_6) (e_j42 + e_7) r_13 H locs h hP hD hS ls (lv_sub hl [] rfl)
        · skip
          have h := h.2 c70
          exact J_73 y_5 s_12 (d_j42 + d_6) (e_j42 + e_7) r_3 H locs h hP hD hS ls (lv_sub hl [0] rfl)
    · skip
      have h := h.2 c44
      refine lv_iload G.1 G.2.1 d_Fi_ask_47 (lv_at hl 4 rfl) ?_
      exact hret _ (y_j42, s_j42, d_j42, e_j42) _ _ _ _ _ ls h hP hD hS (Nat.le_refl _) (Nat.le_refl _) hd.1 hd.2 d_Fi_ask_49
  refine lv_icmp_ne (tgt := 42) G.1 G.2.1 d_Fi_ask_16 (by decide) (fun c16 => ?_) (fun c16 => ?_)
  · skip
    have h := h.1 c16
    exact J_42 y s_2 0 0 v3 v4 r_1 H locs h hP hD hS ls (lv_sub hl [1, 2, 4, 5, 0] rfl)
  · skip
    have h := h.2 c16
    refine W.eq (g2 := F0 m 19 ls []) rfl ?_
    refine lv_aload_n G.1 G.2.1 d_Fi_ask_19 rfl (lv_at hl 1 rfl) ?_
    refine lv_aload_n G.1 G.2.1 d_Fi_ask_20 rfl (lv_at hl 2 rfl) ?_
    refine lv_aload_n G.1 G.2.1 d_Fi_ask_21 rfl (lv_at hl 1 rfl) ?_
    refine ugf (v := .int (sV s_2 a0 2)) G hP h_a0 iFi rfl 2 (by decide) rfl q732 rfl rfl d_Fi_ask_22 ?_
    obtain ⟨mc_20, ms_21, hr_22, h⟩ := h
    refine utVi (As := [.ref (ad a1), .int (sV s_2 a0 2)]) (rest := []) G hP hD hS (ca_Fi_settle l D g F sl hF ad mc_20 ms_21 y _ s_2 a0 a1 (sV s_2 a0 2) H.size (us H) h_a0 h_a1 h) w9_Fi_settle q2326 ⟨Nat.le_of_ble_eq_true rfl, Nat.le_of_ble_eq_true rfl⟩ rfl rfl h_a0 (q := (RFi, TFi, 10)) rfl rfl hl.1 rfl (Nat.le_of_ble_eq_true rfl) rfl hr_22 d_Fi_ask_25 (fun r_15 y_17 s_16 d_18 e_19 H locs h hP hD hS => ?_)
    have hl := lv_sub (l' := [(0, .ref (ad a0)), (1, .ref (ad a1)), (2, .int v2), (3, .int v3), (4, .int v4)]) hl [1, 2, 3, 4, 5] rfl
    obtain ⟨hd, h⟩ := h
    refine lv_pop G.1 G.2.1 d_Fi_ask_28 rfl ?_
    refine lv_aload_n G.1 G.2.1 d_Fi_ask_29 rfl (lv_at hl 0 rfl) ?_
    refine lv_aload_n G.1 G.2.1 d_Fi_ask_30 rfl (lv_at hl 1 rfl) ?_
    refine lv_bipush (v := (-2)) G.1 G.2.1 d_Fi_ask_31 (by decide) ?_
    refine lv_bipush (v := 50) G.1 G.2.1 d_Fi_ask_33 (by decide) ?_
    refine lv_iload_n G.1 G.2.1 d_Fi_ask_35 rfl (lv_at hl 2 rfl) ?_
    refine lv_iload_n G.1 G.2.1 d_Fi_ask_36 rfl (lv_at hl 3 rfl) ?_
    refine W.eq (g2 := F0 m 37 ls [.int v3, .int v2, .int 50, .int (-2), .ref (ad a1), .ref (ad a0)]) rfl ?_
    refine ucVi (As := [.ref (ad a1), .int (-2), .int 50, .int v2, .int v3]) (rest := []) G hP hD hS (cu_Fi_findMethod l D g ad y_17 _ s_16 a0 a1 (-2) 50 v2 v3 H.size h_a0 h_a1 h) w9_Fi_findMethod q2325 ⟨Nat.le_of_ble_eq_true rfl, Nat.le_of_ble_eq_true rfl⟩ rfl rfl h_a0 (q := (RFi, TFi, 10)) rfl rfl hl.1 rfl (Nat.le_of_ble_eq_true rfl) rfl hd d_Fi_ask_37 (fun r_23 s_24 H locs h hP hD hS => ?_)
    refine lv_istore (lv' := [(5, .int r_23), (0, .ref (ad a0)), (1, .ref (ad a1)), (2, .int v2), (3, .int v3), (4, .int v4)]) G.1 G.2.1 d_Fi_ask_40 hl (by decide) rfl (fun ls hl => ?_)
    exact J_42 y_17 s_24 (0 + d_18) (0 + e_19) v3 v4 r_23 H locs h hP hD hS ls (lv_sub hl [1, 2, 4, 5, 0] rfl)
theorem q977 : Cond.fieldLink "ClassWorks" 383 "ClassWorks$Runner" "callClass" "I" ∈ lw_ok := lw_okmem (List.mem_of_getElem? (i := 977) (by decide +kernel)) rfl
theorem q981 : Cond.fieldLink "ClassWorks" 386 "ClassWorks$Runner" "callSign" "I" ∈ lw_ok := lw_okmem (List.mem_of_getElem? (i := 981) (by decide +kernel)) rfl
theorem q2331 : Cond.methodLink "ClassWorks" 389 y_Fi_ask ∈ lw_ok := lw_okmem (List.mem_of_getElem? (i := 2331) (by decide +kernel)) rfl
theorem q2334 : Cond.code y_Fi_ask b_Fi_ask 6 (some .int) ∈ lw_ok := lw_okmem (List.mem_of_getElem? (i := 2334) (by decide +kernel)) rfl
theorem q2332 : Cond.instanceMethod y_Fi_ask ∈ lw_ok := lw_okmem (List.mem_of_getElem? (i := 2332) (by decide +kernel)) rfl
theorem q2333 : Cond.selects y_Fi_ask.cls y_Fi_ask y_Fi_ask ∈ lw_ok := lw_okmem (List.mem_of_getElem? (i := 2333) (by decide +kernel)) rfl
theorem w9_Fi_ask : CWv y_Fi_ask b_Fi_ask 6 (some .int) 4 ∧ Cond.instanceMethod y_Fi_ask ∈ lw_ok ∧ Cond.selects y_Fi_ask.cls y_Fi_ask y_Fi_ask ∈ lw_ok := ⟨⟨q2334, q342, by decide +kernel, by decide +kernel, by decide +kernel⟩, q2332, q2333⟩
def y_Cw_asked : MethodName := ⟨"ClassWorks", "asked", "(II)I"⟩
abbrev b_Cw_asked : ByteArray := prog_1_method_38_code
theorem q728 : Cond.fieldLink "ClassWorks" 392 "ClassWorks$Finder" "cls" "I" ∈ lw_ok := lw_okmem (List.mem_of_getElem? (i := 728) (by decide +kernel)) rfl
theorem q731 : Cond.fieldLink "ClassWorks" 395 "ClassWorks$Finder" "member" "I" ∈ lw_ok := lw_okmem (List.mem_of_getElem? (i := 731) (by decide +kernel)) rfl
theorem d_Cw_asked_0 : decode b_Cw_asked 0 = .ok (.aload_n 0, 1) := by decide +kernel
theorem d_Cw_asked_1 : decode b_Cw_asked 1 = .ok (.iload_n 1, 1) := by decide +kernel
theorem d_Cw_asked_2 : decode b_Cw_asked 2 = .ok (.iload_n 2, 1) := by decide +kernel
theorem d_Cw_asked_3 : decode b_Cw_asked 3 = .ok (.invokevirtual 150, 3) := by decide +kernel
theorem d_Cw_asked_6 : decode b_Cw_asked 6 = .ok (.astore_n 3, 1) := by decide +kernel
theorem d_Cw_asked_7 : decode b_Cw_asked 7 = .ok (.aload_n 3, 1) := by decide +kernel
theorem d_Cw_asked_8 : decode b_Cw_asked 8 = .ok (.ifnonnull 5, 3) := by decide +kernel
theorem d_Cw_asked_11 : decode b_Cw_asked 11 = .ok (.iconst (-1), 1) := by decide +kernel
theorem d_Cw_asked_12 : decode b_Cw_asked 12 = .ok (.ireturn, 1) := by decide +kernel
theorem d_Cw_asked_13 : decode b_Cw_asked 13 = .ok (.aload_n 0, 1) := by decide +kernel
theorem d_Cw_asked_14 : decode b_Cw_asked 14 = .ok (.getfield 13, 3) := by decide +kernel
theorem d_Cw_asked_17 : decode b_Cw_asked 17 = .ok (.iconst 3, 1) := by decide +kernel
theorem d_Cw_asked_18 : decode b_Cw_asked 18 = .ok (.aaload, 1) := by decide +kernel
theorem d_Cw_asked_19 : decode b_Cw_asked 19 = .ok (.getfield 202, 3) := by decide +kernel
theorem d_Cw_asked_22 : decode b_Cw_asked 22 = .ok (.iconst 0, 1) := by decide +kernel
theorem d_Cw_asked_23 : decode b_Cw_asked 23 = .ok (.aaload, 1) := by decide +kernel
theorem d_Cw_asked_24 : decode b_Cw_asked 24 = .ok (.astore 4, 2) := by decide +kernel
theorem d_Cw_asked_26 : decode b_Cw_asked 26 = .ok (.aload_n 0, 1) := by decide +kernel
theorem d_Cw_asked_27 : decode b_Cw_asked 27 = .ok (.aload 4, 2) := by decide +kernel
theorem d_Cw_asked_29 : decode b_Cw_asked 29 = .ok (.iconst 0, 1) := by decide +kernel
theorem d_Cw_asked_30 : decode b_Cw_asked 30 = .ok (.invokevirtual 212, 3) := by decide +kernel
theorem d_Cw_asked_33 : decode b_Cw_asked 33 = .ok (.ifCond .ne 6, 3) := by decide +kernel
theorem d_Cw_asked_36 : decode b_Cw_asked 36 = .ok (.bipush (-11), 2) := by decide +kernel
theorem d_Cw_asked_38 : decode b_Cw_asked 38 = .ok (.ireturn, 1) := by decide +kernel
theorem d_Cw_asked_39 : decode b_Cw_asked 39 = .ok (.aload_n 0, 1) := by decide +kernel
theorem d_Cw_asked_40 : decode b_Cw_asked 40 = .ok (.getfield 97, 3) := by decide +kernel
theorem d_Cw_asked_43 : decode b_Cw_asked 43 = .ok (.aload_n 3, 1) := by decide +kernel
theorem d_Cw_asked_44 : decode b_Cw_asked 44 = .ok (.aload 4, 2) := by decide +kernel
theorem d_Cw_asked_46 : decode b_Cw_asked 46 = .ok (.getfield 383, 3) := by decide +kernel
theorem d_Cw_asked_49 : decode b_Cw_asked 49 = .ok (.aload 4, 2) := by decide +kernel
theorem d_Cw_asked_51 : decode b_Cw_asked 51 = .ok (.getfield 386, 3) := by decide +kernel
theorem d_Cw_asked_54 : decode b_Cw_asked 54 = .ok (.iload_n 2, 1) := by decide +kernel
theorem d_Cw_asked_55 : decode b_Cw_asked 55 = .ok (.invokevirtual 389, 3) := by decide +kernel
theorem d_Cw_asked_58 : decode b_Cw_asked 58 = .ok (.istore 5, 2) := by decide +kernel
theorem d_Cw_asked_60 : decode b_Cw_asked 60 = .ok (.iload 5, 2) := by decide +kernel
theorem d_Cw_asked_62 : decode b_Cw_asked 62 = .ok (.ifCond .eq 14, 3) := by decide +kernel
theorem d_Cw_asked_65 : decode b_Cw_asked 65 = .ok (.bipush (-100), 2) := by decide +kernel
theorem d_Cw_asked_67 : decode b_Cw_asked 67 = .ok (.iload 5, 2) := by decide +kernel
theorem d_Cw_asked_69 : decode b_Cw_asked 69 = .ok (.bipush 100, 2) := by decide +kernel
theorem d_Cw_asked_71 : decode b_Cw_asked 71 = .ok (.idiv, 1) := by decide +kernel
theorem d_Cw_asked_72 : decode b_Cw_asked 72 = .ok (.isub, 1) := by decide +kernel
theorem d_Cw_asked_73 : decode b_Cw_asked 73 = .ok (.goto 21, 3) := by decide +kernel
theorem d_Cw_asked_76 : decode b_Cw_asked 76 = .ok (.bipush 100, 2) := by decide +kernel
theorem d_Cw_asked_78 : decode b_Cw_asked 78 = .ok (.aload_n 0, 1) := by decide +kernel
theorem d_Cw_asked_79 : decode b_Cw_asked 79 = .ok (.getfield 97, 3) := by decide +kernel
theorem d_Cw_asked_82 : decode b_Cw_asked 82 = .ok (.getfield 392, 3) := by decide +kernel
theorem d_Cw_asked_85 : decode b_Cw_asked 85 = .ok (.imul, 1) := by decide +kernel
theorem d_Cw_asked_86 : decode b_Cw_asked 86 = .ok (.aload_n 0, 1) := by decide +kernel
theorem d_Cw_asked_87 : decode b_Cw_asked 87 = .ok (.getfield 97, 3) := by decide +kernel
theorem d_Cw_asked_90 : decode b_Cw_asked 90 = .ok (.getfield 395, 3) := by decide +kernel
theorem d_Cw_asked_93 : decode b_Cw_asked 93 = .ok (.iadd, 1) := by decide +kernel
theorem d_Cw_asked_94 : decode b_Cw_asked 94 = .ok (.ireturn, 1) := by decide +kernel
abbrev ra_Cw_asked (mc ms : Nat) : Room := { frames := 11, cells := mc, slots := ms, locals := 565 }
def wja_Cw_asked_94 (mc ms : Nat) (Post : Ly → St → Int32 → Nat → Nat → Prop) (a0 : Nat) (y_j94 : Ly) (s_j94 : St) (d_j94 e_j94 : Nat) (z0j94 : Int32) : Prop := (d_j94 ≤ mc ∧ e_j94 ≤ ms) ∧ Post y_j94 s_j94 z0j94 d_j94 e_j94
def wa_Cw_asked (mc ms : Nat) (y : Ly) (Post : Ly → St → Int32 → Nat → Nat → Prop) (σ : St) (a0 : Nat) (v1 : Int32) (v2 : Int32) : Prop := wu_Cw_worldWith y (fun (s_2 : St) (r_1 : Option Nat) => ((r_1 = none → Post y s_2 (-1) 0 0) ∧ (∀ r_1b : Nat, r_1 = some r_1b → (cl r_1b = 9 ∧ xQ y a0 5 3 (fun b_3 : Nat => xQ y b_3 2 0 (fun b_5 : Nat => ∃ mc_12 ms_13 : Nat, (0 + mc_12 ≤ mc ∧ 0 + ms_13 ≤ ms) ∧ wa_Cw_takeLine mc_12 ms_13 y (fun (y_9 : Ly) (s_8 : St) (r_7 : Int32) (d_10 e_11 : Nat) => (0 + d_10 ≤ mc ∧ 0 + e_11 ≤ ms) ∧ ((¬ r_7 = 0 → ∃ mc_20 ms_21 : Nat, (0 + d_10 + mc_20 ≤ mc ∧ 0 + e_11 + ms_21 ≤ ms) ∧ wa_Fi_ask mc_20 ms_21 y_9 (fun (y_17 : Ly) (s_16 : St) (r_15 : Int32) (d_18 e_19 : Nat) => (0 + d_10 + d_18 ≤ mc ∧ 0 + e_11 + e_19 ≤ ms) ∧ ((r_15 = 0 → wja_Cw_asked_94 mc ms Post a0 y_17 s_16 (0 + d_10 + d_18) (0 + e_11 + e_19) ((100 * (sV s_16 (lk a0 3) 0)) + (sV s_16 (lk a0 3) 1))) ∧ (¬ (r_15 = 0) → wja_Cw_asked_94 mc ms Post a0 y_17 s_16 (0 + d_10 + d_18) (0 + e_11 + e_19) ((-100) - (r_15 / 100))))) s_8 (lk a0 3) r_1b (sV s_8 b_5 0) (sV s_8 b_5 1) v2) ∧ (r_7 = 0 → Post y_9 s_8 (-11) (0 + d_10) (0 + e_11)))) s_2 a0 b_5 0)))))) σ a0 v1 v2
set_option maxHeartbeats 4000000 in
set_option maxRecDepth 100000 in
theorem ca_Cw_asked (l : Launch) (D : va_G) (g : Nat → ClassId) (F : Nat → SL) (sl : List SL) (hF : SOK F sl) (ad : Nat → Nat) (mc ms : Nat) (y : Ly) (Post : Ly → St → Int32 → Nat → Nat → Prop) (σ : St) (a0 : Nat) (v1 : Int32) (v2 : Int32) (sz uz : Nat) (h_a0 : cl a0 = 11) (h : wa_Cw_asked mc ms y Post σ a0 v1 v2) : Met l y_Cw_asked (mw y_Cw_asked b_Cw_asked 6 (some .int)) (ra_Cw_asked mc ms) (PCu g D sl [.ref (ad a0), .int v1, .int v2] sz uz (ws g ad y σ)) (va_Qi (fun (r : Int32) (u : Ly × St × Nat × Nat) => Post u.1 u.2.1 r u.2.2.1 u.2.2.2) (QU D (va_A (ws g ad y σ) sz) (fun u => ws g ad u.1 u.2.1) sz uz (fun u => u.2.2.1) (fun u => u.2.2.2)) (va_A (ws g ad y σ) sz)) mc ms (va_A (ws g ad y σ) sz) := by
  refine ofIu (by decide +kernel) (Nat.le_of_ble_eq_true rfl) ?_
  intro p e s m args below meth c A Q ls H locs G hsz hP hD hS hl hret
  subst hsz
  have hl : lv_has ls 6 [(0, .ref (ad a0)), (1, .int v1), (2, .int v2)] := hl
  have hd : 0 ≤ mc ∧ 0 ≤ ms := ⟨Nat.zero_le _, Nat.zero_le _⟩
  unfold wa_Cw_asked at h
  refine lv_aload_n G.1 G.2.1 d_Cw_asked_0 rfl (lv_at hl 0 rfl) ?_
  refine lv_iload_n G.1 G.2.1 d_Cw_asked_1 rfl (lv_at hl 1 rfl) ?_
  refine lv_iload_n G.1 G.2.1 d_Cw_asked_2 rfl (lv_at hl 2 rfl) ?_
  refine ucVq (As := [.int v1, .int v2]) (rest := []) G hP hD hS (cu_Cw_worldWith l D g ad y _ σ a0 v1 v2 H.size h_a0 h) w9_Cw_worldWith q1481 ⟨Nat.le_of_ble_eq_true rfl, Nat.le_of_ble_eq_true rfl⟩ rfl rfl h_a0 (q := (RCw, TCw, 20)) rfl rfl hl.1 rfl (Nat.le_of_ble_eq_true rfl) rfl hd d_Cw_asked_3 (fun r_1 s_2 H locs h hP hD hS => ?_)
  rcases r_1 with _ | r_1b
  · skip
    have h := h.1 rfl
    show W p l e (ra_Cw_asked mc ms) s m args below meth c H locs 0 0 Q (F0 m 6 ls [.null])
    refine lv_astore_nN (lv' := [(3, .null), (0, .ref (ad a0)), (1, .int v1), (2, .int v2)]) G.1 G.2.1 d_Cw_asked_6 rfl hl (by decide) rfl (fun ls hl => ?_)
    refine lv_aload_nN G.1 G.2.1 d_Cw_asked_7 rfl (lv_at hl 0 rfl) ?_
    refine lv_ifnonnullN G.1 G.2.1 d_Cw_asked_8 ?_
    refine lv_iconst (v := (-1)) G.1 G.2.1 d_Cw_asked_11 (by decide) ?_
    exact hret _ (y, s_2, 0, 0) _ _ _ _ _ ls h hP hD hS (Nat.le_refl _) (Nat.le_refl _) hd.1 hd.2 d_Cw_asked_12
  · skip
    obtain ⟨c_r_1b, h⟩ := h.2 _ rfl
    show W p l e (ra_Cw_asked mc ms) s m args below meth c H locs 0 0 Q (F0 m 6 ls [.ref (ad r_1b)])
    refine lv_astore_n (lv' := [(3, .ref (ad r_1b)), (0, .ref (ad a0)), (1, .int v1), (2, .int v2)]) G.1 G.2.1 d_Cw_asked_6 rfl hl (by decide) rfl (fun ls hl => ?_)
    refine lv_aload_n G.1 G.2.1 d_Cw_asked_7 rfl (lv_at hl 0 rfl) ?_
    refine lv_ifnonnull (tgt := 13) G.1 G.2.1 d_Cw_asked_8 (by decide) ?_
    refine lv_aload_n G.1 G.2.1 d_Cw_asked_13 rfl (lv_at hl 1 rfl) ?_
    refine ugf (v := .ref (yP y a0 5)) G hP h_a0 iCw rfl 5 (by decide) rfl q1139 rfl rfl d_Cw_asked_14 ?_
    refine lv_iconst (v := 3) G.1 G.2.1 d_Cw_asked_17 (by decide) ?_
    refine uqald G hP (kdp h_a0 rfl) (typ h_a0 rfl) rfl h d_Cw_asked_18 (fun b_3 n_4 h => ?_)
    refine W.eq (g2 := F0 m 19 ls [.ref (ad b_3)]) rfl ?_
    refine ugf (v := .ref (yP y b_3 2)) G hP (oa_11 h_a0 n_4) iMa rfl 2 (by decide) rfl q1070 rfl rfl d_Cw_asked_19 ?_
    refine lv_iconst (v := 0) G.1 G.2.1 d_Cw_asked_22 (by decide) ?_
    refine uqald G hP (kdp (oa_11 h_a0 n_4) rfl) (typ (oa_11 h_a0 n_4) rfl) rfl h d_Cw_asked_23 (fun b_5 n_6 h => ?_)
    refine lv_astore (lv' := [(4, .ref (ad b_5)), (3, .ref (ad r_1b)), (0, .ref (ad a0)), (1, .int v1), (2, .int v2)]) G.1 G.2.1 d_Cw_asked_24 hl (by decide) rfl (fun ls hl => ?_)
    refine lv_aload_n G.1 G.2.1 d_Cw_asked_26 rfl (lv_at hl 2 rfl) ?_
    refine lv_aload G.1 G.2.1 d_Cw_asked_27 (lv_at hl 0 rfl) ?_
    refine lv_iconst (v := 0) G.1 G.2.1 d_Cw_asked_29 (by decide) ?_
    obtain ⟨mc_12, ms_13, hr_14, h⟩ := h
    refine uaVi (As := [.ref (ad b_5), .int 0]) (rest := []) G hP hD hS (ca_Cw_takeLine l D g ad mc_12 ms_13 y _ s_2 a0 b_5 0 H.size (us H) h_a0 (oa_4 (oa_11 h_a0 n_4) n_6) h) w9_Cw_takeLine q1731 ⟨Nat.le_of_ble_eq_true rfl, Nat.le_of_ble_eq_true rfl⟩ rfl rfl h_a0 (q := (RCw, TCw, 20)) rfl rfl hl.1 rfl (Nat.le_of_ble_eq_true rfl) rfl hr_14 d_Cw_asked_30 (fun r_7 y_9 s_8 d_10 e_11 H locs h hP hD hS => ?_)
    have hl := lv_sub (l' := [(4, .ref (ad b_5)), (3, .ref (ad r_1b)), (0, .ref (ad a0)), (2, .int v2)]) hl [0, 1, 2, 4] rfl
    obtain ⟨hd, h⟩ := h
    refine lv_if_ne (tgt := 39) G.1 G.2.1 d_Cw_asked_33 (by decide) (fun c33 => ?_) (fun c33 => ?_)
    · skip
      have h := h.1 c33
      refine lv_aload_n G.1 G.2.1 d_Cw_asked_39 rfl (lv_at hl 2 rfl) ?_
      refine ugf (v := .ref (ad (lk a0 3))) G hP h_a0 iCw rfl 3 (by decide) rfl q1137 rfl rfl d_Cw_asked_40 ?_
      refine lv_aload_n G.1 G.2.1 d_Cw_asked_43 rfl (lv_at hl 1 rfl) ?_
      refine W.eq (g2 := F0 m 44 ls [.ref (ad r_1b), .ref (ad (lk a0 3))]) rfl ?_
      refine lv_aload G.1 G.2.1 d_Cw_asked_44 (lv_at hl 0 rfl) ?_
      refine ugf (v := .int (sV s_8 b_5 0)) G hP (oa_4 (oa_11 h_a0 n_4) n_6) iRu rfl 0 (by decide) rfl q977 rfl rfl d_Cw_asked_46 ?_
      refine lv_aload G.1 G.2.1 d_Cw_asked_49 (lv_at hl 0 rfl) ?_
      refine ugf (v := .int (sV s_8 b_5 1)) G hP (oa_4 (oa_11 h_a0 n_4) n_6) iRu rfl 1 (by decide) rfl q981 rfl rfl d_Cw_asked_51 ?_
      refine lv_iload_n G.1 G.2.1 d_Cw_asked_54 rfl (lv_at hl 3 rfl) ?_
      obtain ⟨mc_20, ms_21, hr_22, h⟩ := h
      refine utVi (As := [.ref (ad r_1b), .int (sV s_8 b_5 0), .int (sV s_8 b_5 1), .int v2]) (rest := []) G hP hD hS (ca_Fi_ask l D g F sl hF ad mc_20 ms_21 y_9 _ s_8 (lk a0 3) r_1b (sV s_8 b_5 0) (sV s_8 b_5 1) v2 H.size (us H) (lk_11_3 h_a0) c_r_1b h) w9_Fi_ask q2331 ⟨Nat.le_of_ble_eq_true rfl, Nat.le_of_ble_eq_true rfl⟩ rfl rfl (lk_11_3 h_a0) (q := (RFi, TFi, 10)) rfl rfl hl.1 rfl (Nat.le_of_ble_eq_true rfl) rfl hr_22 d_Cw_asked_55 (fun r_15 y_17 s_16 d_18 e_19 H locs h hP hD hS => ?_)
      have hl := lv_sub (l' := [(0, .ref (ad a0))]) hl [2] rfl
      obtain ⟨hd, h⟩ := h
      refine lv_istore (lv' := [(5, .int r_15), (0, .ref (ad a0))]) G.1 G.2.1 d_Cw_asked_58 hl (by decide) rfl (fun ls hl => ?_)
      refine lv_iload G.1 G.2.1 d_Cw_asked_60 (lv_at hl 0 rfl) ?_
      have J_94 : ∀ (y_j94 : Ly) (s_j94 : St) (d_j94 e_j94 : Nat) (z0j94 : Int32) (H : Heap) (locs : List Loc), wja_Cw_asked_94 mc ms Post a0 y_j94 s_j94 d_j94 e_j94 z0j94 → va_P D CL (ws g ad y_j94 s_j94) H → va_D A (ws g ad y_j94 s_j94) → va_S A s.heap H locs → ∀ ls, lv_has ls 6 [] → W p l e (ra_Cw_asked mc ms) s m args below meth c H locs d_j94 e_j94 Q (F0 m 94 ls [.int z0j94]) := by
        intro y_j94 s_j94 d_j94 e_j94 z0j94 H locs h hP hD hS ls hl
        unfold wja_Cw_asked_94 at h
        obtain ⟨hd, h⟩ := h
        exact hret _ (y_j94, s_j94, d_j94, e_j94) _ _ _ _ _ ls h hP hD hS (Nat.le_refl _) (Nat.le_refl _) hd.1 hd.2 d_Cw_asked_94
      refine lv_if_eq (tgt := 76) G.1 G.2.1 d_Cw_asked_62 (by decide) (fun c62 => ?_) (fun c62 => ?_)
      · skip
        have h := h.1 c62
        refine lv_bipush (v := 100) G.1 G.2.1 d_Cw_asked_76 (by decide) ?_
        refine lv_aload_n G.1 G.2.1 d_Cw_asked_78 rfl (lv_at hl 1 rfl) ?_
        refine ugf (v := .ref (ad (lk a0 3))) G hP h_a0 iCw rfl 3 (by decide) rfl q1137 rfl rfl d_Cw_asked_79 ?_
        refine W.eq (g2 := F0 m 82 ls [.ref (ad (lk a0 3)), .int 100]) rfl ?_
        refine ugf (v := .int (sV s_16 (lk a0 3) 0)) G hP (lk_11_3 h_a0) iFi rfl 0 (by decide) rfl q728 rfl rfl d_Cw_asked_82 ?_
        refine lv_imul G.1 G.2.1 d_Cw_asked_85 ?_
        refine lv_aload_n G.1 G.2.1 d_Cw_asked_86 rfl (lv_at hl 1 rfl) ?_
        refine ugf (v := .ref (ad (lk a0 3))) G hP h_a0 iCw rfl 3 (by decide) rfl q1137 rfl rfl d_Cw_asked_87 ?_
        refine ugf (v := .int (sV s_16 (lk a0 3) 1)) G hP (lk_11_3 h_a0) iFi rfl 1 (by decide) rfl q731 rfl rfl d_Cw_asked_90 ?_
        refine lv_iadd G.1 G.2.1 d_Cw_asked_93 ?_
        exact J_94 y_17 s_16 (0 + d_10 + d_18) (0 + e_11 + e_19) ((100 * (sV s_16 (lk a0 3) 0)) + (sV s_16 (lk a0 3) 1)) H locs h hP hD hS ls (lv_sub hl [] rfl)
      · skip
        have h := h.2 c62
        refine lv_bipush (v := (-100)) G.1 G.2.1 d_Cw_asked_65 (by decide) ?_
        refine lv_iload G.1 G.2.1 d_Cw_asked_67 (lv_at hl 0 rfl) ?_
        refine lv_bipush (v := 100) G.1 G.2.1 d_Cw_asked_69 (by decide) ?_
        refine W.eq (g2 := F0 m 71 ls [.int 100, .int r_15, .int (-100)]) rfl ?_
        refine lv_idiv G.1 G.2.1 d_Cw_asked_71 (by decide) ?_
        refine lv_isub G.1 G.2.1 d_Cw_asked_72 ?_
        refine lv_goto (tgt := 94) G.1 G.2.1 d_Cw_asked_73 (by decide) ?_
        exact J_94 y_17 s_16 (0 + d_10 + d_18) (0 + e_11 + e_19) ((-100) - (r_15 / 100)) H locs h hP hD hS ls (lv_sub hl [] rfl)
    · skip
      have h := h.2 c33
      refine lv_bipush (v := (-11)) G.1 G.2.1 d_Cw_asked_36 (by decide) ?_
      exact hret _ (y_9, s_8, 0 + d_10, 0 + e_11) _ _ _ _ _ ls h hP hD hS (Nat.le_refl _) (Nat.le_refl _) hd.1 hd.2 d_Cw_asked_38
def y_Hp_dropUntouched : MethodName := ⟨"ClassWorks$Heap", "dropUntouched", "()I"⟩
abbrev b_Hp_dropUntouched : ByteArray := prog_4_method_21_code
theorem q928 : Cond.fieldLink "ClassWorks$Heap" 34 "ClassWorks$Heap" "spare" "[I" ∈ lw_ok := lw_okmem (List.mem_of_getElem? (i := 928) (by decide +kernel)) rfl
theorem q2386 : Cond.methodLink "ClassWorks$Heap" 105 arraycopyName ∈ lw_ok := lw_okmem (List.mem_of_getElem? (i := 2386) (by decide +kernel)) rfl
theorem d_Hp_dropUntouched_0 : decode b_Hp_dropUntouched 0 = .ok (.aload_n 0, 1) := by decide +kernel
theorem d_Hp_dropUntouched_1 : decode b_Hp_dropUntouched 1 = .ok (.getfield 24, 3) := by decide +kernel
theorem d_Hp_dropUntouched_4 : decode b_Hp_dropUntouched 4 = .ok (.istore_n 1, 1) := by decide +kernel
theorem d_Hp_dropUntouched_5 : decode b_Hp_dropUntouched 5 = .ok (.iconst 0, 1) := by decide +kernel
theorem d_Hp_dropUntouched_6 : decode b_Hp_dropUntouched 6 = .ok (.istore_n 2, 1) := by decide +kernel
theorem d_Hp_dropUntouched_7 : decode b_Hp_dropUntouched 7 = .ok (.iconst 1, 1) := by decide +kernel
theorem d_Hp_dropUntouched_8 : decode b_Hp_dropUntouched 8 = .ok (.istore_n 3, 1) := by decide +kernel
theorem d_Hp_dropUntouched_9 : decode b_Hp_dropUntouched 9 = .ok (.iload_n 3, 1) := by decide +kernel
theorem d_Hp_dropUntouched_10 : decode b_Hp_dropUntouched 10 = .ok (.aload_n 0, 1) := by decide +kernel
theorem d_Hp_dropUntouched_11 : decode b_Hp_dropUntouched 11 = .ok (.getfield 40, 3) := by decide +kernel
theorem d_Hp_dropUntouched_14 : decode b_Hp_dropUntouched 14 = .ok (.if_icmp .gt 102, 3) := by decide +kernel
theorem d_Hp_dropUntouched_17 : decode b_Hp_dropUntouched 17 = .ok (.aload_n 0, 1) := by decide +kernel
theorem d_Hp_dropUntouched_18 : decode b_Hp_dropUntouched 18 = .ok (.getfield 9, 3) := by decide +kernel
theorem d_Hp_dropUntouched_21 : decode b_Hp_dropUntouched 21 = .ok (.iload_n 3, 1) := by decide +kernel
theorem d_Hp_dropUntouched_22 : decode b_Hp_dropUntouched 22 = .ok (.iaload, 1) := by decide +kernel
theorem d_Hp_dropUntouched_23 : decode b_Hp_dropUntouched 23 = .ok (.bipush (-2), 2) := by decide +kernel
theorem d_Hp_dropUntouched_25 : decode b_Hp_dropUntouched 25 = .ok (.if_icmp .eq 56, 3) := by decide +kernel
theorem d_Hp_dropUntouched_28 : decode b_Hp_dropUntouched 28 = .ok (.aload_n 0, 1) := by decide +kernel
theorem d_Hp_dropUntouched_29 : decode b_Hp_dropUntouched 29 = .ok (.getfield 55, 3) := by decide +kernel
theorem d_Hp_dropUntouched_32 : decode b_Hp_dropUntouched 32 = .ok (.iload_n 3, 1) := by decide +kernel
theorem d_Hp_dropUntouched_33 : decode b_Hp_dropUntouched 33 = .ok (.baload, 1) := by decide +kernel
theorem d_Hp_dropUntouched_34 : decode b_Hp_dropUntouched 34 = .ok (.iconst 1, 1) := by decide +kernel
theorem d_Hp_dropUntouched_35 : decode b_Hp_dropUntouched 35 = .ok (.if_icmp .ne 46, 3) := by decide +kernel
theorem d_Hp_dropUntouched_38 : decode b_Hp_dropUntouched 38 = .ok (.aload_n 0, 1) := by decide +kernel
theorem d_Hp_dropUntouched_39 : decode b_Hp_dropUntouched 39 = .ok (.getfield 21, 3) := by decide +kernel
theorem d_Hp_dropUntouched_42 : decode b_Hp_dropUntouched 42 = .ok (.aload_n 0, 1) := by decide +kernel
theorem d_Hp_dropUntouched_43 : decode b_Hp_dropUntouched 43 = .ok (.getfield 15, 3) := by decide +kernel
theorem d_Hp_dropUntouched_46 : decode b_Hp_dropUntouched 46 = .ok (.iload_n 3, 1) := by decide +kernel
theorem d_Hp_dropUntouched_47 : decode b_Hp_dropUntouched 47 = .ok (.iaload, 1) := by decide +kernel
theorem d_Hp_dropUntouched_48 : decode b_Hp_dropUntouched 48 = .ok (.aload_n 0, 1) := by decide +kernel
theorem d_Hp_dropUntouched_49 : decode b_Hp_dropUntouched 49 = .ok (.getfield 34, 3) := by decide +kernel
theorem d_Hp_dropUntouched_52 : decode b_Hp_dropUntouched 52 = .ok (.iload_n 2, 1) := by decide +kernel
theorem d_Hp_dropUntouched_53 : decode b_Hp_dropUntouched 53 = .ok (.aload_n 0, 1) := by decide +kernel
theorem d_Hp_dropUntouched_54 : decode b_Hp_dropUntouched 54 = .ok (.getfield 18, 3) := by decide +kernel
theorem d_Hp_dropUntouched_57 : decode b_Hp_dropUntouched 57 = .ok (.iload_n 3, 1) := by decide +kernel
theorem d_Hp_dropUntouched_58 : decode b_Hp_dropUntouched 58 = .ok (.iaload, 1) := by decide +kernel
theorem d_Hp_dropUntouched_59 : decode b_Hp_dropUntouched 59 = .ok (.invokestatic 105, 3) := by decide +kernel
theorem d_Hp_dropUntouched_62 : decode b_Hp_dropUntouched 62 = .ok (.aload_n 0, 1) := by decide +kernel
theorem d_Hp_dropUntouched_63 : decode b_Hp_dropUntouched 63 = .ok (.getfield 15, 3) := by decide +kernel
theorem d_Hp_dropUntouched_66 : decode b_Hp_dropUntouched 66 = .ok (.iload_n 3, 1) := by decide +kernel
theorem d_Hp_dropUntouched_67 : decode b_Hp_dropUntouched 67 = .ok (.iload_n 2, 1) := by decide +kernel
theorem d_Hp_dropUntouched_68 : decode b_Hp_dropUntouched 68 = .ok (.iastore, 1) := by decide +kernel
theorem d_Hp_dropUntouched_69 : decode b_Hp_dropUntouched 69 = .ok (.iload_n 2, 1) := by decide +kernel
theorem d_Hp_dropUntouched_70 : decode b_Hp_dropUntouched 70 = .ok (.aload_n 0, 1) := by decide +kernel
theorem d_Hp_dropUntouched_71 : decode b_Hp_dropUntouched 71 = .ok (.getfield 18, 3) := by decide +kernel
theorem d_Hp_dropUntouched_74 : decode b_Hp_dropUntouched 74 = .ok (.iload_n 3, 1) := by decide +kernel
theorem d_Hp_dropUntouched_75 : decode b_Hp_dropUntouched 75 = .ok (.iaload, 1) := by decide +kernel
theorem d_Hp_dropUntouched_76 : decode b_Hp_dropUntouched 76 = .ok (.iadd, 1) := by decide +kernel
theorem d_Hp_dropUntouched_77 : decode b_Hp_dropUntouched 77 = .ok (.istore_n 2, 1) := by decide +kernel
theorem d_Hp_dropUntouched_78 : decode b_Hp_dropUntouched 78 = .ok (.goto 32, 3) := by decide +kernel
theorem d_Hp_dropUntouched_81 : decode b_Hp_dropUntouched 81 = .ok (.aload_n 0, 1) := by decide +kernel
theorem d_Hp_dropUntouched_82 : decode b_Hp_dropUntouched 82 = .ok (.getfield 9, 3) := by decide +kernel
theorem d_Hp_dropUntouched_85 : decode b_Hp_dropUntouched 85 = .ok (.iload_n 3, 1) := by decide +kernel
theorem d_Hp_dropUntouched_86 : decode b_Hp_dropUntouched 86 = .ok (.iaload, 1) := by decide +kernel
theorem d_Hp_dropUntouched_87 : decode b_Hp_dropUntouched 87 = .ok (.bipush (-2), 2) := by decide +kernel
theorem d_Hp_dropUntouched_89 : decode b_Hp_dropUntouched 89 = .ok (.if_icmp .eq 21, 3) := by decide +kernel
theorem d_Hp_dropUntouched_92 : decode b_Hp_dropUntouched 92 = .ok (.aload_n 0, 1) := by decide +kernel
theorem d_Hp_dropUntouched_93 : decode b_Hp_dropUntouched 93 = .ok (.getfield 9, 3) := by decide +kernel
theorem d_Hp_dropUntouched_96 : decode b_Hp_dropUntouched 96 = .ok (.iload_n 3, 1) := by decide +kernel
theorem d_Hp_dropUntouched_97 : decode b_Hp_dropUntouched 97 = .ok (.bipush (-2), 2) := by decide +kernel
theorem d_Hp_dropUntouched_99 : decode b_Hp_dropUntouched 99 = .ok (.iastore, 1) := by decide +kernel
theorem d_Hp_dropUntouched_100 : decode b_Hp_dropUntouched 100 = .ok (.aload_n 0, 1) := by decide +kernel
theorem d_Hp_dropUntouched_101 : decode b_Hp_dropUntouched 101 = .ok (.dup, 1) := by decide +kernel
theorem d_Hp_dropUntouched_102 : decode b_Hp_dropUntouched 102 = .ok (.getfield 24, 3) := by decide +kernel
theorem d_Hp_dropUntouched_105 : decode b_Hp_dropUntouched 105 = .ok (.iconst 1, 1) := by decide +kernel
theorem d_Hp_dropUntouched_106 : decode b_Hp_dropUntouched 106 = .ok (.isub, 1) := by decide +kernel
theorem d_Hp_dropUntouched_107 : decode b_Hp_dropUntouched 107 = .ok (.putfield 24, 3) := by decide +kernel
theorem d_Hp_dropUntouched_110 : decode b_Hp_dropUntouched 110 = .ok (.iinc 3 1, 3) := by decide +kernel
theorem d_Hp_dropUntouched_113 : decode b_Hp_dropUntouched 113 = .ok (.goto (-104), 3) := by decide +kernel
theorem d_Hp_dropUntouched_116 : decode b_Hp_dropUntouched 116 = .ok (.aload_n 0, 1) := by decide +kernel
theorem d_Hp_dropUntouched_117 : decode b_Hp_dropUntouched 117 = .ok (.getfield 21, 3) := by decide +kernel
theorem d_Hp_dropUntouched_120 : decode b_Hp_dropUntouched 120 = .ok (.astore_n 3, 1) := by decide +kernel
theorem d_Hp_dropUntouched_121 : decode b_Hp_dropUntouched 121 = .ok (.aload_n 0, 1) := by decide +kernel
theorem d_Hp_dropUntouched_122 : decode b_Hp_dropUntouched 122 = .ok (.aload_n 0, 1) := by decide +kernel
theorem d_Hp_dropUntouched_123 : decode b_Hp_dropUntouched 123 = .ok (.getfield 34, 3) := by decide +kernel
theorem d_Hp_dropUntouched_126 : decode b_Hp_dropUntouched 126 = .ok (.putfield 21, 3) := by decide +kernel
theorem d_Hp_dropUntouched_129 : decode b_Hp_dropUntouched 129 = .ok (.aload_n 0, 1) := by decide +kernel
theorem d_Hp_dropUntouched_130 : decode b_Hp_dropUntouched 130 = .ok (.aload_n 3, 1) := by decide +kernel
theorem d_Hp_dropUntouched_131 : decode b_Hp_dropUntouched 131 = .ok (.putfield 34, 3) := by decide +kernel
theorem d_Hp_dropUntouched_134 : decode b_Hp_dropUntouched 134 = .ok (.aload_n 0, 1) := by decide +kernel
theorem d_Hp_dropUntouched_135 : decode b_Hp_dropUntouched 135 = .ok (.iload_n 2, 1) := by decide +kernel
theorem d_Hp_dropUntouched_136 : decode b_Hp_dropUntouched 136 = .ok (.putfield 28, 3) := by decide +kernel
theorem d_Hp_dropUntouched_139 : decode b_Hp_dropUntouched 139 = .ok (.aload_n 0, 1) := by decide +kernel
theorem d_Hp_dropUntouched_140 : decode b_Hp_dropUntouched 140 = .ok (.iconst 1, 1) := by decide +kernel
theorem d_Hp_dropUntouched_141 : decode b_Hp_dropUntouched 141 = .ok (.putfield 37, 3) := by decide +kernel
theorem d_Hp_dropUntouched_144 : decode b_Hp_dropUntouched 144 = .ok (.iload_n 1, 1) := by decide +kernel
theorem d_Hp_dropUntouched_145 : decode b_Hp_dropUntouched 145 = .ok (.aload_n 0, 1) := by decide +kernel
theorem d_Hp_dropUntouched_146 : decode b_Hp_dropUntouched 146 = .ok (.getfield 24, 3) := by decide +kernel
theorem d_Hp_dropUntouched_149 : decode b_Hp_dropUntouched 149 = .ok (.isub, 1) := by decide +kernel
theorem d_Hp_dropUntouched_150 : decode b_Hp_dropUntouched 150 = .ok (.ireturn, 1) := by decide +kernel
abbrev ra_Hp_dropUntouched (mc ms : Nat) : Room := { frames := 1, cells := mc, slots := ms, locals := 120 }
def wja_Hp_dropUntouched_110 (mc ms : Nat) (Post : Ly → St → Int32 → Nat → Nat → Prop) (K_9 : Ly → St → Nat → Nat → Int32 → Int32 → Int32 → Prop) (a0 : Nat) (y_j110 : Ly) (s_j110 : St) (d_j110 e_j110 : Nat) (x1j110 : Int32) (x2j110 : Int32) (x3j110 : Int32) : Prop := (d_j110 ≤ mc ∧ e_j110 ≤ ms) ∧ K_9 y_j110 s_j110 d_j110 e_j110 x1j110 x2j110 (x3j110 + 1)
def wja_Hp_dropUntouched_81 (mc ms : Nat) (Post : Ly → St → Int32 → Nat → Nat → Prop) (K_9 : Ly → St → Nat → Nat → Int32 → Int32 → Int32 → Prop) (a0 : Nat) (y_j81 : Ly) (s_j81 : St) (d_j81 e_j81 : Nat) (x1j81 : Int32) (x2j81 : Int32) (x3j81 : Int32) : Prop := (d_j81 ≤ mc ∧ e_j81 ≤ ms) ∧ xA y_j81 s_j81 a0 0 x3j81 (fun x_8 : Int32 => ((x_8 = (-2) → wja_Hp_dropUntouched_110 mc ms Post K_9 a0 y_j81 s_j81 d_j81 e_j81 x1j81 x2j81 x3j81) ∧ (¬ (x_8 = (-2)) → xS y_j81 s_j81 a0 0 x3j81 (-2) (fun s_9 : St => xP (uV s_9 a0 4 ((sV s_9 a0 4) - 1)) (fun s_10 : St => wja_Hp_dropUntouched_110 mc ms Post K_9 a0 y_j81 s_10 d_j81 e_j81 x1j81 x2j81 x3j81)))))
def wba_Hp_dropUntouched_9 (mc ms : Nat) (Post : Ly → St → Int32 → Nat → Nat → Prop) (K_9 : Ly → St → Nat → Nat → Int32 → Int32 → Int32 → Prop) (a0 : Nat) (y_h9 : Ly) (s_h9 : St) (d_h9 e_h9 : Nat) (x1h9 : Int32) (x2h9 : Int32) (x3h9 : Int32) : Prop := (d_h9 ≤ mc ∧ e_h9 ≤ ms) ∧ (((sV s_h9 a0 9) < x3h9 → (∀ b j, kd (cl b) j = 7 → sX s_h9 b j ≠ (a0, 3) ∧ sX s_h9 b j ≠ (a0, 7)) ∧ xW (swL y_h9 a0 3 7) (swS s_h9 a0 3 7) (fun (y_3 : Ly) (s_4 : St) => xP (uV s_4 a0 5 x2h9) (fun s_5 : St => xP (uV s_5 a0 8 1) (fun s_6 : St => Post y_3 s_6 (x1h9 - (sV s_6 a0 4)) d_h9 e_h9)))) ∧ (¬ ((sV s_h9 a0 9) < x3h9) → xA y_h9 s_h9 a0 0 x3h9 (fun x_7 : Int32 => ((x_7 = (-2) → wja_Hp_dropUntouched_81 mc ms Post K_9 a0 y_h9 s_h9 d_h9 e_h9 x1h9 x2h9 x3h9) ∧ (¬ (x_7 = (-2)) → xA y_h9 s_h9 a0 12 x3h9 (fun x_11 : Int32 => ((¬ x_11 = 1 → wja_Hp_dropUntouched_81 mc ms Post K_9 a0 y_h9 s_h9 d_h9 e_h9 x1h9 x2h9 x3h9) ∧ (x_11 = 1 → xA y_h9 s_h9 a0 1 x3h9 (fun x_12 : Int32 => xA y_h9 s_h9 a0 2 x3h9 (fun x_13 : Int32 => xC y_h9 s_h9 a0 3 a0 7 .int x_12 x2h9 x_13 (fun s_14 : St => xS y_h9 s_14 a0 1 x3h9 x2h9 (fun s_15 : St => xA y_h9 s_15 a0 2 x3h9 (fun x_16 : Int32 => wja_Hp_dropUntouched_110 mc ms Post K_9 a0 y_h9 s_15 d_h9 e_h9 x1h9 (x2h9 + x_16) x3h9)))))))))))))
def wla_Hp_dropUntouched_9 (mc ms : Nat) (Post : Ly → St → Int32 → Nat → Nat → Prop) (a0 : Nat) (y_h9 : Ly) (s_h9 : St) (d_h9 e_h9 : Nat) (x1h9 : Int32) (x2h9 : Int32) (x3h9 : Int32) : Prop := ∃ (I : Ly → St → Nat → Nat → Int32 → Int32 → Int32 → Prop) (μ : Ly → St → Nat → Nat → Int32 → Int32 → Int32 → Nat), I y_h9 s_h9 d_h9 e_h9 x1h9 x2h9 x3h9 ∧ ∀ (u1 : Ly) (u2 : St) (u3 u4 : Nat) (t0 : Int32) (t1 : Int32) (t2 : Int32), I u1 u2 u3 u4 t0 t1 t2 → wba_Hp_dropUntouched_9 mc ms Post (fun z1 z2 z3 z4 t0q t1q t2q => I z1 z2 z3 z4 t0q t1q t2q ∧ μ z1 z2 z3 z4 t0q t1q t2q < μ u1 u2 u3 u4 t0 t1 t2) a0 u1 u2 u3 u4 t0 t1 t2
def wa_Hp_dropUntouched (mc ms : Nat) (y : Ly) (Post : Ly → St → Int32 → Nat → Nat → Prop) (σ : St) (a0 : Nat) : Prop := wla_Hp_dropUntouched_9 mc ms Post a0 y σ 0 0 (sV σ a0 4) 0 1
set_option maxHeartbeats 4000000 in
set_option maxRecDepth 100000 in
theorem ca_Hp_dropUntouched (l : Launch) (D : va_G) (g : Nat → ClassId) (ad : Nat → Nat) (mc ms : Nat) (y : Ly) (Post : Ly → St → Int32 → Nat → Nat → Prop) (σ : St) (a0 : Nat) (sz uz : Nat) (h_a0 : cl a0 = 2) (h : wa_Hp_dropUntouched mc ms y Post σ a0) : Met l y_Hp_dropUntouched (mw y_Hp_dropUntouched b_Hp_dropUntouched 4 (some .int)) (ra_Hp_dropUntouched mc ms) (PCu g D [] [.ref (ad a0)] sz uz (ws g ad y σ)) (va_Qi (fun (r : Int32) (u : Ly × St × Nat × Nat) => Post u.1 u.2.1 r u.2.2.1 u.2.2.2) (QU D (va_A (ws g ad y σ) sz) (fun u => ws g ad u.1 u.2.1) sz uz (fun u => u.2.2.1) (fun u => u.2.2.2)) (va_A (ws g ad y σ) sz)) mc ms (va_A (ws g ad y σ) sz) := by
  refine ofIu (by decide +kernel) (Nat.le_of_ble_eq_true rfl) ?_
  intro p e s m args below meth c A Q ls H locs G hsz hP hD hS hl hret
  subst hsz
  have hl : lv_has ls 4 [(0, .ref (ad a0))] := hl
  have hd : 0 ≤ mc ∧ 0 ≤ ms := ⟨Nat.zero_le _, Nat.zero_le _⟩
  unfold wa_Hp_dropUntouched at h
  refine lv_aload_n G.1 G.2.1 d_Hp_dropUntouched_0 rfl (lv_at hl 0 rfl) ?_
  refine ugf (v := .int (sV σ a0 4)) G hP h_a0 iHp rfl 4 (by decide) rfl q923 rfl rfl d_Hp_dropUntouched_1 ?_
  refine lv_istore_n (lv' := [(1, .int (sV σ a0 4)), (0, .ref (ad a0))]) G.1 G.2.1 d_Hp_dropUntouched_4 rfl hl (by decide) rfl (fun ls hl => ?_)
  refine lv_iconst (v := 0) G.1 G.2.1 d_Hp_dropUntouched_5 (by decide) ?_
  refine lv_istore_n (lv' := [(2, .int 0), (1, .int (sV σ a0 4)), (0, .ref (ad a0))]) G.1 G.2.1 d_Hp_dropUntouched_6 rfl hl (by decide) rfl (fun ls hl => ?_)
  refine lv_iconst (v := 1) G.1 G.2.1 d_Hp_dropUntouched_7 (by decide) ?_
  refine lv_istore_n (lv' := [(3, .int 1), (2, .int 0), (1, .int (sV σ a0 4)), (0, .ref (ad a0))]) G.1 G.2.1 d_Hp_dropUntouched_8 rfl hl (by decide) rfl (fun ls hl => ?_)
  unfold wla_Hp_dropUntouched_9 at h
  obtain ⟨I_9, μ_9, hI_9, hB_9⟩ := h
  have L_9 : ∀ (n_9 : Nat) (y_h9 : Ly) (s_h9 : St) (d_h9 e_h9 : Nat) (x1h9 : Int32) (x2h9 : Int32) (x3h9 : Int32), μ_9 y_h9 s_h9 d_h9 e_h9 x1h9 x2h9 x3h9 < n_9 → I_9 y_h9 s_h9 d_h9 e_h9 x1h9 x2h9 x3h9 → ∀ (H : Heap) (locs : List Loc), va_P D CL (ws g ad y_h9 s_h9) H → va_D A (ws g ad y_h9 s_h9) → va_S A s.heap H locs → ∀ ls, lv_has ls 4 [(0, .ref (ad a0)), (1, .int x1h9), (2, .int x2h9), (3, .int x3h9)] → W p l e (ra_Hp_dropUntouched mc ms) s m args below meth c H locs d_h9 e_h9 Q (F0 m 9 ls []) := by
    intro n_9
    induction n_9 with
    | zero => intro y_h9 s_h9 d_h9 e_h9 x1h9 x2h9 x3h9 hμ; exact absurd hμ (Nat.not_lt_zero _)
    | succ n_9 ih_9 =>
      intro y_h9 s_h9 d_h9 e_h9 x1h9 x2h9 x3h9 hμ_9 hJ H locs hP hD hS ls hl
      obtain ⟨K_9, hK_9, h⟩ : ∃ K : Ly → St → Nat → Nat → Int32 → Int32 → Int32 → Prop, (∀ z1 z2 z3 z4 (t0 : Int32) (t1 : Int32) (t2 : Int32), K z1 z2 z3 z4 t0 t1 t2 → I_9 z1 z2 z3 z4 t0 t1 t2 ∧ μ_9 z1 z2 z3 z4 t0 t1 t2 < μ_9 y_h9 s_h9 d_h9 e_h9 x1h9 x2h9 x3h9) ∧ wba_Hp_dropUntouched_9 mc ms Post K a0 y_h9 s_h9 d_h9 e_h9 x1h9 x2h9 x3h9 := ⟨_, fun _ _ _ _ _ _ _ h => h, hB_9 y_h9 s_h9 d_h9 e_h9 x1h9 x2h9 x3h9 hJ⟩
      unfold wba_Hp_dropUntouched_9 at h
      obtain ⟨hd, h⟩ := h
      refine lv_iload_n G.1 G.2.1 d_Hp_dropUntouched_9 rfl (lv_at hl 3 rfl) ?_
      refine lv_aload_n G.1 G.2.1 d_Hp_dropUntouched_10 rfl (lv_at hl 0 rfl) ?_
      refine ugf (v := .int (sV s_h9 a0 9)) G hP h_a0 iHp rfl 9 (by decide) rfl q930 rfl rfl d_Hp_dropUntouched_11 ?_
      refine lv_icmp_gt (tgt := 116) G.1 G.2.1 d_Hp_dropUntouched_14 (by decide) (fun c14 => ?_) (fun c14 => ?_)
      · skip
        have h := h.1 c14
        refine lv_aload_n G.1 G.2.1 d_Hp_dropUntouched_116 rfl (lv_at hl 0 rfl) ?_
        refine ugf (v := .ref (yP y_h9 a0 3)) G hP h_a0 iHp rfl 3 (by decide) rfl q921 rfl rfl d_Hp_dropUntouched_117 ?_
        refine lv_astore_n (lv' := [(3, .ref (yP y_h9 a0 3)), (0, .ref (ad a0)), (1, .int x1h9), (2, .int x2h9)]) G.1 G.2.1 d_Hp_dropUntouched_120 rfl hl (by decide) rfl (fun ls hl => ?_)
        refine lv_aload_n G.1 G.2.1 d_Hp_dropUntouched_121 rfl (lv_at hl 1 rfl) ?_
        refine lv_aload_n G.1 G.2.1 d_Hp_dropUntouched_122 rfl (lv_at hl 1 rfl) ?_
        refine ugf (v := .ref (yP y_h9 a0 7)) G hP h_a0 iHp rfl 7 (by decide) rfl q928 rfl rfl d_Hp_dropUntouched_123 ?_
        obtain ⟨n_1, h⟩ := h
        refine uswA (k1 := 3) (k2 := 7) G hP hD hS h_a0 iHp tHp tHp_ok nHp rfl (by decide) rfl q921 rfl rfl rfl rfl d_Hp_dropUntouched_126 (fun q_2 H locs hq_q_2 hP hD hS => ?_)
        refine lv_aload_n G.1 G.2.1 d_Hp_dropUntouched_129 rfl (lv_at hl 1 rfl) ?_
        refine lv_aload_n G.1 G.2.1 d_Hp_dropUntouched_130 rfl (lv_at hl 0 rfl) ?_
        have he_q_2 : ((ws g ad y_h9 s_h9).set q_2 (ad a0, .inr (2, (fls ad y_h9 s_h9 a0).set 3 (.ref (yP y_h9 a0 7)))))[q_2]? = some (ad a0, .inr (2, (fls ad y_h9 s_h9 a0).set 3 (.ref (yP y_h9 a0 7)))) := by
          rw [List.getElem?_set_self]; show q_2 < (cL.map _).length; rw [List.length_map]; exact (List.getElem?_eq_some_iff.mp hq_q_2).1
        refine kp (v := .ref (yP y_h9 a0 3)) G iHp tHp tHp_ok nHp hP hD hS q_2 he_q_2 rfl 7 (by decide) q928 rfl rfl rfl rfl ?_ d_Hp_dropUntouched_131 (fun H locs hP hD hS => ?_)
        · show 7 < ((List.map _ (List.range (nf (cl a0)))).set _ _).length
          rw [List.length_set, List.length_map, List.length_range, h_a0]; decide
        obtain ⟨hP, hD⟩ := sw_ws (t := 0) (by decide) (by decide) h_a0 hq_q_2 (by decide) rfl rfl rfl rfl n_1 hP hD
        obtain ⟨y_3, e_y_3⟩ : ∃ z, z = swL y_h9 a0 3 7 := ⟨_, rfl⟩
        obtain ⟨s_4, e_s_4⟩ : ∃ z, z = swS s_h9 a0 3 7 := ⟨_, rfl⟩
        have h : xW (swL y_h9 a0 3 7) (swS s_h9 a0 3 7) _ := h
        unfold xW at h
        rw [← e_y_3, ← e_s_4] at hP hD h
        have hl := lv_sub (l' := [(0, .ref (ad a0)), (1, .int x1h9), (2, .int x2h9)]) hl [1, 2, 3] rfl
        refine W.eq (g2 := F0 m 134 ls []) rfl ?_
        refine lv_aload_n G.1 G.2.1 d_Hp_dropUntouched_134 rfl (lv_at hl 0 rfl) ?_
        refine lv_iload_n G.1 G.2.1 d_Hp_dropUntouched_135 rfl (lv_at hl 2 rfl) ?_
        refine upf G hP hD hS h 5 putV h_a0 iHp tHp tHp_ok nHp rfl (by decide) rfl q925 rfl rfl fV rfl rfl d_Hp_dropUntouched_136 (fun s_5 H locs h hP hD hS => ?_)
        refine lv_aload_n G.1 G.2.1 d_Hp_dropUntouched_139 rfl (lv_at hl 0 rfl) ?_
        refine lv_iconst (v := 1) G.1 G.2.1 d_Hp_dropUntouched_140 (by decide) ?_
        refine upf G hP hD hS h 8 putV h_a0 iHp tHp tHp_ok nHp rfl (by decide) rfl q929 rfl rfl fV rfl rfl d_Hp_dropUntouched_141 (fun s_6 H locs h hP hD hS => ?_)
        refine lv_iload_n G.1 G.2.1 d_Hp_dropUntouched_144 rfl (lv_at hl 1 rfl) ?_
        refine lv_aload_n G.1 G.2.1 d_Hp_dropUntouched_145 rfl (lv_at hl 0 rfl) ?_
        refine ugf (v := .int (sV s_6 a0 4)) G hP h_a0 iHp rfl 4 (by decide) rfl q923 rfl rfl d_Hp_dropUntouched_146 ?_
        refine lv_isub G.1 G.2.1 d_Hp_dropUntouched_149 ?_
        exact hret _ (y_3, s_6, d_h9, e_h9) _ _ _ _ _ ls h hP hD hS (Nat.le_refl _) (Nat.le_refl _) hd.1 hd.2 d_Hp_dropUntouched_150
      · skip
        have h := h.2 c14
        refine lv_aload_n G.1 G.2.1 d_Hp_dropUntouched_17 rfl (lv_at hl 0 rfl) ?_
        refine ugf (v := .ref (yP y_h9 a0 0)) G hP h_a0 iHp rfl 0 (by decide) rfl q913 rfl rfl d_Hp_dropUntouched_18 ?_
        refine lv_iload_n G.1 G.2.1 d_Hp_dropUntouched_21 rfl (lv_at hl 3 rfl) ?_
        refine uiald G hP (kdp h_a0 rfl) (typ h_a0 rfl) h d_Hp_dropUntouched_22 (fun x_7 h => ?_)
        refine lv_bipush (v := (-2)) G.1 G.2.1 d_Hp_dropUntouched_23 (by decide) ?_
        have J_110 : ∀ (y_j110 : Ly) (s_j110 : St) (d_j110 e_j110 : Nat) (x1j110 : Int32) (x2j110 : Int32) (x3j110 : Int32) (H : Heap) (locs : List Loc), wja_Hp_dropUntouched_110 mc ms Post K_9 a0 y_j110 s_j110 d_j110 e_j110 x1j110 x2j110 x3j110 → va_P D CL (ws g ad y_j110 s_j110) H → va_D A (ws g ad y_j110 s_j110) → va_S A s.heap H locs → ∀ ls, lv_has ls 4 [(0, .ref (ad a0)), (1, .int x1j110), (2, .int x2j110), (3, .int x3j110)] → W p l e (ra_Hp_dropUntouched mc ms) s m args below meth c H locs d_j110 e_j110 Q (F0 m 110 ls []) := by
          intro y_j110 s_j110 d_j110 e_j110 x1j110 x2j110 x3j110 H locs h hP hD hS ls hl
          unfold wja_Hp_dropUntouched_110 at h
          obtain ⟨hd, h⟩ := h
          refine lv_iinc (v := x3j110 + 1) (lv' := [(3, .int (x3j110 + 1)), (0, .ref (ad a0)), (1, .int x1j110), (2, .int x2j110)]) G.1 G.2.1 d_Hp_dropUntouched_110 hl (k := 3) rfl rfl (by decide) rfl (fun ls hl => ?_)
          refine lv_goto (tgt := 9) G.1 G.2.1 d_Hp_dropUntouched_113 (by decide) ?_
          have h := hK_9 y_j110 s_j110 d_j110 e_j110 x1j110 x2j110 (x3j110 + 1) h
          exact ih_9 y_j110 s_j110 d_j110 e_j110 x1j110 x2j110 (x3j110 + 1) (Nat.lt_of_lt_of_le h.2 (Nat.le_of_lt_succ hμ_9)) h.1 H locs hP hD hS ls (lv_sub hl [1, 2, 3, 0] rfl)
        have J_81 : ∀ (y_j81 : Ly) (s_j81 : St) (d_j81 e_j81 : Nat) (x1j81 : Int32) (x2j81 : Int32) (x3j81 : Int32) (H : Heap) (locs : List Loc), wja_Hp_dropUntouched_81 mc ms Post K_9 a0 y_j81 s_j81 d_j81 e_j81 x1j81 x2j81 x3j81 → va_P D CL (ws g ad y_j81 s_j81) H → va_D A (ws g ad y_j81 s_j81) → va_S A s.heap H locs → ∀ ls, lv_has ls 4 [(0, .ref (ad a0)), (1, .int x1j81), (2, .int x2j81), (3, .int x3j81)] → W p l e (ra_Hp_dropUntouched mc ms) s m args below meth c H locs d_j81 e_j81 Q (F0 m 81 ls []) := by
          intro y_j81 s_j81 d_j81 e_j81 x1j81 x2j81 x3j81 H locs h hP hD hS ls hl
          unfold wja_Hp_dropUntouched_81 at h
          obtain ⟨hd, h⟩ := h
          refine lv_aload_n G.1 G.2.1 d_Hp_dropUntouched_81 rfl (lv_at hl 0 rfl) ?_
          refine ugf (v := .ref (yP y_j81 a0 0)) G hP h_a0 iHp rfl 0 (by decide) rfl q913 rfl rfl d_Hp_dropUntouched_82 ?_
          refine lv_iload_n G.1 G.2.1 d_Hp_dropUntouched_85 rfl (lv_at hl 3 rfl) ?_
          refine uiald G hP (kdp h_a0 rfl) (typ h_a0 rfl) h d_Hp_dropUntouched_86 (fun x_8 h => ?_)
          refine lv_bipush (v := (-2)) G.1 G.2.1 d_Hp_dropUntouched_87 (by decide) ?_
          refine lv_icmp_eq (tgt := 110) G.1 G.2.1 d_Hp_dropUntouched_89 (by decide) (fun c89 => ?_) (fun c89 => ?_)
          · skip
            have h := h.1 c89
            exact J_110 y_j81 s_j81 d_j81 e_j81 x1j81 x2j81 x3j81 H locs h hP hD hS ls (lv_sub hl [0, 1, 2, 3] rfl)
          · skip
            have h := h.2 c89
            refine lv_aload_n G.1 G.2.1 d_Hp_dropUntouched_92 rfl (lv_at hl 0 rfl) ?_
            refine ugf (v := .ref (yP y_j81 a0 0)) G hP h_a0 iHp rfl 0 (by decide) rfl q913 rfl rfl d_Hp_dropUntouched_93 ?_
            refine lv_iload_n G.1 G.2.1 d_Hp_dropUntouched_96 rfl (lv_at hl 3 rfl) ?_
            refine lv_bipush (v := (-2)) G.1 G.2.1 d_Hp_dropUntouched_97 (by decide) ?_
            refine uiast G hP hD hS (kdp h_a0 rfl) (typ h_a0 rfl) h d_Hp_dropUntouched_99 (fun s_9 H locs h hP hD hS => ?_)
            refine W.eq (g2 := F0 m 100 ls []) rfl ?_
            refine lv_aload_n G.1 G.2.1 d_Hp_dropUntouched_100 rfl (lv_at hl 0 rfl) ?_
            refine lv_dup G.1 G.2.1 d_Hp_dropUntouched_101 rfl ?_
            refine ugf (v := .int (sV s_9 a0 4)) G hP h_a0 iHp rfl 4 (by decide) rfl q923 rfl rfl d_Hp_dropUntouched_102 ?_
            refine lv_iconst (v := 1) G.1 G.2.1 d_Hp_dropUntouched_105 (by decide) ?_
            refine lv_isub G.1 G.2.1 d_Hp_dropUntouched_106 ?_
            refine upf G hP hD hS h 4 putV h_a0 iHp tHp tHp_ok nHp rfl (by decide) rfl q923 rfl rfl fV rfl rfl d_Hp_dropUntouched_107 (fun s_10 H locs h hP hD hS => ?_)
            exact J_110 y_j81 s_10 d_j81 e_j81 x1j81 x2j81 x3j81 H locs h hP hD hS ls (lv_sub hl [0, 1, 2, 3] rfl)
        refine lv_icmp_eq (tgt := 81) G.1 G.2.1 d_Hp_dropUntouched_25 (by decide) (fun c25 => ?_) (fun c25 => ?_)
        · skip
          have h := h.1 c25
          exact J_81 y_h9 s_h9 d_h9 e_h9 x1h9 x2h9 x3h9 H locs h hP hD hS ls (lv_sub hl [0, 1, 2, 3] rfl)
        · skip
          have h := h.2 c25
          refine lv_aload_n G.1 G.2.1 d_Hp_dropUntouched_28 rfl (lv_at hl 0 rfl) ?_
          refine W.eq (g2 := F0 m 29 ls [.ref (ad a0)]) rfl ?_
          refine ugf (v := .ref (yP y_h9 a0 12)) G hP h_a0 iHp rfl 12 (by decide) rfl q933 rfl rfl d_Hp_dropUntouched_29 ?_
          refine lv_iload_n G.1 G.2.1 d_Hp_dropUntouched_32 rfl (lv_at hl 3 rfl) ?_
          refine ubald G hP (kdp h_a0 rfl) (typ h_a0 rfl) h d_Hp_dropUntouched_33 (fun x_11 h => ?_)
          refine lv_iconst (v := 1) G.1 G.2.1 d_Hp_dropUntouched_34 (by decide) ?_
          refine lv_icmp_ne (tgt := 81) G.1 G.2.1 d_Hp_dropUntouched_35 (by decide) (fun c35 => ?_) (fun c35 => ?_)
          · skip
            have h := h.1 c35
            exact J_81 y_h9 s_h9 d_h9 e_h9 x1h9 x2h9 x3h9 H locs h hP hD hS ls (lv_sub hl [0, 1, 2, 3] rfl)
          · skip
            have h := h.2 c35
            refine lv_aload_n G.1 G.2.1 d_Hp_dropUntouched_38 rfl (lv_at hl 0 rfl) ?_
            refine ugf (v := .ref (yP y_h9 a0 3)) G hP h_a0 iHp rfl 3 (by decide) rfl q921 rfl rfl d_Hp_dropUntouched_39 ?_
            refine lv_aload_n G.1 G.2.1 d_Hp_dropUntouched_42 rfl (lv_at hl 0 rfl) ?_
            refine ugf (v := .ref (yP y_h9 a0 1)) G hP h_a0 iHp rfl 1 (by decide) rfl q916 rfl rfl d_Hp_dropUntouched_43 ?_
            refine lv_iload_n G.1 G.2.1 d_Hp_dropUntouched_46 rfl (lv_at hl 3 rfl) ?_
            refine uiald G hP (kdp h_a0 rfl) (typ h_a0 rfl) h d_Hp_dropUntouched_47 (fun x_12 h => ?_)
            refine lv_aload_n G.1 G.2.1 d_Hp_dropUntouched_48 rfl (lv_at hl 0 rfl) ?_
            refine W.eq (g2 := F0 m 49 ls [.ref (ad a0), .int x_12, .ref (yP y_h9 a0 3)]) rfl ?_
            refine ugf (v := .ref (yP y_h9 a0 7)) G hP h_a0 iHp rfl 7 (by decide) rfl q928 rfl rfl d_Hp_dropUntouched_49 ?_
            refine lv_iload_n G.1 G.2.1 d_Hp_dropUntouched_52 rfl (lv_at hl 2 rfl) ?_
            refine lv_aload_n G.1 G.2.1 d_Hp_dropUntouched_53 rfl (lv_at hl 0 rfl) ?_
            refine ugf (v := .ref (yP y_h9 a0 2)) G hP h_a0 iHp rfl 2 (by decide) rfl q918 rfl rfl d_Hp_dropUntouched_54 ?_
            refine lv_iload_n G.1 G.2.1 d_Hp_dropUntouched_57 rfl (lv_at hl 3 rfl) ?_
            refine uiald G hP (kdp h_a0 rfl) (typ h_a0 rfl) h d_Hp_dropUntouched_58 (fun x_13 h => ?_)
            refine ucpy G hP hD hS (kdp h_a0 rfl) (typ h_a0 rfl) (kdp h_a0 rfl) (typ h_a0 rfl) rfl rfl h hl.1 q2386 q488 q487 q338 (Nat.le_of_ble_eq_true rfl) (Nat.le_of_ble_eq_true rfl) d_Hp_dropUntouched_59 (fun s_14 H locs h hP hD hS => ?_)
            refine lv_aload_n G.1 G.2.1 d_Hp_dropUntouched_62 rfl (lv_at hl 0 rfl) ?_
            refine ugf (v := .ref (yP y_h9 a0 1)) G hP h_a0 iHp rfl 1 (by decide) rfl q916 rfl rfl d_Hp_dropUntouched_63 ?_
            refine lv_iload_n G.1 G.2.1 d_Hp_dropUntouched_66 rfl (lv_at hl 3 rfl) ?_
            refine lv_iload_n G.1 G.2.1 d_Hp_dropUntouched_67 rfl (lv_at hl 2 rfl) ?_
            refine uiast G hP hD hS (kdp h_a0 rfl) (typ h_a0 rfl) h d_Hp_dropUntouched_68 (fun s_15 H locs h hP hD hS => ?_)
            refine W.eq (g2 := F0 m 69 ls []) rfl ?_
            refine lv_iload_n G.1 G.2.1 d_Hp_dropUntouched_69 rfl (lv_at hl 2 rfl) ?_
            refine lv_aload_n G.1 G.2.1 d_Hp_dropUntouched_70 rfl (lv_at hl 0 rfl) ?_
            refine ugf (v := .ref (yP y_h9 a0 2)) G hP h_a0 iHp rfl 2 (by decide) rfl q918 rfl rfl d_Hp_dropUntouched_71 ?_
            refine lv_iload_n G.1 G.2.1 d_Hp_dropUntouched_74 rfl (lv_at hl 3 rfl) ?_
            refine uiald G hP (kdp h_a0 rfl) (typ h_a0 rfl) h d_Hp_dropUntouched_75 (fun x_16 h => ?_)
            refine lv_iadd G.1 G.2.1 d_Hp_dropUntouched_76 ?_
            refine lv_istore_n (lv' := [(2, .int (x2h9 + x_16)), (0, .ref (ad a0)), (1, .int x1h9), (3, .int x3h9)]) G.1 G.2.1 d_Hp_dropUntouched_77 rfl hl (by decide) rfl (fun ls hl => ?_)
            refine lv_goto (tgt := 110) G.1 G.2.1 d_Hp_dropUntouched_78 (by decide) ?_
            exact J_110 y_h9 s_15 d_h9 e_h9 x1h9 (x2h9 + x_16) x3h9 H locs h hP hD hS ls (lv_sub hl [1, 2, 0, 3] rfl)
  exact L_9 _ y σ 0 0 (sV σ a0 4) 0 1 (Nat.lt_succ_self _) hI_9 H locs hP hD hS ls (lv_sub hl [3, 2, 1, 0] rfl)
theorem q2357 : Cond.methodLink "ClassWorks$Machine" 470 y_Hp_beginTouch ∈ lw_ok := lw_okmem (List.mem_of_getElem? (i := 2357) (by decide +kernel)) rfl
theorem q2360 : Cond.code y_Hp_beginTouch b_Hp_beginTouch 1 (none) ∈ lw_ok := lw_okmem (List.mem_of_getElem? (i := 2360) (by decide +kernel)) rfl
theorem q2358 : Cond.instanceMethod y_Hp_beginTouch ∈ lw_ok := lw_okmem (List.mem_of_getElem? (i := 2358) (by decide +kernel)) rfl
theorem q2359 : Cond.selects y_Hp_beginTouch.cls y_Hp_beginTouch y_Hp_beginTouch ∈ lw_ok := lw_okmem (List.mem_of_getElem? (i := 2359) (by decide +kernel)) rfl
theorem w9_Hp_beginTouch : CWv y_Hp_beginTouch b_Hp_beginTouch 1 (none) 0 ∧ Cond.instanceMethod y_Hp_beginTouch ∈ lw_ok ∧ Cond.selects y_Hp_beginTouch.cls y_Hp_beginTouch y_Hp_beginTouch ∈ lw_ok := ⟨⟨q2360, q346, by decide +kernel, by decide +kernel, by decide +kernel⟩, q2358, q2359⟩
theorem q821 : Cond.fieldLink "ClassWorks$Machine" 473 "ClassWorks$World" "count" "I" ∈ lw_ok := lw_okmem (List.mem_of_getElem? (i := 821) (by decide +kernel)) rfl
theorem q2374 : Cond.methodLink "ClassWorks$Machine" 483 y_Hp_nextTouched ∈ lw_ok := lw_okmem (List.mem_of_getElem? (i := 2374) (by decide +kernel)) rfl
theorem q2377 : Cond.code y_Hp_nextTouched b_Hp_nextTouched 1 (some .int) ∈ lw_ok := lw_okmem (List.mem_of_getElem? (i := 2377) (by decide +kernel)) rfl
theorem q2375 : Cond.instanceMethod y_Hp_nextTouched ∈ lw_ok := lw_okmem (List.mem_of_getElem? (i := 2375) (by decide +kernel)) rfl
theorem q2376 : Cond.selects y_Hp_nextTouched.cls y_Hp_nextTouched y_Hp_nextTouched ∈ lw_ok := lw_okmem (List.mem_of_getElem? (i := 2376) (by decide +kernel)) rfl
theorem w9_Hp_nextTouched : CWv y_Hp_nextTouched b_Hp_nextTouched 1 (some .int) 0 ∧ Cond.instanceMethod y_Hp_nextTouched ∈ lw_ok ∧ Cond.selects y_Hp_nextTouched.cls y_Hp_nextTouched y_Hp_nextTouched ∈ lw_ok := ⟨⟨q2377, q346, by decide +kernel, by decide +kernel, by decide +kernel⟩, q2375, q2376⟩
theorem q2382 : Cond.methodLink "ClassWorks$Machine" 489 y_Hp_dropUntouched ∈ lw_ok := lw_okmem (List.mem_of_getElem? (i := 2382) (by decide +kernel)) rfl
theorem q2385 : Cond.code y_Hp_dropUntouched b_Hp_dropUntouched 4 (some .int) ∈ lw_ok := lw_okmem (List.mem_of_getElem? (i := 2385) (by decide +kernel)) rfl
theorem q2383 : Cond.instanceMethod y_Hp_dropUntouched ∈ lw_ok := lw_okmem (List.mem_of_getElem? (i := 2383) (by decide +kernel)) rfl
theorem q2384 : Cond.selects y_Hp_dropUntouched.cls y_Hp_dropUntouched y_Hp_dropUntouched ∈ lw_ok := lw_okmem (List.mem_of_getElem? (i := 2384) (by decide +kernel)) rfl
theorem w9_Hp_dropUntouched : CWv y_Hp_dropUntouched b_Hp_dropUntouched 4 (some .int) 0 ∧ Cond.instanceMethod y_Hp_dropUntouched ∈ lw_ok ∧ Cond.selects y_Hp_dropUntouched.cls y_Hp_dropUntouched y_Hp_dropUntouched ∈ lw_ok := ⟨⟨q2385, q346, by decide +kernel, by decide +kernel, by decide +kernel⟩, q2383, q2384⟩
theorem q2378 : Cond.methodLink "ClassWorks$Machine" 486 y_Ma_touchFields ∈ lw_ok := lw_okmem (List.mem_of_getElem? (i := 2378) (by decide +kernel)) rfl
theorem q2381 : Cond.code y_Ma_touchFields b_Ma_touchFields 5 (none) ∈ lw_ok := lw_okmem (List.mem_of_getElem? (i := 2381) (by decide +kernel)) rfl
theorem q2380 : Cond.instanceMethod y_Ma_touchFields ∈ lw_ok := lw_okmem (List.mem_of_getElem? (i := 2380) (by decide +kernel)) rfl
theorem q146 : Cond.selects y_Ma_touchFields.cls y_Ma_touchFields y_Ma_touchFields ∈ lw_ok := lw_okmem (List.mem_of_getElem? (i := 146) (by decide +kernel)) rfl
theorem w9_Ma_touchFields : CWv y_Ma_touchFields b_Ma_touchFields 5 (none) 1 ∧ Cond.instanceMethod y_Ma_touchFields ∈ lw_ok ∧ Cond.selects y_Ma_touchFields.cls y_Ma_touchFields y_Ma_touchFields ∈ lw_ok := ⟨⟨q2381, q344, by decide +kernel, by decide +kernel, by decide +kernel⟩, q2380, q146⟩
theorem q2369 : Cond.methodLink "ClassWorks$Machine" 479 y_Ru_touchPlaces ∈ lw_ok := lw_okmem (List.mem_of_getElem? (i := 2369) (by decide +kernel)) rfl
theorem q2372 : Cond.code y_Ru_touchPlaces b_Ru_touchPlaces 6 (none) ∈ lw_ok := lw_okmem (List.mem_of_getElem? (i := 2372) (by decide +kernel)) rfl
theorem q2370 : Cond.instanceMethod y_Ru_touchPlaces ∈ lw_ok := lw_okmem (List.mem_of_getElem? (i := 2370) (by decide +kernel)) rfl
theorem q2371 : Cond.selects y_Ru_touchPlaces.cls y_Ru_touchPlaces y_Ru_touchPlaces ∈ lw_ok := lw_okmem (List.mem_of_getElem? (i := 2371) (by decide +kernel)) rfl
theorem w9_Ru_touchPlaces : CWv y_Ru_touchPlaces b_Ru_touchPlaces 6 (none) 1 ∧ Cond.instanceMethod y_Ru_touchPlaces ∈ lw_ok ∧ Cond.selects y_Ru_touchPlaces.cls y_Ru_touchPlaces y_Ru_touchPlaces ∈ lw_ok := ⟨⟨q2372, q347, by decide +kernel, by decide +kernel, by decide +kernel⟩, q2370, q2371⟩
def y_Ma_sweep : MethodName := ⟨"ClassWorks$Machine", "sweep", "()I"⟩
abbrev b_Ma_sweep : ByteArray := prog_6_method_46_code
theorem d_Ma_sweep_0 : decode b_Ma_sweep 0 = .ok (.aload_n 0, 1) := by decide +kernel
theorem d_Ma_sweep_1 : decode b_Ma_sweep 1 = .ok (.getfield 12, 3) := by decide +kernel
theorem d_Ma_sweep_4 : decode b_Ma_sweep 4 = .ok (.invokevirtual 470, 3) := by decide +kernel
theorem d_Ma_sweep_7 : decode b_Ma_sweep 7 = .ok (.bipush 21, 2) := by decide +kernel
theorem d_Ma_sweep_9 : decode b_Ma_sweep 9 = .ok (.istore_n 1, 1) := by decide +kernel
theorem d_Ma_sweep_10 : decode b_Ma_sweep 10 = .ok (.iload_n 1, 1) := by decide +kernel
theorem d_Ma_sweep_11 : decode b_Ma_sweep 11 = .ok (.aload_n 0, 1) := by decide +kernel
theorem d_Ma_sweep_12 : decode b_Ma_sweep 12 = .ok (.getfield 69, 3) := by decide +kernel
theorem d_Ma_sweep_15 : decode b_Ma_sweep 15 = .ok (.getfield 473, 3) := by decide +kernel
theorem d_Ma_sweep_18 : decode b_Ma_sweep 18 = .ok (.if_icmp .ge 62, 3) := by decide +kernel
theorem d_Ma_sweep_21 : decode b_Ma_sweep 21 = .ok (.iconst 0, 1) := by decide +kernel
theorem d_Ma_sweep_22 : decode b_Ma_sweep 22 = .ok (.istore_n 2, 1) := by decide +kernel
theorem d_Ma_sweep_23 : decode b_Ma_sweep 23 = .ok (.iload_n 2, 1) := by decide +kernel
theorem d_Ma_sweep_24 : decode b_Ma_sweep 24 = .ok (.aload_n 0, 1) := by decide +kernel
theorem d_Ma_sweep_25 : decode b_Ma_sweep 25 = .ok (.getfield 69, 3) := by decide +kernel
theorem d_Ma_sweep_28 : decode b_Ma_sweep 28 = .ok (.iload_n 1, 1) := by decide +kernel
theorem d_Ma_sweep_29 : decode b_Ma_sweep 29 = .ok (.bipush 9, 2) := by decide +kernel
theorem d_Ma_sweep_31 : decode b_Ma_sweep 31 = .ok (.invokevirtual 192, 3) := by decide +kernel
theorem d_Ma_sweep_34 : decode b_Ma_sweep 34 = .ok (.if_icmp .ge 40, 3) := by decide +kernel
theorem d_Ma_sweep_37 : decode b_Ma_sweep 37 = .ok (.aload_n 0, 1) := by decide +kernel
theorem d_Ma_sweep_38 : decode b_Ma_sweep 38 = .ok (.getfield 69, 3) := by decide +kernel
theorem d_Ma_sweep_41 : decode b_Ma_sweep 41 = .ok (.iload_n 1, 1) := by decide +kernel
theorem d_Ma_sweep_42 : decode b_Ma_sweep 42 = .ok (.iload_n 2, 1) := by decide +kernel
theorem d_Ma_sweep_43 : decode b_Ma_sweep 43 = .ok (.iconst 1, 1) := by decide +kernel
theorem d_Ma_sweep_44 : decode b_Ma_sweep 44 = .ok (.invokevirtual 280, 3) := by decide +kernel
theorem d_Ma_sweep_47 : decode b_Ma_sweep 47 = .ok (.ifCond .eq 21, 3) := by decide +kernel
theorem d_Ma_sweep_50 : decode b_Ma_sweep 50 = .ok (.aload_n 0, 1) := by decide +kernel
theorem d_Ma_sweep_51 : decode b_Ma_sweep 51 = .ok (.getfield 12, 3) := by decide +kernel
theorem d_Ma_sweep_54 : decode b_Ma_sweep 54 = .ok (.aload_n 0, 1) := by decide +kernel
theorem d_Ma_sweep_55 : decode b_Ma_sweep 55 = .ok (.getfield 69, 3) := by decide +kernel
theorem d_Ma_sweep_58 : decode b_Ma_sweep 58 = .ok (.iload_n 1, 1) := by decide +kernel
theorem d_Ma_sweep_59 : decode b_Ma_sweep 59 = .ok (.iload_n 2, 1) := by decide +kernel
theorem d_Ma_sweep_60 : decode b_Ma_sweep 60 = .ok (.bipush 6, 2) := by decide +kernel
theorem d_Ma_sweep_62 : decode b_Ma_sweep 62 = .ok (.invokevirtual 280, 3) := by decide +kernel
theorem d_Ma_sweep_65 : decode b_Ma_sweep 65 = .ok (.invokevirtual 476, 3) := by decide +kernel
theorem d_Ma_sweep_68 : decode b_Ma_sweep 68 = .ok (.iinc 2 1, 3) := by decide +kernel
theorem d_Ma_sweep_71 : decode b_Ma_sweep 71 = .ok (.goto (-48), 3) := by decide +kernel
theorem d_Ma_sweep_74 : decode b_Ma_sweep 74 = .ok (.iinc 1 1, 3) := by decide +kernel
theorem d_Ma_sweep_77 : decode b_Ma_sweep 77 = .ok (.goto (-67), 3) := by decide +kernel
theorem d_Ma_sweep_80 : decode b_Ma_sweep 80 = .ok (.iconst 0, 1) := by decide +kernel
theorem d_Ma_sweep_81 : decode b_Ma_sweep 81 = .ok (.istore_n 1, 1) := by decide +kernel
theorem d_Ma_sweep_82 : decode b_Ma_sweep 82 = .ok (.iload_n 1, 1) := by decide +kernel
theorem d_Ma_sweep_83 : decode b_Ma_sweep 83 = .ok (.iconst 3, 1) := by decide +kernel
theorem d_Ma_sweep_84 : decode b_Ma_sweep 84 = .ok (.if_icmp .ge 22, 3) := by decide +kernel
theorem d_Ma_sweep_87 : decode b_Ma_sweep 87 = .ok (.aload_n 0, 1) := by decide +kernel
theorem d_Ma_sweep_88 : decode b_Ma_sweep 88 = .ok (.getfield 20, 3) := by decide +kernel
theorem d_Ma_sweep_91 : decode b_Ma_sweep 91 = .ok (.iload_n 1, 1) := by decide +kernel
theorem d_Ma_sweep_92 : decode b_Ma_sweep 92 = .ok (.aaload, 1) := by decide +kernel
theorem d_Ma_sweep_93 : decode b_Ma_sweep 93 = .ok (.aload_n 0, 1) := by decide +kernel
theorem d_Ma_sweep_94 : decode b_Ma_sweep 94 = .ok (.getfield 12, 3) := by decide +kernel
theorem d_Ma_sweep_97 : decode b_Ma_sweep 97 = .ok (.invokevirtual 479, 3) := by decide +kernel
theorem d_Ma_sweep_100 : decode b_Ma_sweep 100 = .ok (.iinc 1 1, 3) := by decide +kernel
theorem d_Ma_sweep_103 : decode b_Ma_sweep 103 = .ok (.goto (-21), 3) := by decide +kernel
theorem d_Ma_sweep_106 : decode b_Ma_sweep 106 = .ok (.aload_n 0, 1) := by decide +kernel
theorem d_Ma_sweep_107 : decode b_Ma_sweep 107 = .ok (.getfield 12, 3) := by decide +kernel
theorem d_Ma_sweep_110 : decode b_Ma_sweep 110 = .ok (.invokevirtual 483, 3) := by decide +kernel
theorem d_Ma_sweep_113 : decode b_Ma_sweep 113 = .ok (.istore_n 1, 1) := by decide +kernel
theorem d_Ma_sweep_114 : decode b_Ma_sweep 114 = .ok (.iconst 0, 1) := by decide +kernel
theorem d_Ma_sweep_115 : decode b_Ma_sweep 115 = .ok (.istore_n 2, 1) := by decide +kernel
theorem d_Ma_sweep_116 : decode b_Ma_sweep 116 = .ok (.iload_n 2, 1) := by decide +kernel
theorem d_Ma_sweep_117 : decode b_Ma_sweep 117 = .ok (.sipush 800, 3) := by decide +kernel
theorem d_Ma_sweep_120 : decode b_Ma_sweep 120 = .ok (.if_icmp .ge 26, 3) := by decide +kernel
theorem d_Ma_sweep_123 : decode b_Ma_sweep 123 = .ok (.iload_n 1, 1) := by decide +kernel
theorem d_Ma_sweep_124 : decode b_Ma_sweep 124 = .ok (.ifCond .eq 22, 3) := by decide +kernel
theorem d_Ma_sweep_127 : decode b_Ma_sweep 127 = .ok (.aload_n 0, 1) := by decide +kernel
theorem d_Ma_sweep_128 : decode b_Ma_sweep 128 = .ok (.iload_n 1, 1) := by decide +kernel
theorem d_Ma_sweep_129 : decode b_Ma_sweep 129 = .ok (.invokevirtual 486, 3) := by decide +kernel
theorem d_Ma_sweep_132 : decode b_Ma_sweep 132 = .ok (.aload_n 0, 1) := by decide +kernel
theorem d_Ma_sweep_133 : decode b_Ma_sweep 133 = .ok (.getfield 12, 3) := by decide +kernel
theorem d_Ma_sweep_136 : decode b_Ma_sweep 136 = .ok (.invokevirtual 483, 3) := by decide +kernel
theorem d_Ma_sweep_139 : decode b_Ma_sweep 139 = .ok (.istore_n 1, 1) := by decide +kernel
theorem d_Ma_sweep_140 : decode b_Ma_sweep 140 = .ok (.iinc 2 1, 3) := by decide +kernel
theorem d_Ma_sweep_143 : decode b_Ma_sweep 143 = .ok (.goto (-27), 3) := by decide +kernel
theorem d_Ma_sweep_146 : decode b_Ma_sweep 146 = .ok (.aload_n 0, 1) := by decide +kernel
theorem d_Ma_sweep_147 : decode b_Ma_sweep 147 = .ok (.getfield 12, 3) := by decide +kernel
theorem d_Ma_sweep_150 : decode b_Ma_sweep 150 = .ok (.invokevirtual 489, 3) := by decide +kernel
theorem d_Ma_sweep_153 : decode b_Ma_sweep 153 = .ok (.ireturn, 1) := by decide +kernel
abbrev ra_Ma_sweep (mc ms : Nat) : Room := { frames := 3, cells := mc, slots := ms, locals := 143 }
def wja_Ma_sweep_146 (mc ms : Nat) (Post : Ly → St → Int32 → Nat → Nat → Prop) (a0 : Nat) (y_j146 : Ly) (s_j146 : St) (d_j146 e_j146 : Nat) : Prop := (d_j146 ≤ mc ∧ e_j146 ≤ ms) ∧ ∃ mc_10 ms_11 : Nat, (d_j146 + mc_10 ≤ mc ∧ e_j146 + ms_11 ≤ ms) ∧ wa_Hp_dropUntouched mc_10 ms_11 y_j146 (fun (y_7 : Ly) (s_6 : St) (r_5 : Int32) (d_8 e_9 : Nat) => (d_j146 + d_8 ≤ mc ∧ e_j146 + e_9 ≤ ms) ∧ Post y_7 s_6 r_5 (d_j146 + d_8) (e_j146 + e_9)) s_j146 (lk a0 1)
def wba_Ma_sweep_116 (mc ms : Nat) (Post : Ly → St → Int32 → Nat → Nat → Prop) (K_116 : Ly → St → Nat → Nat → Int32 → Int32 → Prop) (a0 : Nat) (y_h116 : Ly) (s_h116 : St) (d_h116 e_h116 : Nat) (x1h116 : Int32) (x2h116 : Int32) : Prop := (d_h116 ≤ mc ∧ e_h116 ≤ ms) ∧ ((800 ≤ x2h116 → wja_Ma_sweep_146 mc ms Post a0 y_h116 s_h116 d_h116 e_h116) ∧ (¬ (800 ≤ x2h116) → ((x1h116 = 0 → wja_Ma_sweep_146 mc ms Post a0 y_h116 s_h116 d_h116 e_h116) ∧ (¬ (x1h116 = 0) → wu_Ma_touchFields y_h116 (fun (s_14 : St) => wu_Hp_nextTouched y_h116 (fun (s_16 : St) (r_15 : Int32) => K_116 y_h116 s_16 d_h116 e_h116 r_15 (x2h116 + 1)) s_14 (lk a0 1)) s_h116 a0 x1h116))))
def wla_Ma_sweep_116 (mc ms : Nat) (Post : Ly → St → Int32 → Nat → Nat → Prop) (a0 : Nat) (y_h116 : Ly) (s_h116 : St) (d_h116 e_h116 : Nat) (x1h116 : Int32) (x2h116 : Int32) : Prop := ∃ (I : Ly → St → Nat → Nat → Int32 → Int32 → Prop) (μ : Ly → St → Nat → Nat → Int32 → Int32 → Nat), I y_h116 s_h116 d_h116 e_h116 x1h116 x2h116 ∧ ∀ (u1 : Ly) (u2 : St) (u3 u4 : Nat) (t0 : Int32) (t1 : Int32), I u1 u2 u3 u4 t0 t1 → wba_Ma_sweep_116 mc ms Post (fun z1 z2 z3 z4 t0q t1q => I z1 z2 z3 z4 t0q t1q ∧ μ z1 z2 z3 z4 t0q t1q < μ u1 u2 u3 u4 t0 t1) a0 u1 u2 u3 u4 t0 t1
def wba_Ma_sweep_82 (mc ms : Nat) (Post : Ly → St → Int32 → Nat → Nat → Prop) (K_82 : Ly → St → Nat → Nat → Int32 → Prop) (a0 : Nat) (y_h82 : Ly) (s_h82 : St) (d_h82 e_h82 : Nat) (x1h82 : Int32) : Prop := (d_h82 ≤ mc ∧ e_h82 ≤ ms) ∧ ((3 ≤ x1h82 → wu_Hp_nextTouched y_h82 (fun (s_4 : St) (r_3 : Int32) => wla_Ma_sweep_116 mc ms Post a0 y_h82 s_4 d_h82 e_h82 r_3 0) s_h82 (lk a0 1)) ∧ (¬ (3 ≤ x1h82) → xQ y_h82 a0 2 x1h82 (fun b_17 : Nat => wu_Ru_touchPlaces y_h82 (fun (s_20 : St) => K_82 y_h82 s_20 d_h82 e_h82 (x1h82 + 1)) s_h82 b_17 (lk a0 1))))
def wla_Ma_sweep_82 (mc ms : Nat) (Post : Ly → St → Int32 → Nat → Nat → Prop) (a0 : Nat) (y_h82 : Ly) (s_h82 : St) (d_h82 e_h82 : Nat) (x1h82 : Int32) : Prop := ∃ (I : Ly → St → Nat → Nat → Int32 → Prop) (μ : Ly → St → Nat → Nat → Int32 → Nat), I y_h82 s_h82 d_h82 e_h82 x1h82 ∧ ∀ (u1 : Ly) (u2 : St) (u3 u4 : Nat) (t0 : Int32), I u1 u2 u3 u4 t0 → wba_Ma_sweep_82 mc ms Post (fun z1 z2 z3 z4 t0q => I z1 z2 z3 z4 t0q ∧ μ z1 z2 z3 z4 t0q < μ u1 u2 u3 u4 t0) a0 u1 u2 u3 u4 t0
def wja_Ma_sweep_68 (mc ms : Nat) (Post : Ly → St → Int32 → Nat → Nat → Prop) (K_10 : Ly → St → Nat → Nat → Int32 → Prop) (K_23 : Ly → St → Nat → Nat → Int32 → Int32 → Prop) (a0 : Nat) (y_j68 : Ly) (s_j68 : St) (d_j68 e_j68 : Nat) (x1j68 : Int32) (x2j68 : Int32) : Prop := (d_j68 ≤ mc ∧ e_j68 ≤ ms) ∧ K_23 y_j68 s_j68 d_j68 e_j68 x1j68 (x2j68 + 1)
def wba_Ma_sweep_23 (mc ms : Nat) (Post : Ly → St → Int32 → Nat → Nat → Prop) (K_10 : Ly → St → Nat → Nat → Int32 → Prop) (K_23 : Ly → St → Nat → Nat → Int32 → Int32 → Prop) (a0 : Nat) (y_h23 : Ly) (s_h23 : St) (d_h23 e_h23 : Nat) (x1h23 : Int32) (x2h23 : Int32) : Prop := (d_h23 ≤ mc ∧ e_h23 ≤ ms) ∧ wu_Wd_of y_h23 (fun (s_22 : St) (r_21 : Int32) => ((r_21 ≤ x2h23 → K_10 y_h23 s_22 d_h23 e_h23 (x1h23 + 1)) ∧ (¬ (r_21 ≤ x2h23) → wu_Wd_field y_h23 (fun (s_24 : St) (r_23 : Int32) => ((r_23 = 0 → wja_Ma_sweep_68 mc ms Post K_10 K_23 a0 y_h23 s_24 d_h23 e_h23 x1h23 x2h23) ∧ (¬ (r_23 = 0) → wu_Wd_field y_h23 (fun (s_26 : St) (r_25 : Int32) => wu_Hp_touch y_h23 (fun (s_28 : St) => wja_Ma_sweep_68 mc ms Post K_10 K_23 a0 y_h23 s_28 d_h23 e_h23 x1h23 x2h23) s_26 (lk a0 1) r_25) s_24 (lk a0 0) x1h23 x2h23 6))) s_22 (lk a0 0) x1h23 x2h23 1))) s_h23 (lk a0 0) x1h23 9
def wla_Ma_sweep_23 (mc ms : Nat) (Post : Ly → St → Int32 → Nat → Nat → Prop) (K_10 : Ly → St → Nat → Nat → Int32 → Prop) (a0 : Nat) (y_h23 : Ly) (s_h23 : St) (d_h23 e_h23 : Nat) (x1h23 : Int32) (x2h23 : Int32) : Prop := ∃ (I : Ly → St → Nat → Nat → Int32 → Int32 → Prop) (μ : Ly → St → Nat → Nat → Int32 → Int32 → Nat), I y_h23 s_h23 d_h23 e_h23 x1h23 x2h23 ∧ ∀ (u1 : Ly) (u2 : St) (u3 u4 : Nat) (t0 : Int32) (t1 : Int32), I u1 u2 u3 u4 t0 t1 → wba_Ma_sweep_23 mc ms Post K_10 (fun z1 z2 z3 z4 t0q t1q => I z1 z2 z3 z4 t0q t1q ∧ μ z1 z2 z3 z4 t0q t1q < μ u1 u2 u3 u4 t0 t1) a0 u1 u2 u3 u4 t0 t1
def wba_Ma_sweep_10 (mc ms : Nat) (Post : Ly → St → Int32 → Nat → Nat → Prop) (K_10 : Ly → St → Nat → Nat → Int32 → Prop) (a0 : Nat) (y_h10 : Ly) (s_h10 : St) (d_h10 e_h10 : Nat) (x1h10 : Int32) : Prop := (d_h10 ≤ mc ∧ e_h10 ≤ ms) ∧ (((sV s_h10 (lk a0 0) 2) ≤ x1h10 → wla_Ma_sweep_82 mc ms Post a0 y_h10 s_h10 d_h10 e_h10 0) ∧ (¬ ((sV s_h10 (lk a0 0) 2) ≤ x1h10) → wla_Ma_sweep_23 mc ms Post K_10 a0 y_h10 s_h10 d_h10 e_h10 x1h10 0))
def wla_Ma_sweep_10 (mc ms : Nat) (Post : Ly → St → Int32 → Nat → Nat → Prop) (a0 : Nat) (y_h10 : Ly) (s_h10 : St) (d_h10 e_h10 : Nat) (x1h10 : Int32) : Prop := ∃ (I : Ly → St → Nat → Nat → Int32 → Prop) (μ : Ly → St → Nat → Nat → Int32 → Nat), I y_h10 s_h10 d_h10 e_h10 x1h10 ∧ ∀ (u1 : Ly) (u2 : St) (u3 u4 : Nat) (t0 : Int32), I u1 u2 u3 u4 t0 → wba_Ma_sweep_10 mc ms Post (fun z1 z2 z3 z4 t0q => I z1 z2 z3 z4 t0q ∧ μ z1 z2 z3 z4 t0q < μ u1 u2 u3 u4 t0) a0 u1 u2 u3 u4 t0
def wa_Ma_sweep (mc ms : Nat) (y : Ly) (Post : Ly → St → Int32 → Nat → Nat → Prop) (σ : St) (a0 : Nat) : Prop := wu_Hp_beginTouch y (fun (s_2 : St) => wla_Ma_sweep_10 mc ms Post a0 y s_2 0 0 21) σ (lk a0 1)
set_option maxHeartbeats 4000000 in
set_option maxRecDepth 100000 in
theorem ca_Ma_sweep (l : Launch) (D : va_G) (g : Nat → ClassId) (ad : Nat → Nat) (mc ms : Nat) (y : Ly) (Post : Ly → St → Int32 → Nat → Nat → Prop) (σ : St) (a0 : Nat) (sz uz : Nat) (h_a0 : cl a0 = 4) (h : wa_Ma_sweep mc ms y Post σ a0) : Met l y_Ma_sweep (mw y_Ma_sweep b_Ma_sweep 3 (some .int)) (ra_Ma_sweep mc ms) (PCu g D [] [.ref (ad a0)] sz uz (ws g ad y σ)) (va_Qi (fun (r : Int32) (u : Ly × St × Nat × Nat) => Post u.1 u.2.1 r u.2.2.1 u.2.2.2) (QU D (va_A (ws g ad y σ) sz) (fun u => ws g ad u.1 u.2.1) sz uz (fun u => u.2.2.1) (fun u => u.2.2.2)) (va_A (ws g ad y σ) sz)) mc ms (va_A (ws g ad y σ) sz) := by
  refine ofIu (by decide +kernel) (Nat.le_of_ble_eq_true rfl) ?_
  intro p e s m args below meth c A Q ls H locs G hsz hP hD hS hl hret
  subst hsz
  have hl : lv_has ls 3 [(0, .ref (ad a0))] := hl
  have hd : 0 ≤ mc ∧ 0 ≤ ms := ⟨Nat.zero_le _, Nat.zero_le _⟩
  unfold wa_Ma_sweep at h
  refine lv_aload_n G.1 G.2.1 d_Ma_sweep_0 rfl (lv_at hl 0 rfl) ?_
  refine ugf (v := .ref (ad (lk a0 1))) G hP h_a0 iMa rfl 1 (by decide) rfl q1067 rfl rfl d_Ma_sweep_1 ?_
  refine ucVv (As := []) (rest := []) G hP hD hS (cu_Hp_beginTouch l D g ad y _ σ (lk a0 1) H.size (lk_4_1 h_a0) h) w9_Hp_beginTouch q2357 ⟨Nat.le_of_ble_eq_true rfl, Nat.le_of_ble_eq_true rfl⟩ rfl rfl (lk_4_1 h_a0) (q := (RHp, THp, 15)) rfl rfl hl.1 rfl (Nat.le_of_ble_eq_true rfl) rfl hd d_Ma_sweep_4 (fun s_2 H locs h hP hD hS => ?_)
  refine lv_bipush (v := 21) G.1 G.2.1 d_Ma_sweep_7 (by decide) ?_
  refine lv_istore_n (lv' := [(1, .int 21), (0, .ref (ad a0))]) G.1 G.2.1 d_Ma_sweep_9 rfl hl (by decide) rfl (fun ls hl => ?_)
  unfold wla_Ma_sweep_10 at h
  obtain ⟨I_10, μ_10, hI_10, hB_10⟩ := h
  have L_10 : ∀ (n_10 : Nat) (y_h10 : Ly) (s_h10 : St) (d_h10 e_h10 : Nat) (x1h10 : Int32), μ_10 y_h10 s_h10 d_h10 e_h10 x1h10 < n_10 → I_10 y_h10 s_h10 d_h10 e_h10 x1h10 → ∀ (H : Heap) (locs : List Loc), va_P D CL (ws g ad y_h10 s_h10) H → va_D A (ws g ad y_h10 s_h10) → va_S A s.heap H locs → ∀ ls, lv_has ls 3 [(0, .ref (ad a0)), (1, .int x1h10)] → W p l e (ra_Ma_sweep mc ms) s m args below meth c H locs d_h10 e_h10 Q (F0 m 10 ls []) := by
    intro n_10
    induction n_10 with
    | zero => intro y_h10 s_h10 d_h10 e_h10 x1h10 hμ; exact absurd hμ (Nat.not_lt_zero _)
    | succ n_10 ih_10 =>
      intro y_h10 s_h10 d_h10 e_h10 x1h10 hμ_10 hJ H locs hP hD hS ls hl
      obtain ⟨K_10, hK_10, h⟩ : ∃ K : Ly → St → Nat → Nat → Int32 → Prop, (∀ z1 z2 z3 z4 (t0 : Int32), K z1 z2 z3 z4 t0 → I_10 z1 z2 z3 z4 t0 ∧ μ_10 z1 z2 z3 z4 t0 < μ_10 y_h10 s_h10 d_h10 e_h10 x1h10) ∧ wba_Ma_sweep_10 mc ms Post K a0 y_h10 s_h10 d_h10 e_h10 x1h10 := ⟨_, fun _ _ _ _ _ h => h, hB_10 y_h10 s_h10 d_h10 e_h10 x1h10 hJ⟩
      unfold wba_Ma_sweep_10 at h
      obtain ⟨hd, h⟩ := h
      refine lv_iload_n G.1 G.2.1 d_Ma_sweep_10 rfl (lv_at hl 1 rfl) ?_
      refine lv_aload_n G.1 G.2.1 d_Ma_sweep_11 rfl (lv_at hl 0 rfl) ?_
      refine ugf (v := .ref (ad (lk a0 0))) G hP h_a0 iMa rfl 0 (by decide) rfl q1065 rfl rfl d_Ma_sweep_12 ?_
      refine ugf (v := .int (sV s_h10 (lk a0 0) 2)) G hP (lk_4_0 h_a0) iWd rfl 2 (by decide) rfl q821 rfl rfl d_Ma_sweep_15 ?_
      refine lv_icmp_ge (tgt := 80) G.1 G.2.1 d_Ma_sweep_18 (by decide) (fun c18 => ?_) (fun c18 => ?_)
      · skip
        have h := h.1 c18
        refine lv_iconst (v := 0) G.1 G.2.1 d_Ma_sweep_80 (by decide) ?_
        refine lv_istore_n (lv' := [(1, .int 0), (0, .ref (ad a0))]) G.1 G.2.1 d_Ma_sweep_81 rfl hl (by decide) rfl (fun ls hl => ?_)
        unfold wla_Ma_sweep_82 at h
        obtain ⟨I_82, μ_82, hI_82, hB_82⟩ := h
        have L_82 : ∀ (n_82 : Nat) (y_h82 : Ly) (s_h82 : St) (d_h82 e_h82 : Nat) (x1h82 : Int32), μ_82 y_h82 s_h82 d_h82 e_h82 x1h82 < n_82 → I_82 y_h82 s_h82 d_h82 e_h82 x1h82 → ∀ (H : Heap) (locs : List Loc), va_P D CL (ws g ad y_h82 s_h82) H → va_D A (ws g ad y_h82 s_h82) → va_S A s.heap H locs → ∀ ls, lv_has ls 3 [(0, .ref (ad a0)), (1, .int x1h82)] → W p l e (ra_Ma_sweep mc ms) s m args below meth c H locs d_h82 e_h82 Q (F0 m 82 ls []) := by
          intro n_82
          induction n_82 with
          | zero => intro y_h82 s_h82 d_h82 e_h82 x1h82 hμ; exact absurd hμ (Nat.not_lt_zero _)
          | succ n_82 ih_82 =>
            intro y_h82 s_h82 d_h82 e_h82 x1h82 hμ_82 hJ H locs hP hD hS ls hl
            obtain ⟨K_82, hK_82, h⟩ : ∃ K : Ly → St → Nat → Nat → Int32 → Prop, (∀ z1 z2 z3 z4 (t0 : Int32), K z1 z2 z3 z4 t0 → I_82 z1 z2 z3 z4 t0 ∧ μ_82 z1 z2 z3 z4 t0 < μ_82 y_h82 s_h82 d_h82 e_h82 x1h82) ∧ wba_Ma_sweep_82 mc ms Post K a0 y_h82 s_h82 d_h82 e_h82 x1h82 := ⟨_, fun _ _ _ _ _ h => h, hB_82 y_h82 s_h82 d_h82 e_h82 x1h82 hJ⟩
            unfold wba_Ma_sweep_82 at h
            obtain ⟨hd, h⟩ := h
            refine lv_iload_n G.1 G.2.1 d_Ma_sweep_82 rfl (lv_at hl 1 rfl) ?_
            refine lv_iconst (v := 3) G.1 G.2.1 d_Ma_sweep_83 (by decide) ?_
            refine lv_icmp_ge (tgt := 106) G.1 G.2.1 d_Ma_sweep_84 (by decide) (fun c84 => ?_) (fun c84 => ?_)
            · skip
              have h := h.1 c84
              refine lv_aload_n G.1 G.2.1 d_Ma_sweep_106 rfl (lv_at hl 0 rfl) ?_
              refine ugf (v := .ref (ad (lk a0 1))) G hP h_a0 iMa rfl 1 (by decide) rfl q1067 rfl rfl d_Ma_sweep_107 ?_
              refine ucVi (As := []) (rest := []) G hP hD hS (cu_Hp_nextTouched l D g ad y_h82 _ s_h82 (lk a0 1) H.size (lk_4_1 h_a0) h) w9_Hp_nextTouched q2374 ⟨Nat.le_of_ble_eq_true rfl, Nat.le_of_ble_eq_true rfl⟩ rfl rfl (lk_4_1 h_a0) (q := (RHp, THp, 15)) rfl rfl hl.1 rfl (Nat.le_of_ble_eq_true rfl) rfl hd d_Ma_sweep_110 (fun r_3 s_4 H locs h hP hD hS => ?_)
              refine lv_istore_n (lv' := [(1, .int r_3), (0, .ref (ad a0))]) G.1 G.2.1 d_Ma_sweep_113 rfl hl (by decide) rfl (fun ls hl => ?_)
              refine lv_iconst (v := 0) G.1 G.2.1 d_Ma_sweep_114 (by decide) ?_
              refine lv_istore_n (lv' := [(2, .int 0), (1, .int r_3), (0, .ref (ad a0))]) G.1 G.2.1 d_Ma_sweep_115 rfl hl (by decide) rfl (fun ls hl => ?_)
              unfold wla_Ma_sweep_116 at h
              obtain ⟨I_116, μ_116, hI_116, hB_116⟩ := h
              have L_116 : ∀ (n_116 : Nat) (y_h116 : Ly) (s_h116 : St) (d_h116 e_h116 : Nat) (x1h116 : Int32) (x2h116 : Int32), μ_116 y_h116 s_h116 d_h116 e_h116 x1h116 x2h116 < n_116 → I_116 y_h116 s_h116 d_h116 e_h116 x1h116 x2h116 → ∀ (H : Heap) (locs : List Loc), va_P D CL (ws g ad y_h116 s_h116) H → va_D A (ws g ad y_h116 s_h116) → va_S A s.heap H locs → ∀ ls, lv_has ls 3 [(0, .ref (ad a0)), (1, .int x1h116), (2, .int x2h116)] → W p l e (ra_Ma_sweep mc ms) s m args below meth c H locs d_h116 e_h116 Q (F0 m 116 ls []) := by
                intro n_116
                induction n_116 with
                | zero => intro y_h116 s_h116 d_h116 e_h116 x1h116 x2h116 hμ; exact absurd hμ (Nat.not_lt_zero _)
                | succ n_116 ih_116 =>
                  intro y_h116 s_h116 d_h116 e_h116 x1h116 x2h116 hμ_116 hJ H locs hP hD hS ls hl
                  obtain ⟨K_116, hK_116, h⟩ : ∃ K : Ly → St → Nat → Nat → Int32 → Int32 → Prop, (∀ z1 z2 z3 z4 (t0 : Int32) (t1 : Int32), K z1 z2 z3 z4 t0 t1 → I_116 z1 z2 z3 z4 t0 t1 ∧ μ_116 z1 z2 z3 z4 t0 t1 < μ_116 y_h116 s_h116 d_h116 e_h116 x1h116 x2h116) ∧ wba_Ma_sweep_116 mc ms Post K a0 y_h116 s_h116 d_h116 e_h116 x1h116 x2h116 := ⟨_, fun _ _ _ _ _ _ h => h, hB_116 y_h116 s_h116 d_h116 e_h116 x1h116 x2h116 hJ⟩
                  unfold wba_Ma_sweep_116 at h
                  obtain ⟨hd, h⟩ := h
                  refine lv_iload_n G.1 G.2.1 d_Ma_sweep_116 rfl (lv_at hl 2 rfl) ?_
                  refine lv_sipush (v := 800) G.1 G.2.1 d_Ma_sweep_117 (by decide) ?_
                  have J_146 : ∀ (y_j146 : Ly) (s_j146 : St) (d_j146 e_j146 : Nat) (H : Heap) (locs : List Loc), wja_Ma_sweep_146 mc ms Post a0 y_j146 s_j146 d_j146 e_j146 → va_P D CL (ws g ad y_j146 s_j146) H → va_D A (ws g ad y_j146 s_j146) → va_S A s.heap H locs → ∀ ls, lv_has ls 3 [(0, .ref (ad a0))] → W p l e (ra_Ma_sweep mc ms) s m args below meth c H locs d_j146 e_j146 Q (F0 m 146 ls []) := by
                    intro y_j146 s_j146 d_j146 e_j146 H locs h hP hD hS ls hl
                    unfold wja_Ma_sweep_146 at h
                    obtain ⟨hd, h⟩ := h
                    refine lv_aload_n G.1 G.2.1 d_Ma_sweep_146 rfl (lv_at hl 0 rfl) ?_
                    refine ugf (v := .ref (ad (lk a0 1))) G hP h_a0 iMa rfl 1 (by decide) rfl q1067 rfl rfl d_Ma_sweep_147 ?_
                    obtain ⟨mc_10, ms_11, hr_12, h⟩ := h
                    refine uaVi (As := []) (rest := []) G hP hD hS (ca_Hp_dropUntouched l D g ad mc_10 ms_11 y_j146 _ s_j146 (lk a0 1) H.size (us H) (lk_4_1 h_a0) h) w9_Hp_dropUntouched q2382 ⟨Nat.le_of_ble_eq_true rfl, Nat.le_of_ble_eq_true rfl⟩ rfl rfl (lk_4_1 h_a0) (q := (RHp, THp, 15)) rfl rfl hl.1 rfl (Nat.le_of_ble_eq_true rfl) rfl hr_12 d_Ma_sweep_150 (fun r_5 y_7 s_6 d_8 e_9 H locs h hP hD hS => ?_)
                    have hl := lv_sub (l' := []) hl [] rfl
                    obtain ⟨hd, h⟩ := h
                    exact hret _ (y_7, s_6, d_j146 + d_8, e_j146 + e_9) _ _ _ _ _ ls h hP hD hS (Nat.le_refl _) (Nat.le_refl _) hd.1 hd.2 d_Ma_sweep_153
                  refine lv_icmp_ge (tgt := 146) G.1 G.2.1 d_Ma_sweep_120 (by decide) (fun c120 => ?_) (fun c120 => ?_)
                  · skip
                    have h := h.1 c120
                    exact J_146 y_h116 s_h116 d_h116 e_h116 H locs h hP hD hS ls (lv_sub hl [0] rfl)
                  · skip
                    have h := h.2 c120
                    refine lv_iload_n G.1 G.2.1 d_Ma_sweep_123 rfl (lv_at hl 1 rfl) ?_
                    refine lv_if_eq (tgt := 146) G.1 G.2.1 d_Ma_sweep_124 (by decide) (fun c124 => ?_) (fun c124 => ?_)
                    · skip
                      have h := h.1 c124
                      exact J_146 y_h116 s_h116 d_h116 e_h116 H locs h hP hD hS ls (lv_sub hl [0] rfl)
                    · skip
                      have h := h.2 c124
                      refine lv_aload_n G.1 G.2.1 d_Ma_sweep_127 rfl (lv_at hl 0 rfl) ?_
                      refine lv_iload_n G.1 G.2.1 d_Ma_sweep_128 rfl (lv_at hl 1 rfl) ?_
                      refine ucVv (As := [.int x1h116]) (rest := []) G hP hD hS (cu_Ma_touchFields l D g ad y_h116 _ s_h116 a0 x1h116 H.size h_a0 h) w9_Ma_touchFields q2378 ⟨Nat.le_of_ble_eq_true rfl, Nat.le_of_ble_eq_true rfl⟩ rfl rfl h_a0 (q := (RMa, TMa, 19)) rfl rfl hl.1 rfl (Nat.le_of_ble_eq_true rfl) rfl hd d_Ma_sweep_129 (fun s_14 H locs h hP hD hS => ?_)
                      refine lv_aload_n G.1 G.2.1 d_Ma_sweep_132 rfl (lv_at hl 0 rfl) ?_
                      refine ugf (v := .ref (ad (lk a0 1))) G hP h_a0 iMa rfl 1 (by decide) rfl q1067 rfl rfl d_Ma_sweep_133 ?_
                      refine ucVi (As := []) (rest := []) G hP hD hS (cu_Hp_nextTouched l D g ad y_h116 _ s_14 (lk a0 1) H.size (lk_4_1 h_a0) h) w9_Hp_nextTouched q2374 ⟨Nat.le_of_ble_eq_true rfl, Nat.le_of_ble_eq_true rfl⟩ rfl rfl (lk_4_1 h_a0) (q := (RHp, THp, 15)) rfl rfl hl.1 rfl (Nat.le_of_ble_eq_true rfl) rfl hd d_Ma_sweep_136 (fun r_15 s_16 H locs h hP hD hS => ?_)
                      refine W.eq (g2 := F0 m 139 ls [.int r_15]) rfl ?_
                      refine lv_istore_n (lv' := [(1, .int r_15), (0, .ref (ad a0)), (2, .int x2h116)]) G.1 G.2.1 d_Ma_sweep_139 rfl hl (by decide) rfl (fun ls hl => ?_)
                      refine lv_iinc (v := x2h116 + 1) (lv' := [(2, .int (x2h116 + 1)), (1, .int r_15), (0, .ref (ad a0))]) G.1 G.2.1 d_Ma_sweep_140 hl (k := 2) rfl rfl (by decide) rfl (fun ls hl => ?_)
                      refine lv_goto (tgt := 116) G.1 G.2.1 d_Ma_sweep_143 (by decide) ?_
                      have h := hK_116 y_h116 s_16 d_h116 e_h116 r_15 (x2h116 + 1) h
                      exact ih_116 y_h116 s_16 d_h116 e_h116 r_15 (x2h116 + 1) (Nat.lt_of_lt_of_le h.2 (Nat.le_of_lt_succ hμ_116)) h.1 H locs hP hD hS ls (lv_sub hl [2, 1, 0] rfl)
              exact L_116 _ y_h82 s_4 d_h82 e_h82 r_3 0 (Nat.lt_succ_self _) hI_116 H locs hP hD hS ls (lv_sub hl [2, 1, 0] rfl)
            · skip
              have h := h.2 c84
              refine lv_aload_n G.1 G.2.1 d_Ma_sweep_87 rfl (lv_at hl 0 rfl) ?_
              refine ugf (v := .ref (yP y_h82 a0 2)) G hP h_a0 iMa rfl 2 (by decide) rfl q1069 rfl rfl d_Ma_sweep_88 ?_
              refine lv_iload_n G.1 G.2.1 d_Ma_sweep_91 rfl (lv_at hl 1 rfl) ?_
              refine uqald G hP (kdp h_a0 rfl) (typ h_a0 rfl) rfl h d_Ma_sweep_92 (fun b_17 n_18 h => ?_)
              refine lv_aload_n G.1 G.2.1 d_Ma_sweep_93 rfl (lv_at hl 0 rfl) ?_
              refine ugf (v := .ref (ad (lk a0 1))) G hP h_a0 iMa rfl 1 (by decide) rfl q1067 rfl rfl d_Ma_sweep_94 ?_
              refine ucVv (As := [.ref (ad (lk a0 1))]) (rest := []) G hP hD hS (cu_Ru_touchPlaces l D g ad y_h82 _ s_h82 b_17 (lk a0 1) H.size (oa_4 h_a0 n_18) (lk_4_1 h_a0) h) w9_Ru_touchPlaces q2369 ⟨Nat.le_of_ble_eq_true rfl, Nat.le_of_ble_eq_true rfl⟩ rfl rfl (oa_4 h_a0 n_18) (q := (RRu, TRu, 19)) rfl rfl hl.1 rfl (Nat.le_of_ble_eq_true rfl) rfl hd d_Ma_sweep_97 (fun s_20 H locs h hP hD hS => ?_)
              refine lv_iinc (v := x1h82 + 1) (lv' := [(1, .int (x1h82 + 1)), (0, .ref (ad a0))]) G.1 G.2.1 d_Ma_sweep_100 hl (k := 1) rfl rfl (by decide) rfl (fun ls hl => ?_)
              refine W.eq (g2 := F0 m 103 ls []) rfl ?_
              refine lv_goto (tgt := 82) G.1 G.2.1 d_Ma_sweep_103 (by decide) ?_
              have h := hK_82 y_h82 s_20 d_h82 e_h82 (x1h82 + 1) h
              exact ih_82 y_h82 s_20 d_h82 e_h82 (x1h82 + 1) (Nat.lt_of_lt_of_le h.2 (Nat.le_of_lt_succ hμ_82)) h.1 H locs hP hD hS ls (lv_sub hl [1, 0] rfl)
        exact L_82 _ y_h10 s_h10 d_h10 e_h10 0 (Nat.lt_succ_self _) hI_82 H locs hP hD hS ls (lv_sub hl [1, 0] rfl)
      · skip
        have h := h.2 c18
        refine lv_iconst (v := 0) G.1 G.2.1 d_Ma_sweep_21 (by decide) ?_
        refine lv_istore_n (lv' := [(2, .int 0), (0, .ref (ad a0)), (1, .int x1h10)]) G.1 G.2.1 d_Ma_sweep_22 rfl hl (by decide) rfl (fun ls hl => ?_)
        unfold wla_Ma_sweep_23 at h
        obtain ⟨I_23, μ_23, hI_23, hB_23⟩ := h
        have L_23 : ∀ (n_23 : Nat) (y_h23 : Ly) (s_h23 : St) (d_h23 e_h23 : Nat) (x1h23 : Int32) (x2h23 : Int32), μ_23 y_h23 s_h23 d_h23 e_h23 x1h23 x2h23 < n_23 → I_23 y_h23 s_h23 d_h23 e_h23 x1h23 x2h23 → ∀ (H : Heap) (locs : List Loc), va_P D CL (ws g ad y_h23 s_h23) H → va_D A (ws g ad y_h23 s_h23) → va_S A s.heap H locs → ∀ ls, lv_has ls 3 [(0, .ref (ad a0)), (1, .int x1h23), (2, .int x2h23)] → W p l e (ra_Ma_sweep mc ms) s m args below meth c H locs d_h23 e_h23 Q (F0 m 23 ls []) := by
          intro n_23
          induction n_23 with
          | zero => intro y_h23 s_h23 d_h23 e_h23 x1h23 x2h23 hμ; exact absurd hμ (Nat.not_lt_zero _)
          | succ n_23 ih_23 =>
            intro y_h23 s_h23 d_h23 e_h23 x1h23 x2h23 hμ_23 hJ H locs hP hD hS ls hl
            obtain ⟨K_23, hK_23, h⟩ : ∃ K : Ly → St → Nat → Nat → Int32 → Int32 → Prop, (∀ z1 z2 z3 z4 (t0 : Int32) (t1 : Int32), K z1 z2 z3 z4 t0 t1 → I_23 z1 z2 z3 z4 t0 t1 ∧ μ_23 z1 z2 z3 z4 t0 t1 < μ_23 y_h23 s_h23 d_h23 e_h23 x1h23 x2h23) ∧ wba_Ma_sweep_23 mc ms Post K_10 K a0 y_h23 s_h23 d_h23 e_h23 x1h23 x2h23 := ⟨_, fun _ _ _ _ _ _ h => h, hB_23 y_h23 s_h23 d_h23 e_h23 x1h23 x2h23 hJ⟩
            unfold wba_Ma_sweep_23 at h
            obtain ⟨hd, h⟩ := h
            refine lv_iload_n G.1 G.2.1 d_Ma_sweep_23 rfl (lv_at hl 2 rfl) ?_
            refine lv_aload_n G.1 G.2.1 d_Ma_sweep_24 rfl (lv_at hl 0 rfl) ?_
            refine ugf (v := .ref (ad (lk a0 0))) G hP h_a0 iMa rfl 0 (by decide) rfl q1065 rfl rfl d_Ma_sweep_25 ?_
            refine lv_iload_n G.1 G.2.1 d_Ma_sweep_28 rfl (lv_at hl 1 rfl) ?_
            refine lv_bipush (v := 9) G.1 G.2.1 d_Ma_sweep_29 (by decide) ?_
            refine ucVi (As := [.int x1h23, .int 9]) (rest := [.int x2h23]) G hP hD hS (cu_Wd_of l D g ad y_h23 _ s_h23 (lk a0 0) x1h23 9 H.size (lk_4_0 h_a0) h) w9_Wd_of q1810 ⟨Nat.le_of_ble_eq_true rfl, Nat.le_of_ble_eq_true rfl⟩ rfl rfl (lk_4_0 h_a0) (q := (RWd, TWd, 17)) rfl rfl hl.1 rfl (Nat.le_of_ble_eq_true rfl) rfl hd d_Ma_sweep_31 (fun r_21 s_22 H locs h hP hD hS => ?_)
            refine lv_icmp_ge (tgt := 74) G.1 G.2.1 d_Ma_sweep_34 (by decide) (fun c34 => ?_) (fun c34 => ?_)
            · skip
              have h := h.1 c34
              refine lv_iinc (v := x1h23 + 1) (lv' := [(1, .int (x1h23 + 1)), (0, .ref (ad a0)), (2, .int x2h23)]) G.1 G.2.1 d_Ma_sweep_74 hl (k := 1) rfl rfl (by decide) rfl (fun ls hl => ?_)
              refine lv_goto (tgt := 10) G.1 G.2.1 d_Ma_sweep_77 (by decide) ?_
              have h := hK_10 y_h23 s_22 d_h23 e_h23 (x1h23 + 1) h
              exact ih_10 y_h23 s_22 d_h23 e_h23 (x1h23 + 1) (Nat.lt_of_lt_of_le h.2 (Nat.le_of_lt_succ hμ_10)) h.1 H locs hP hD hS ls (lv_sub hl [1, 0] rfl)
            · skip
              have h := h.2 c34
              refine lv_aload_n G.1 G.2.1 d_Ma_sweep_37 rfl (lv_at hl 0 rfl) ?_
              refine ugf (v := .ref (ad (lk a0 0))) G hP h_a0 iMa rfl 0 (by decide) rfl q1065 rfl rfl d_Ma_sweep_38 ?_
              refine lv_iload_n G.1 G.2.1 d_Ma_sweep_41 rfl (lv_at hl 1 rfl) ?_
              refine lv_iload_n G.1 G.2.1 d_Ma_sweep_42 rfl (lv_at hl 2 rfl) ?_
              refine W.eq (g2 := F0 m 43 ls [.int x2h23, .int x1h23, .ref (ad (lk a0 0))]) rfl ?_
              refine lv_iconst (v := 1) G.1 G.2.1 d_Ma_sweep_43 (by decide) ?_
              refine ucVi (As := [.int x1h23, .int x2h23, .int 1]) (rest := []) G hP hD hS (cu_Wd_field l D g ad y_h23 _ s_22 (lk a0 0) x1h23 x2h23 1 H.size (lk_4_0 h_a0) h) w9_Wd_field q1988 ⟨Nat.le_of_ble_eq_true rfl, Nat.le_of_ble_eq_true rfl⟩ rfl rfl (lk_4_0 h_a0) (q := (RWd, TWd, 17)) rfl rfl hl.1 rfl (Nat.le_of_ble_eq_true rfl) rfl hd d_Ma_sweep_44 (fun r_23 s_24 H locs h hP hD hS => ?_)
              have J_68 : ∀ (y_j68 : Ly) (s_j68 : St) (d_j68 e_j68 : Nat) (x1j68 : Int32) (x2j68 : Int32) (H : Heap) (locs : List Loc), wja_Ma_sweep_68 mc ms Post K_10 K_23 a0 y_j68 s_j68 d_j68 e_j68 x1j68 x2j68 → va_P D CL (ws g ad y_j68 s_j68) H → va_D A (ws g ad y_j68 s_j68) → va_S A s.heap H locs → ∀ ls, lv_has ls 3 [(0, .ref (ad a0)), (1, .int x1j68), (2, .int x2j68)] → W p l e (ra_Ma_sweep mc ms) s m args below meth c H locs d_j68 e_j68 Q (F0 m 68 ls []) := by
                intro y_j68 s_j68 d_j68 e_j68 x1j68 x2j68 H locs h hP hD hS ls hl
                unfold wja_Ma_sweep_68 at h
                obtain ⟨hd, h⟩ := h
                refine lv_iinc (v := x2j68 + 1) (lv' := [(2, .int (x2j68 + 1)), (0, .ref (ad a0)), (1, .int x1j68)]) G.1 G.2.1 d_Ma_sweep_68 hl (k := 2) rfl rfl (by decide) rfl (fun ls hl => ?_)
                refine lv_goto (tgt := 23) G.1 G.2.1 d_Ma_sweep_71 (by decide) ?_
                have h := hK_23 y_j68 s_j68 d_j68 e_j68 x1j68 (x2j68 + 1) h
                exact ih_23 y_j68 s_j68 d_j68 e_j68 x1j68 (x2j68 + 1) (Nat.lt_of_lt_of_le h.2 (Nat.le_of_lt_succ hμ_23)) h.1 H locs hP hD hS ls (lv_sub hl [1, 2, 0] rfl)
              refine lv_if_eq (tgt := 68) G.1 G.2.1 d_Ma_sweep_47 (by decide) (fun c47 => ?_) (fun c47 => ?_)
              · skip
                have h := h.1 c47
                exact J_68 y_h23 s_24 d_h23 e_h23 x1h23 x2h23 H locs h hP hD hS ls (lv_sub hl [0, 1, 2] rfl)
              · skip
                have h := h.2 c47
                refine lv_aload_n G.1 G.2.1 d_Ma_sweep_50 rfl (lv_at hl 0 rfl) ?_
                refine ugf (v := .ref (ad (lk a0 1))) G hP h_a0 iMa rfl 1 (by decide) rfl q1067 rfl rfl d_Ma_sweep_51 ?_
                refine lv_aload_n G.1 G.2.1 d_Ma_sweep_54 rfl (lv_at hl 0 rfl) ?_
                refine ugf (v := .ref (ad (lk a0 0))) G hP h_a0 iMa rfl 0 (by decide) rfl q1065 rfl rfl d_Ma_sweep_55 ?_
                refine lv_iload_n G.1 G.2.1 d_Ma_sweep_58 rfl (lv_at hl 1 rfl) ?_
                refine lv_iload_n G.1 G.2.1 d_Ma_sweep_59 rfl (lv_at hl 2 rfl) ?_
                refine lv_bipush (v := 6) G.1 G.2.1 d_Ma_sweep_60 (by decide) ?_
                refine ucVi (As := [.int x1h23, .int x2h23, .int 6]) (rest := [.ref (ad (lk a0 1))]) G hP hD hS (cu_Wd_field l D g ad y_h23 _ s_24 (lk a0 0) x1h23 x2h23 6 H.size (lk_4_0 h_a0) h) w9_Wd_field q1988 ⟨Nat.le_of_ble_eq_true rfl, Nat.le_of_ble_eq_true rfl⟩ rfl rfl (lk_4_0 h_a0) (q := (RWd, TWd, 17)) rfl rfl hl.1 rfl (Nat.le_of_ble_eq_true rfl) rfl hd d_Ma_sweep_62 (fun r_25 s_26 H locs h hP hD hS => ?_)
                refine ucVv (As := [.int r_25]) (rest := []) G hP hD hS (cu_Hp_touch l D g ad y_h23 _ s_26 (lk a0 1) r_25 H.size (lk_4_1 h_a0) h) w9_Hp_touch q2364 ⟨Nat.le_of_ble_eq_true rfl, Nat.le_of_ble_eq_true rfl⟩ rfl rfl (lk_4_1 h_a0) (q := (RHp, THp, 15)) rfl rfl hl.1 rfl (Nat.le_of_ble_eq_true rfl) rfl hd d_Ma_sweep_65 (fun s_28 H locs h hP hD hS => ?_)
                exact J_68 y_h23 s_28 d_h23 e_h23 x1h23 x2h23 H locs h hP hD hS ls (lv_sub hl [0, 1, 2] rfl)
        exact L_23 _ y_h10 s_h10 d_h10 e_h10 x1h10 0 (Nat.lt_succ_self _) hI_23 H locs hP hD hS ls (lv_sub hl [1, 2, 0] rfl)
  exact L_10 _ y s_2 0 0 21 (Nat.lt_succ_self _) hI_10 H locs hP hD hS ls (lv_sub hl [1, 0] rfl)
theorem q2353 : Cond.methodLink "ClassWorks" 407 y_Ma_sweep ∈ lw_ok := lw_okmem (List.mem_of_getElem? (i := 2353) (by decide +kernel)) rfl
theorem q2356 : Cond.code y_Ma_sweep b_Ma_sweep 3 (some .int) ∈ lw_ok := lw_okmem (List.mem_of_getElem? (i := 2356) (by decide +kernel)) rfl
theorem q2354 : Cond.instanceMethod y_Ma_sweep ∈ lw_ok := lw_okmem (List.mem_of_getElem? (i := 2354) (by decide +kernel)) rfl
theorem q2355 : Cond.selects y_Ma_sweep.cls y_Ma_sweep y_Ma_sweep ∈ lw_ok := lw_okmem (List.mem_of_getElem? (i := 2355) (by decide +kernel)) rfl
theorem w9_Ma_sweep : CWv y_Ma_sweep b_Ma_sweep 3 (some .int) 0 ∧ Cond.instanceMethod y_Ma_sweep ∈ lw_ok ∧ Cond.selects y_Ma_sweep.cls y_Ma_sweep y_Ma_sweep ∈ lw_ok := ⟨⟨q2356, q344, by decide +kernel, by decide +kernel, by decide +kernel⟩, q2354, q2355⟩
def y_Cw_collect : MethodName := ⟨"ClassWorks", "collect", "(I)I"⟩
abbrev b_Cw_collect : ByteArray := prog_1_method_41_code
theorem d_Cw_collect_0 : decode b_Cw_collect 0 = .ok (.aload_n 0, 1) := by decide +kernel
theorem d_Cw_collect_1 : decode b_Cw_collect 1 = .ok (.iload_n 1, 1) := by decide +kernel
theorem d_Cw_collect_2 : decode b_Cw_collect 2 = .ok (.invokevirtual 129, 3) := by decide +kernel
theorem d_Cw_collect_5 : decode b_Cw_collect 5 = .ok (.astore_n 2, 1) := by decide +kernel
theorem d_Cw_collect_6 : decode b_Cw_collect 6 = .ok (.aload_n 2, 1) := by decide +kernel
theorem d_Cw_collect_7 : decode b_Cw_collect 7 = .ok (.ifnonnull 7, 3) := by decide +kernel
theorem d_Cw_collect_10 : decode b_Cw_collect 10 = .ok (.iconst (-1), 1) := by decide +kernel
theorem d_Cw_collect_11 : decode b_Cw_collect 11 = .ok (.goto 7, 3) := by decide +kernel
theorem d_Cw_collect_14 : decode b_Cw_collect 14 = .ok (.aload_n 2, 1) := by decide +kernel
theorem d_Cw_collect_15 : decode b_Cw_collect 15 = .ok (.invokevirtual 407, 3) := by decide +kernel
theorem d_Cw_collect_18 : decode b_Cw_collect 18 = .ok (.ireturn, 1) := by decide +kernel
abbrev ra_Cw_collect (mc ms : Nat) : Room := { frames := 4, cells := mc, slots := ms, locals := 165 }
def wja_Cw_collect_18 (mc ms : Nat) (Post : Ly → St → Int32 → Nat → Nat → Prop) (a0 : Nat) (y_j18 : Ly) (s_j18 : St) (d_j18 e_j18 : Nat) (z0j18 : Int32) : Prop := (d_j18 ≤ mc ∧ e_j18 ≤ ms) ∧ Post y_j18 s_j18 z0j18 d_j18 e_j18
def wa_Cw_collect (mc ms : Nat) (y : Ly) (Post : Ly → St → Int32 → Nat → Nat → Prop) (σ : St) (a0 : Nat) (v1 : Int32) : Prop := wu_Cw_machine y (fun (s_2 : St) (r_1 : Option Nat) => ((r_1 = none → wja_Cw_collect_18 mc ms Post a0 y s_2 0 0 (-1)) ∧ (∀ r_1b : Nat, r_1 = some r_1b → (cl r_1b = 4 ∧ ∃ mc_8 ms_9 : Nat, (0 + mc_8 ≤ mc ∧ 0 + ms_9 ≤ ms) ∧ wa_Ma_sweep mc_8 ms_9 y (fun (y_5 : Ly) (s_4 : St) (r_3 : Int32) (d_6 e_7 : Nat) => (0 + d_6 ≤ mc ∧ 0 + e_7 ≤ ms) ∧ wja_Cw_collect_18 mc ms Post a0 y_5 s_4 (0 + d_6) (0 + e_7) r_3) s_2 r_1b)))) σ a0 v1
set_option maxHeartbeats 4000000 in
set_option maxRecDepth 100000 in
theorem ca_Cw_collect (l : Launch) (D : va_G) (g : Nat → ClassId) (ad : Nat → Nat) (mc ms : Nat) (y : Ly) (Post : Ly → St → Int32 → Nat → Nat → Prop) (σ : St) (a0 : Nat) (v1 : Int32) (sz uz : Nat) (h_a0 : cl a0 = 11) (h : wa_Cw_collect mc ms y Post σ a0 v1) : Met l y_Cw_collect (mw y_Cw_collect b_Cw_collect 3 (some .int)) (ra_Cw_collect mc ms) (PCu g D [] [.ref (ad a0), .int v1] sz uz (ws g ad y σ)) (va_Qi (fun (r : Int32) (u : Ly × St × Nat × Nat) => Post u.1 u.2.1 r u.2.2.1 u.2.2.2) (QU D (va_A (ws g ad y σ) sz) (fun u => ws g ad u.1 u.2.1) sz uz (fun u => u.2.2.1) (fun u => u.2.2.2)) (va_A (ws g ad y σ) sz)) mc ms (va_A (ws g ad y σ) sz) := by
  refine ofIu (by decide +kernel) (Nat.le_of_ble_eq_true rfl) ?_
  intro p e s m args below meth c A Q ls H locs G hsz hP hD hS hl hret
  subst hsz
  have hl : lv_has ls 3 [(0, .ref (ad a0)), (1, .int v1)] := hl
  have hd : 0 ≤ mc ∧ 0 ≤ ms := ⟨Nat.zero_le _, Nat.zero_le _⟩
  unfold wa_Cw_collect at h
  refine lv_aload_n G.1 G.2.1 d_Cw_collect_0 rfl (lv_at hl 0 rfl) ?_
  refine lv_iload_n G.1 G.2.1 d_Cw_collect_1 rfl (lv_at hl 1 rfl) ?_
  refine ucVq (As := [.int v1]) (rest := []) G hP hD hS (cu_Cw_machine l D g ad y _ σ a0 v1 H.size h_a0 h) w9_Cw_machine q1248 ⟨Nat.le_of_ble_eq_true rfl, Nat.le_of_ble_eq_true rfl⟩ rfl rfl h_a0 (q := (RCw, TCw, 20)) rfl rfl hl.1 rfl (Nat.le_of_ble_eq_true rfl) rfl hd d_Cw_collect_2 (fun r_1 s_2 H locs h hP hD hS => ?_)
  rcases r_1 with _ | r_1b
  · skip
    have h := h.1 rfl
    show W p l e (ra_Cw_collect mc ms) s m args below meth c H locs 0 0 Q (F0 m 5 ls [.null])
    refine lv_astore_nN (lv' := [(2, .null), (0, .ref (ad a0)), (1, .int v1)]) G.1 G.2.1 d_Cw_collect_5 rfl hl (by decide) rfl (fun ls hl => ?_)
    refine lv_aload_nN G.1 G.2.1 d_Cw_collect_6 rfl (lv_at hl 0 rfl) ?_
    have J_18 : ∀ (y_j18 : Ly) (s_j18 : St) (d_j18 e_j18 : Nat) (z0j18 : Int32) (H : Heap) (locs : List Loc), wja_Cw_collect_18 mc ms Post a0 y_j18 s_j18 d_j18 e_j18 z0j18 → va_P D CL (ws g ad y_j18 s_j18) H → va_D A (ws g ad y_j18 s_j18) → va_S A s.heap H locs → ∀ ls, lv_has ls 3 [] → W p l e (ra_Cw_collect mc ms) s m args below meth c H locs d_j18 e_j18 Q (F0 m 18 ls [.int z0j18]) := by
      intro y_j18 s_j18 d_j18 e_j18 z0j18 H locs h hP hD hS ls hl
      unfold wja_Cw_collect_18 at h
      obtain ⟨hd, h⟩ := h
      exact hret _ (y_j18, s_j18, d_j18, e_j18) _ _ _ _ _ ls h hP hD hS (Nat.le_refl _) (Nat.le_refl _) hd.1 hd.2 d_Cw_collect_18
    refine lv_ifnonnullN G.1 G.2.1 d_Cw_collect_7 ?_
    refine lv_iconst (v := (-1)) G.1 G.2.1 d_Cw_collect_10 (by decide) ?_
    refine lv_goto (tgt := 18) G.1 G.2.1 d_Cw_collect_11 (by decide) ?_
    exact J_18 y s_2 0 0 (-1) H locs h hP hD hS ls (lv_sub hl [] rfl)
  · skip
    obtain ⟨c_r_1b, h⟩ := h.2 _ rfl
    show W p l e (ra_Cw_collect mc ms) s m args below meth c H locs 0 0 Q (F0 m 5 ls [.ref (ad r_1b)])
    refine lv_astore_n (lv' := [(2, .ref (ad r_1b)), (0, .ref (ad a0)), (1, .int v1)]) G.1 G.2.1 d_Cw_collect_5 rfl hl (by decide) rfl (fun ls hl => ?_)
    refine lv_aload_n G.1 G.2.1 d_Cw_collect_6 rfl (lv_at hl 0 rfl) ?_
    have J_18 : ∀ (y_j18 : Ly) (s_j18 : St) (d_j18 e_j18 : Nat) (z0j18 : Int32) (H : Heap) (locs : List Loc), wja_Cw_collect_18 mc ms Post a0 y_j18 s_j18 d_j18 e_j18 z0j18 → va_P D CL (ws g ad y_j18 s_j18) H → va_D A (ws g ad y_j18 s_j18) → va_S A s.heap H locs → ∀ ls, lv_has ls 3 [] → W p l e (ra_Cw_collect mc ms) s m args below meth c H locs d_j18 e_j18 Q (F0 m 18 ls [.int z0j18]) := by
      intro y_j18 s_j18 d_j18 e_j18 z0j18 H locs h hP hD hS ls hl
      unfold wja_Cw_collect_18 at h
      obtain ⟨hd, h⟩ := h
      exact hret _ (y_j18, s_j18, d_j18, e_j18) _ _ _ _ _ ls h hP hD hS (Nat.le_refl _) (Nat.le_refl _) hd.1 hd.2 d_Cw_collect_18
    refine lv_ifnonnull (tgt := 14) G.1 G.2.1 d_Cw_collect_7 (by decide) ?_
    refine lv_aload_n G.1 G.2.1 d_Cw_collect_14 rfl (lv_at hl 0 rfl) ?_
    obtain ⟨mc_8, ms_9, hr_10, h⟩ := h
    refine uaVi (As := []) (rest := []) G hP hD hS (ca_Ma_sweep l D g ad mc_8 ms_9 y _ s_2 r_1b H.size (us H) c_r_1b h) w9_Ma_sweep q2353 ⟨Nat.le_of_ble_eq_true rfl, Nat.le_of_ble_eq_true rfl⟩ rfl rfl c_r_1b (q := (RMa, TMa, 19)) rfl rfl hl.1 rfl (Nat.le_of_ble_eq_true rfl) rfl hr_10 d_Cw_collect_15 (fun r_3 y_5 s_4 d_6 e_7 H locs h hP hD hS => ?_)
    have hl := lv_sub (l' := []) hl [] rfl
    obtain ⟨hd, h⟩ := h
    exact J_18 y_5 s_4 (0 + d_6) (0 + e_7) r_3 H locs h hP hD hS ls (lv_sub hl [] rfl)
def y_Fi_addReached : MethodName := ⟨"ClassWorks$Finder", "addReached", "(II)V"⟩
abbrev b_Fi_addReached : ByteArray := prog_3_method_27_code
theorem q734 : Cond.fieldLink "ClassWorks$Finder" 26 "ClassWorks$Finder" "reachList" "LClassWorks$Ints;" ∈ lw_ok := lw_okmem (List.mem_of_getElem? (i := 734) (by decide +kernel)) rfl
theorem d_Fi_addReached_0 : decode b_Fi_addReached 0 = .ok (.bipush 100, 2) := by decide +kernel
theorem d_Fi_addReached_2 : decode b_Fi_addReached 2 = .ok (.iload_n 1, 1) := by decide +kernel
theorem d_Fi_addReached_3 : decode b_Fi_addReached 3 = .ok (.imul, 1) := by decide +kernel
theorem d_Fi_addReached_4 : decode b_Fi_addReached 4 = .ok (.iload_n 2, 1) := by decide +kernel
theorem d_Fi_addReached_5 : decode b_Fi_addReached 5 = .ok (.iadd, 1) := by decide +kernel
theorem d_Fi_addReached_6 : decode b_Fi_addReached 6 = .ok (.istore_n 3, 1) := by decide +kernel
theorem d_Fi_addReached_7 : decode b_Fi_addReached 7 = .ok (.iload_n 1, 1) := by decide +kernel
theorem d_Fi_addReached_8 : decode b_Fi_addReached 8 = .ok (.bipush 21, 2) := by decide +kernel
theorem d_Fi_addReached_10 : decode b_Fi_addReached 10 = .ok (.if_icmp .ge 7, 3) := by decide +kernel
theorem d_Fi_addReached_13 : decode b_Fi_addReached 13 = .ok (.iconst 1, 1) := by decide +kernel
theorem d_Fi_addReached_14 : decode b_Fi_addReached 14 = .ok (.goto 4, 3) := by decide +kernel
theorem d_Fi_addReached_17 : decode b_Fi_addReached 17 = .ok (.iconst 0, 1) := by decide +kernel
theorem d_Fi_addReached_18 : decode b_Fi_addReached 18 = .ok (.istore 4, 2) := by decide +kernel
theorem d_Fi_addReached_20 : decode b_Fi_addReached 20 = .ok (.iconst 0, 1) := by decide +kernel
theorem d_Fi_addReached_21 : decode b_Fi_addReached 21 = .ok (.istore 5, 2) := by decide +kernel
theorem d_Fi_addReached_23 : decode b_Fi_addReached 23 = .ok (.iload 5, 2) := by decide +kernel
theorem d_Fi_addReached_25 : decode b_Fi_addReached 25 = .ok (.aload_n 0, 1) := by decide +kernel
theorem d_Fi_addReached_26 : decode b_Fi_addReached 26 = .ok (.getfield 26, 3) := by decide +kernel
theorem d_Fi_addReached_29 : decode b_Fi_addReached 29 = .ok (.getfield 154, 3) := by decide +kernel
theorem d_Fi_addReached_32 : decode b_Fi_addReached 32 = .ok (.if_icmp .ge 35, 3) := by decide +kernel
theorem d_Fi_addReached_35 : decode b_Fi_addReached 35 = .ok (.iload 4, 2) := by decide +kernel
theorem d_Fi_addReached_37 : decode b_Fi_addReached 37 = .ok (.ifCond .ne 30, 3) := by decide +kernel
theorem d_Fi_addReached_40 : decode b_Fi_addReached 40 = .ok (.aload_n 0, 1) := by decide +kernel
theorem d_Fi_addReached_41 : decode b_Fi_addReached 41 = .ok (.getfield 26, 3) := by decide +kernel
theorem d_Fi_addReached_44 : decode b_Fi_addReached 44 = .ok (.getfield 163, 3) := by decide +kernel
theorem d_Fi_addReached_47 : decode b_Fi_addReached 47 = .ok (.iload 5, 2) := by decide +kernel
theorem d_Fi_addReached_49 : decode b_Fi_addReached 49 = .ok (.iaload, 1) := by decide +kernel
theorem d_Fi_addReached_50 : decode b_Fi_addReached 50 = .ok (.iload_n 3, 1) := by decide +kernel
theorem d_Fi_addReached_51 : decode b_Fi_addReached 51 = .ok (.if_icmp .ne 7, 3) := by decide +kernel
theorem d_Fi_addReached_54 : decode b_Fi_addReached 54 = .ok (.iconst 1, 1) := by decide +kernel
theorem d_Fi_addReached_55 : decode b_Fi_addReached 55 = .ok (.goto 4, 3) := by decide +kernel
theorem d_Fi_addReached_58 : decode b_Fi_addReached 58 = .ok (.iconst 0, 1) := by decide +kernel
theorem d_Fi_addReached_59 : decode b_Fi_addReached 59 = .ok (.istore 4, 2) := by decide +kernel
theorem d_Fi_addReached_61 : decode b_Fi_addReached 61 = .ok (.iinc 5 1, 3) := by decide +kernel
theorem d_Fi_addReached_64 : decode b_Fi_addReached 64 = .ok (.goto (-41), 3) := by decide +kernel
theorem d_Fi_addReached_67 : decode b_Fi_addReached 67 = .ok (.iload 4, 2) := by decide +kernel
theorem d_Fi_addReached_69 : decode b_Fi_addReached 69 = .ok (.ifCond .ne 12, 3) := by decide +kernel
theorem d_Fi_addReached_72 : decode b_Fi_addReached 72 = .ok (.aload_n 0, 1) := by decide +kernel
theorem d_Fi_addReached_73 : decode b_Fi_addReached 73 = .ok (.getfield 26, 3) := by decide +kernel
theorem d_Fi_addReached_76 : decode b_Fi_addReached 76 = .ok (.iload_n 3, 1) := by decide +kernel
theorem d_Fi_addReached_77 : decode b_Fi_addReached 77 = .ok (.invokevirtual 160, 3) := by decide +kernel
theorem d_Fi_addReached_80 : decode b_Fi_addReached 80 = .ok (.pop, 1) := by decide +kernel
theorem d_Fi_addReached_81 : decode b_Fi_addReached 81 = .ok (.return_, 1) := by decide +kernel
abbrev ra_Fi_addReached (mc ms : Nat) : Room := { frames := 5, cells := mc, slots := ms, locals := 421 }
def wja_Fi_addReached_81 (mc ms : Nat) (Post : Ly → St → Nat → Nat → Prop) (a0 : Nat) (y_j81 : Ly) (s_j81 : St) (d_j81 e_j81 : Nat) : Prop := (d_j81 ≤ mc ∧ e_j81 ≤ ms) ∧ Post y_j81 s_j81 d_j81 e_j81
def wja_Fi_addReached_67 (mc ms : Nat) (Post : Ly → St → Nat → Nat → Prop) (a0 : Nat) (y_j67 : Ly) (s_j67 : St) (d_j67 e_j67 : Nat) (x3j67 : Int32) (x4j67 : Int32) : Prop := (d_j67 ≤ mc ∧ e_j67 ≤ ms) ∧ ((¬ x4j67 = 0 → wja_Fi_addReached_81 mc ms Post a0 y_j67 s_j67 d_j67 e_j67) ∧ (x4j67 = 0 → ∃ mc_6 ms_7 : Nat, (d_j67 + mc_6 ≤ mc ∧ e_j67 + ms_7 ≤ ms) ∧ wa_In_add mc_6 ms_7 y_j67 (fun (y_3 : Ly) (s_2 : St) (r_1 : Int32) (d_4 e_5 : Nat) => (d_j67 + d_4 ≤ mc ∧ e_j67 + e_5 ≤ ms) ∧ wja_Fi_addReached_81 mc ms Post a0 y_3 s_2 (d_j67 + d_4) (e_j67 + e_5)) s_j67 (lk a0 3) x3j67))
def wja_Fi_addReached_59 (mc ms : Nat) (Post : Ly → St → Nat → Nat → Prop) (K_23 : Ly → St → Nat → Nat → Int32 → Int32 → Int32 → Prop) (a0 : Nat) (y_j59 : Ly) (s_j59 : St) (d_j59 e_j59 : Nat) (x3j59 : Int32) (x5j59 : Int32) (z0j59 : Int32) : Prop := (d_j59 ≤ mc ∧ e_j59 ≤ ms) ∧ K_23 y_j59 s_j59 d_j59 e_j59 x3j59 z0j59 (x5j59 + 1)
def wba_Fi_addReached_23 (mc ms : Nat) (Post : Ly → St → Nat → Nat → Prop) (K_23 : Ly → St → Nat → Nat → Int32 → Int32 → Int32 → Prop) (a0 : Nat) (y_h23 : Ly) (s_h23 : St) (d_h23 e_h23 : Nat) (x3h23 : Int32) (x4h23 : Int32) (x5h23 : Int32) : Prop := (d_h23 ≤ mc ∧ e_h23 ≤ ms) ∧ (((sV s_h23 (lk a0 3) 1) ≤ x5h23 → wja_Fi_addReached_67 mc ms Post a0 y_h23 s_h23 d_h23 e_h23 x3h23 x4h23) ∧ (¬ ((sV s_h23 (lk a0 3) 1) ≤ x5h23) → ((¬ x4h23 = 0 → wja_Fi_addReached_67 mc ms Post a0 y_h23 s_h23 d_h23 e_h23 x3h23 x4h23) ∧ (x4h23 = 0 → xA y_h23 s_h23 (lk a0 3) 0 x5h23 (fun x_9 : Int32 => ((¬ x_9 = x3h23 → wja_Fi_addReached_59 mc ms Post K_23 a0 y_h23 s_h23 d_h23 e_h23 x3h23 x5h23 0) ∧ (x_9 = x3h23 → wja_Fi_addReached_59 mc ms Post K_23 a0 y_h23 s_h23 d_h23 e_h23 x3h23 x5h23 1)))))))
def wla_Fi_addReached_23 (mc ms : Nat) (Post : Ly → St → Nat → Nat → Prop) (a0 : Nat) (y_h23 : Ly) (s_h23 : St) (d_h23 e_h23 : Nat) (x3h23 : Int32) (x4h23 : Int32) (x5h23 : Int32) : Prop := ∃ (I : Ly → St → Nat → Nat → Int32 → Int32 → Int32 → Prop) (μ : Ly → St → Nat → Nat → Int32 → Int32 → Int32 → Nat), I y_h23 s_h23 d_h23 e_h23 x3h23 x4h23 x5h23 ∧ ∀ (u1 : Ly) (u2 : St) (u3 u4 : Nat) (t0 : Int32) (t1 : Int32) (t2 : Int32), I u1 u2 u3 u4 t0 t1 t2 → wba_Fi_addReached_23 mc ms Post (fun z1 z2 z3 z4 t0q t1q t2q => I z1 z2 z3 z4 t0q t1q t2q ∧ μ z1 z2 z3 z4 t0q t1q t2q < μ u1 u2 u3 u4 t0 t1 t2) a0 u1 u2 u3 u4 t0 t1 t2
def wja_Fi_addReached_18 (mc ms : Nat) (Post : Ly → St → Nat → Nat → Prop) (a0 : Nat) (y_j18 : Ly) (s_j18 : St) (d_j18 e_j18 : Nat) (x3j18 : Int32) (z0j18 : Int32) : Prop := (d_j18 ≤ mc ∧ e_j18 ≤ ms) ∧ wla_Fi_addReached_23 mc ms Post a0 y_j18 s_j18 d_j18 e_j18 x3j18 z0j18 0
def wa_Fi_addReached (mc ms : Nat) (y : Ly) (Post : Ly → St → Nat → Nat → Prop) (σ : St) (a0 : Nat) (v1 : Int32) (v2 : Int32) : Prop := ((21 ≤ v1 → wja_Fi_addReached_18 mc ms Post a0 y σ 0 0 ((100 * v1) + v2) 0) ∧ (¬ (21 ≤ v1) → wja_Fi_addReached_18 mc ms Post a0 y σ 0 0 ((100 * v1) + v2) 1))
set_option maxHeartbeats 4000000 in
set_option maxRecDepth 100000 in
theorem ca_Fi_addReached (l : Launch) (D : va_G) (g : Nat → ClassId) (ad : Nat → Nat) (mc ms : Nat) (y : Ly) (Post : Ly → St → Nat → Nat → Prop) (σ : St) (a0 : Nat) (v1 : Int32) (v2 : Int32) (sz uz : Nat) (h_a0 : cl a0 = 1) (h : wa_Fi_addReached mc ms y Post σ a0 v1 v2) : Met l y_Fi_addReached (mw y_Fi_addReached b_Fi_addReached 6 (none)) (ra_Fi_addReached mc ms) (PCu g D [] [.ref (ad a0), .int v1, .int v2] sz uz (ws g ad y σ)) (va_Qv (fun (u : Ly × St × Nat × Nat) => Post u.1 u.2.1 u.2.2.1 u.2.2.2) (QU D (va_A (ws g ad y σ) sz) (fun u => ws g ad u.1 u.2.1) sz uz (fun u => u.2.2.1) (fun u => u.2.2.2)) (va_A (ws g ad y σ) sz)) mc ms (va_A (ws g ad y σ) sz) := by
  refine ofVu (by decide +kernel) (Nat.le_of_ble_eq_true rfl) ?_
  intro p e s m args below meth c A Q ls H locs G hsz hP hD hS hl hret
  subst hsz
  have hl : lv_has ls 6 [(0, .ref (ad a0)), (1, .int v1), (2, .int v2)] := hl
  have hd : 0 ≤ mc ∧ 0 ≤ ms := ⟨Nat.zero_le _, Nat.zero_le _⟩
  unfold wa_Fi_addReached at h
  refine lv_bipush (v := 100) G.1 G.2.1 d_Fi_addReached_0 (by decide) ?_
  refine lv_iload_n G.1 G.2.1 d_Fi_addReached_2 rfl (lv_at hl 1 rfl) ?_
  refine lv_imul G.1 G.2.1 d_Fi_addReached_3 ?_
  refine lv_iload_n G.1 G.2.1 d_Fi_addReached_4 rfl (lv_at hl 2 rfl) ?_
  refine lv_iadd G.1 G.2.1 d_Fi_addReached_5 ?_
  refine lv_istore_n (lv' := [(3, .int ((100 * v1) + v2)), (0, .ref (ad a0)), (1, .int v1), (2, .int v2)]) G.1 G.2.1 d_Fi_addReached_6 rfl hl (by decide) rfl (fun ls hl => ?_)
  refine lv_iload_n G.1 G.2.1 d_Fi_addReached_7 rfl (lv_at hl 2 rfl) ?_
  refine lv_bipush (v := 21) G.1 G.2.1 d_Fi_addReached_8 (by decide) ?_
  have J_18 : ∀ (y_j18 : Ly) (s_j18 : St) (d_j18 e_j18 : Nat) (x3j18 : Int32) (z0j18 : Int32) (H : Heap) (locs : List Loc), wja_Fi_addReached_18 mc ms Post a0 y_j18 s_j18 d_j18 e_j18 x3j18 z0j18 → va_P D CL (ws g ad y_j18 s_j18) H → va_D A (ws g ad y_j18 s_j18) → va_S A s.heap H locs → ∀ ls, lv_has ls 6 [(0, .ref (ad a0)), (3, .int x3j18)] → W p l e (ra_Fi_addReached mc ms) s m args below meth c H locs d_j18 e_j18 Q (F0 m 18 ls [.int z0j18]) := by
    intro y_j18 s_j18 d_j18 e_j18 x3j18 z0j18 H locs h hP hD hS ls hl
    unfold wja_Fi_addReached_18 at h
    obtain ⟨hd, h⟩ := h
    refine lv_istore (lv' := [(4, .int z0j18), (0, .ref (ad a0)), (3, .int x3j18)]) G.1 G.2.1 d_Fi_addReached_18 hl (by decide) rfl (fun ls hl => ?_)
    refine lv_iconst (v := 0) G.1 G.2.1 d_Fi_addReached_20 (by decide) ?_
    refine lv_istore (lv' := [(5, .int 0), (4, .int z0j18), (0, .ref (ad a0)), (3, .int x3j18)]) G.1 G.2.1 d_Fi_addReached_21 hl (by decide) rfl (fun ls hl => ?_)
    unfold wla_Fi_addReached_23 at h
    obtain ⟨I_23, μ_23, hI_23, hB_23⟩ := h
    have L_23 : ∀ (n_23 : Nat) (y_h23 : Ly) (s_h23 : St) (d_h23 e_h23 : Nat) (x3h23 : Int32) (x4h23 : Int32) (x5h23 : Int32), μ_23 y_h23 s_h23 d_h23 e_h23 x3h23 x4h23 x5h23 < n_23 → I_23 y_h23 s_h23 d_h23 e_h23 x3h23 x4h23 x5h23 → ∀ (H : Heap) (locs : List Loc), va_P D CL (ws g ad y_h23 s_h23) H → va_D A (ws g ad y_h23 s_h23) → va_S A s.heap H locs → ∀ ls, lv_has ls 6 [(0, .ref (ad a0)), (3, .int x3h23), (4, .int x4h23), (5, .int x5h23)] → W p l e (ra_Fi_addReached mc ms) s m args below meth c H locs d_h23 e_h23 Q (F0 m 23 ls []) := by
      intro n_23
      induction n_23 with
      | zero => intro y_h23 s_h23 d_h23 e_h23 x3h23 x4h23 x5h23 hμ; exact absurd hμ (Nat.not_lt_zero _)
      | succ n_23 ih_23 =>
        intro y_h23 s_h23 d_h23 e_h23 x3h23 x4h23 x5h23 hμ_23 hJ H locs hP hD hS ls hl
        obtain ⟨K_23, hK_23, h⟩ : ∃ K : Ly → St → Nat → Nat → Int32 → Int32 → Int32 → Prop, (∀ z1 z2 z3 z4 (t0 : Int32) (t1 : Int32) (t2 : Int32), K z1 z2 z3 z4 t0 t1 t2 → I_23 z1 z2 z3 z4 t0 t1 t2 ∧ μ_23 z1 z2 z3 z4 t0 t1 t2 < μ_23 y_h23 s_h23 d_h23 e_h23 x3h23 x4h23 x5h23) ∧ wba_Fi_addReached_23 mc ms Post K a0 y_h23 s_h23 d_h23 e_h23 x3h23 x4h23 x5h23 := ⟨_, fun _ _ _ _ _ _ _ h => h, hB_23 y_h23 s_h23 d_h23 e_h23 x3h23 x4h23 x5h23 hJ⟩
        unfold wba_Fi_addReached_23 at h
        obtain ⟨hd, h⟩ := h
        refine lv_iload G.1 G.2.1 d_Fi_addReached_23 (lv_at hl 3 rfl) ?_
        refine lv_aload_n G.1 G.2.1 d_Fi_addReached_25 rfl (lv_at hl 0 rfl) ?_
        refine ugf (v := .ref (ad (lk a0 3))) G hP h_a0 iFi rfl 3 (by decide) rfl q734 rfl rfl d_Fi_addReached_26 ?_
        refine ugf (v := .int (sV s_h23 (lk a0 3) 1)) G hP (lk_1_3 h_a0) iIn rfl 1 (by decide) rfl q394 rfl rfl d_Fi_addReached_29 ?_
        have J_67 : ∀ (y_j67 : Ly) (s_j67 : St) (d_j67 e_j67 : Nat) (x3j67 : Int32) (x4j67 : Int32) (H : Heap) (locs : List Loc), wja_Fi_addReached_67 mc ms Post a0 y_j67 s_j67 d_j67 e_j67 x3j67 x4j67 → va_P D CL (ws g ad y_j67 s_j67) H → va_D A (ws g ad y_j67 s_j67) → va_S A s.heap H locs → ∀ ls, lv_has ls 6 [(0, .ref (ad a0)), (3, .int x3j67), (4, .int x4j67)] → W p l e (ra_Fi_addReached mc ms) s m args below meth c H locs d_j67 e_j67 Q (F0 m 67 ls []) := by
          intro y_j67 s_j67 d_j67 e_j67 x3j67 x4j67 H locs h hP hD hS ls hl
          unfold wja_Fi_addReached_67 at h
          obtain ⟨hd, h⟩ := h
          refine lv_iload G.1 G.2.1 d_Fi_addReached_67 (lv_at hl 2 rfl) ?_
          have J_81 : ∀ (y_j81 : Ly) (s_j81 : St) (d_j81 e_j81 : Nat) (H : Heap) (locs : List Loc), wja_Fi_addReached_81 mc ms Post a0 y_j81 s_j81 d_j81 e_j81 → va_P D CL (ws g ad y_j81 s_j81) H → va_D A (ws g ad y_j81 s_j81) → va_S A s.heap H locs → ∀ ls, lv_has ls 6 [] → W p l e (ra_Fi_addReached mc ms) s m args below meth c H locs d_j81 e_j81 Q (F0 m 81 ls []) := by
            intro y_j81 s_j81 d_j81 e_j81 H locs h hP hD hS ls hl
            unfold wja_Fi_addReached_81 at h
            obtain ⟨hd, h⟩ := h
            exact hret (y_j81, s_j81, d_j81, e_j81) _ _ _ _ _ ls h hP hD hS (Nat.le_refl _) (Nat.le_refl _) hd.1 hd.2 d_Fi_addReached_81
          refine lv_if_ne (tgt := 81) G.1 G.2.1 d_Fi_addReached_69 (by decide) (fun c69 => ?_) (fun c69 => ?_)
          · skip
            have h := h.1 c69
            exact J_81 y_j67 s_j67 d_j67 e_j67 H locs h hP hD hS ls (lv_sub hl [] rfl)
          · skip
            have h := h.2 c69
            refine lv_aload_n G.1 G.2.1 d_Fi_addReached_72 rfl (lv_at hl 0 rfl) ?_
            refine ugf (v := .ref (ad (lk a0 3))) G hP h_a0 iFi rfl 3 (by decide) rfl q734 rfl rfl d_Fi_addReached_73 ?_
            refine lv_iload_n G.1 G.2.1 d_Fi_addReached_76 rfl (lv_at hl 1 rfl) ?_
            obtain ⟨mc_6, ms_7, hr_8, h⟩ := h
            refine uaVi (As := [.int x3j67]) (rest := []) G hP hD hS (ca_In_add l D g [] ad mc_6 ms_7 y_j67 _ s_j67 (lk a0 3) x3j67 H.size (us H) (lk_1_3 h_a0) h) w9_In_add q1718 ⟨Nat.le_of_ble_eq_true rfl, Nat.le_of_ble_eq_true rfl⟩ rfl rfl (lk_1_3 h_a0) (q := (RIn, TIn, 2)) rfl rfl hl.1 rfl (Nat.le_of_ble_eq_true rfl) rfl hr_8 d_Fi_addReached_77 (fun r_1 y_3 s_2 d_4 e_5 H locs h hP hD hS => ?_)
            have hl := lv_sub (l' := []) hl [] rfl
            obtain ⟨hd, h⟩ := h
            refine lv_pop G.1 G.2.1 d_Fi_addReached_80 rfl ?_
            exact J_81 y_3 s_2 (d_j67 + d_4) (e_j67 + e_5) H locs h hP hD hS ls (lv_sub hl [] rfl)
        refine lv_icmp_ge (tgt := 67) G.1 G.2.1 d_Fi_addReached_32 (by decide) (fun c32 => ?_) (fun c32 => ?_)
        · skip
          have h := h.1 c32
          exact J_67 y_h23 s_h23 d_h23 e_h23 x3h23 x4h23 H locs h hP hD hS ls (lv_sub hl [0, 1, 2] rfl)
        · skip
          have h := h.2 c32
          refine lv_iload G.1 G.2.1 d_Fi_addReached_35 (lv_at hl 2 rfl) ?_
          refine lv_if_ne (tgt := 67) G.1 G.2.1 d_Fi_addReached_37 (by decide) (fun c37 => ?_) (fun c37 => ?_)
          · skip
            have h := h.1 c37
            exact J_67 y_h23 s_h23 d_h23 e_h23 x3h23 x4h23 H locs h hP hD hS ls (lv_sub hl [0, 1, 2] rfl)
          · skip
            have h := h.2 c37
            refine lv_aload_n G.1 G.2.1 d_Fi_addReached_40 rfl (lv_at hl 0 rfl) ?_
            refine ugf (v := .ref (ad (lk a0 3))) G hP h_a0 iFi rfl 3 (by decide) rfl q734 rfl rfl d_Fi_addReached_41 ?_
            refine ugf (v := .ref (yP y_h23 (lk a0 3) 0)) G hP (lk_1_3 h_a0) iIn rfl 0 (by decide) rfl q383 rfl rfl d_Fi_addReached_44 ?_
            refine lv_iload G.1 G.2.1 d_Fi_addReached_47 (lv_at hl 3 rfl) ?_
            refine W.eq (g2 := F0 m 49 ls [.int x5h23, .ref (yP y_h23 (lk a0 3) 0)]) rfl ?_
            refine uiald G hP (kdp (lk_1_3 h_a0) rfl) (typ (lk_1_3 h_a0) rfl) h d_Fi_addReached_49 (fun x_9 h => ?_)
            refine lv_iload_n G.1 G.2.1 d_Fi_addReached_50 rfl (lv_at hl 1 rfl) ?_
            have J_59 : ∀ (y_j59 : Ly) (s_j59 : St) (d_j59 e_j59 : Nat) (x3j59 : Int32) (x5j59 : Int32) (z0j59 : Int32) (H : Heap) (locs : List Loc), wja_Fi_addReached_59 mc ms Post K_23 a0 y_j59 s_j59 d_j59 e_j59 x3j59 x5j59 z0j59 → va_P D CL (ws g ad y_j59 s_j59) H → va_D A (ws g ad y_j59 s_j59) → va_S A s.heap H locs → ∀ ls, lv_has ls 6 [(0, .ref (ad a0)), (3, .int x3j59), (5, .int x5j59)] → W p l e (ra_Fi_addReached mc ms) s m args below meth c H locs d_j59 e_j59 Q (F0 m 59 ls [.int z0j59]) := by
              intro y_j59 s_j59 d_j59 e_j59 x3j59 x5j59 z0j59 H locs h hP hD hS ls hl
              unfold wja_Fi_addReached_59 at h
              obtain ⟨hd, h⟩ := h
              refine lv_istore (lv' := [(4, .int z0j59), (0, .ref (ad a0)), (3, .int x3j59), (5, .int x5j59)]) G.1 G.2.1 d_Fi_addReached_59 hl (by decide) rfl (fun ls hl => ?_)
              refine lv_iinc (v := x5j59 + 1) (lv' := [(5, .int (x5j59 + 1)), (4, .int z0j59), (0, .ref (ad a0)), (3, .int x3j59)]) G.1 G.2.1 d_Fi_addReached_61 hl (k := 3) rfl rfl (by decide) rfl (fun ls hl => ?_)
              refine lv_goto (tgt := 23) G.1 G.2.1 d_Fi_addReached_64 (by decide) ?_
              have h := hK_23 y_j59 s_j59 d_j59 e_j59 x3j59 z0j59 (x5j59 + 1) h
              exact ih_23 y_j59 s_j59 d_j59 e_j59 x3j59 z0j59 (x5j59 + 1) (Nat.lt_of_lt_of_le h.2 (Nat.le_of_lt_succ hμ_23)) h.1 H locs hP hD hS ls (lv_sub hl [2, 3, 1, 0] rfl)
            refine lv_icmp_ne (tgt := 58) G.1 G.2.1 d_Fi_addReached_51 (by decide) (fun c51 => ?_) (fun c51 => ?_)
            · skip
              have h := h.1 c51
              refine lv_iconst (v := 0) G.1 G.2.1 d_Fi_addReached_58 (by decide) ?_
              exact J_59 y_h23 s_h23 d_h23 e_h23 x3h23 x5h23 0 H locs h hP hD hS ls (lv_sub hl [0, 1, 3] rfl)
            · skip
              have h := h.2 c51
              refine lv_iconst (v := 1) G.1 G.2.1 d_Fi_addReached_54 (by decide) ?_
              refine lv_goto (tgt := 59) G.1 G.2.1 d_Fi_addReached_55 (by decide) ?_
              exact J_59 y_h23 s_h23 d_h23 e_h23 x3h23 x5h23 1 H locs h hP hD hS ls (lv_sub hl [0, 1, 3] rfl)
    exact L_23 _ y_j18 s_j18 d_j18 e_j18 x3j18 z0j18 0 (Nat.lt_succ_self _) hI_23 H locs hP hD hS ls (lv_sub hl [2, 3, 1, 0] rfl)
  refine lv_icmp_ge (tgt := 17) G.1 G.2.1 d_Fi_addReached_10 (by decide) (fun c10 => ?_) (fun c10 => ?_)
  · skip
    have h := h.1 c10
    refine lv_iconst (v := 0) G.1 G.2.1 d_Fi_addReached_17 (by decide) ?_
    exact J_18 y σ 0 0 ((100 * v1) + v2) 0 H locs h hP hD hS ls (lv_sub hl [1, 0] rfl)
  · skip
    have h := h.2 c10
    refine lv_iconst (v := 1) G.1 G.2.1 d_Fi_addReached_13 (by decide) ?_
    refine lv_goto (tgt := 18) G.1 G.2.1 d_Fi_addReached_14 (by decide) ?_
    exact J_18 y σ 0 0 ((100 * v1) + v2) 1 H locs h hP hD hS ls (lv_sub hl [1, 0] rfl)
theorem q820 : Cond.fieldLink "ClassWorks$Finder" 236 "ClassWorks$World" "count" "I" ∈ lw_ok := lw_okmem (List.mem_of_getElem? (i := 820) (by decide +kernel)) rfl
theorem q2438 : Cond.methodLink "ClassWorks$Finder" 230 y_Fi_addReached ∈ lw_ok := lw_okmem (List.mem_of_getElem? (i := 2438) (by decide +kernel)) rfl
theorem q2441 : Cond.code y_Fi_addReached b_Fi_addReached 6 (none) ∈ lw_ok := lw_okmem (List.mem_of_getElem? (i := 2441) (by decide +kernel)) rfl
theorem q2440 : Cond.instanceMethod y_Fi_addReached ∈ lw_ok := lw_okmem (List.mem_of_getElem? (i := 2440) (by decide +kernel)) rfl
theorem q149 : Cond.selects y_Fi_addReached.cls y_Fi_addReached y_Fi_addReached ∈ lw_ok := lw_okmem (List.mem_of_getElem? (i := 149) (by decide +kernel)) rfl
theorem w9_Fi_addReached : CWv y_Fi_addReached b_Fi_addReached 6 (none) 2 ∧ Cond.instanceMethod y_Fi_addReached ∈ lw_ok ∧ Cond.selects y_Fi_addReached.cls y_Fi_addReached y_Fi_addReached ∈ lw_ok := ⟨⟨q2441, q342, by decide +kernel, by decide +kernel, by decide +kernel⟩, q2440, q149⟩
def y_Fi_reachObjects : MethodName := ⟨"ClassWorks$Finder", "reachObjects", "(LClassWorks$World;II)V"⟩
abbrev b_Fi_reachObjects : ByteArray := prog_3_method_25_code
theorem d_Fi_reachObjects_0 : decode b_Fi_reachObjects 0 = .ok (.iconst 0, 1) := by decide +kernel
theorem d_Fi_reachObjects_1 : decode b_Fi_reachObjects 1 = .ok (.istore 4, 2) := by decide +kernel
theorem d_Fi_reachObjects_3 : decode b_Fi_reachObjects 3 = .ok (.iload 4, 2) := by decide +kernel
theorem d_Fi_reachObjects_5 : decode b_Fi_reachObjects 5 = .ok (.aload_n 1, 1) := by decide +kernel
theorem d_Fi_reachObjects_6 : decode b_Fi_reachObjects 6 = .ok (.getfield 236, 3) := by decide +kernel
theorem d_Fi_reachObjects_9 : decode b_Fi_reachObjects 9 = .ok (.if_icmp .ge 101, 3) := by decide +kernel
theorem d_Fi_reachObjects_12 : decode b_Fi_reachObjects 12 = .ok (.aload_n 1, 1) := by decide +kernel
theorem d_Fi_reachObjects_13 : decode b_Fi_reachObjects 13 = .ok (.iload 4, 2) := by decide +kernel
theorem d_Fi_reachObjects_15 : decode b_Fi_reachObjects 15 = .ok (.iconst 1, 1) := by decide +kernel
theorem d_Fi_reachObjects_16 : decode b_Fi_reachObjects 16 = .ok (.invokevirtual 51, 3) := by decide +kernel
theorem d_Fi_reachObjects_19 : decode b_Fi_reachObjects 19 = .ok (.bipush 6, 2) := by decide +kernel
theorem d_Fi_reachObjects_21 : decode b_Fi_reachObjects 21 = .ok (.iand, 1) := by decide +kernel
theorem d_Fi_reachObjects_22 : decode b_Fi_reachObjects 22 = .ok (.ifCond .ne 7, 3) := by decide +kernel
theorem d_Fi_reachObjects_25 : decode b_Fi_reachObjects 25 = .ok (.iconst 1, 1) := by decide +kernel
theorem d_Fi_reachObjects_26 : decode b_Fi_reachObjects 26 = .ok (.goto 4, 3) := by decide +kernel
theorem d_Fi_reachObjects_29 : decode b_Fi_reachObjects 29 = .ok (.iconst 0, 1) := by decide +kernel
theorem d_Fi_reachObjects_30 : decode b_Fi_reachObjects 30 = .ok (.istore 5, 2) := by decide +kernel
theorem d_Fi_reachObjects_32 : decode b_Fi_reachObjects 32 = .ok (.iload 4, 2) := by decide +kernel
theorem d_Fi_reachObjects_34 : decode b_Fi_reachObjects 34 = .ok (.iload_n 2, 1) := by decide +kernel
theorem d_Fi_reachObjects_35 : decode b_Fi_reachObjects 35 = .ok (.if_icmp .eq 19, 3) := by decide +kernel
theorem d_Fi_reachObjects_38 : decode b_Fi_reachObjects 38 = .ok (.aload_n 1, 1) := by decide +kernel
theorem d_Fi_reachObjects_39 : decode b_Fi_reachObjects 39 = .ok (.iload 4, 2) := by decide +kernel
theorem d_Fi_reachObjects_41 : decode b_Fi_reachObjects 41 = .ok (.iconst 0, 1) := by decide +kernel
theorem d_Fi_reachObjects_42 : decode b_Fi_reachObjects 42 = .ok (.invokevirtual 93, 3) := by decide +kernel
theorem d_Fi_reachObjects_45 : decode b_Fi_reachObjects 45 = .ok (.iload_n 2, 1) := by decide +kernel
theorem d_Fi_reachObjects_46 : decode b_Fi_reachObjects 46 = .ok (.lshr, 1) := by decide +kernel
theorem d_Fi_reachObjects_47 : decode b_Fi_reachObjects 47 = .ok (.lconst 1, 1) := by decide +kernel
theorem d_Fi_reachObjects_48 : decode b_Fi_reachObjects 48 = .ok (.land, 1) := by decide +kernel
theorem d_Fi_reachObjects_49 : decode b_Fi_reachObjects 49 = .ok (.lconst 0, 1) := by decide +kernel
theorem d_Fi_reachObjects_50 : decode b_Fi_reachObjects 50 = .ok (.lcmp, 1) := by decide +kernel
theorem d_Fi_reachObjects_51 : decode b_Fi_reachObjects 51 = .ok (.ifCond .eq 7, 3) := by decide +kernel
theorem d_Fi_reachObjects_54 : decode b_Fi_reachObjects 54 = .ok (.iconst 1, 1) := by decide +kernel
theorem d_Fi_reachObjects_55 : decode b_Fi_reachObjects 55 = .ok (.goto 4, 3) := by decide +kernel
theorem d_Fi_reachObjects_58 : decode b_Fi_reachObjects 58 = .ok (.iconst 0, 1) := by decide +kernel
theorem d_Fi_reachObjects_59 : decode b_Fi_reachObjects 59 = .ok (.istore 6, 2) := by decide +kernel
theorem d_Fi_reachObjects_61 : decode b_Fi_reachObjects 61 = .ok (.iload 5, 2) := by decide +kernel
theorem d_Fi_reachObjects_63 : decode b_Fi_reachObjects 63 = .ok (.ifCond .eq 41, 3) := by decide +kernel
theorem d_Fi_reachObjects_66 : decode b_Fi_reachObjects 66 = .ok (.iload 6, 2) := by decide +kernel
theorem d_Fi_reachObjects_68 : decode b_Fi_reachObjects 68 = .ok (.ifCond .eq 36, 3) := by decide +kernel
theorem d_Fi_reachObjects_71 : decode b_Fi_reachObjects 71 = .ok (.aload_n 0, 1) := by decide +kernel
theorem d_Fi_reachObjects_72 : decode b_Fi_reachObjects 72 = .ok (.aload_n 1, 1) := by decide +kernel
theorem d_Fi_reachObjects_73 : decode b_Fi_reachObjects 73 = .ok (.iload 4, 2) := by decide +kernel
theorem d_Fi_reachObjects_75 : decode b_Fi_reachObjects 75 = .ok (.invokevirtual 189, 3) := by decide +kernel
theorem d_Fi_reachObjects_78 : decode b_Fi_reachObjects 78 = .ok (.ifCond .ne 26, 3) := by decide +kernel
theorem d_Fi_reachObjects_81 : decode b_Fi_reachObjects 81 = .ok (.aload_n 0, 1) := by decide +kernel
theorem d_Fi_reachObjects_82 : decode b_Fi_reachObjects 82 = .ok (.aload_n 1, 1) := by decide +kernel
theorem d_Fi_reachObjects_83 : decode b_Fi_reachObjects 83 = .ok (.iload 4, 2) := by decide +kernel
theorem d_Fi_reachObjects_85 : decode b_Fi_reachObjects 85 = .ok (.iload_n 3, 1) := by decide +kernel
theorem d_Fi_reachObjects_86 : decode b_Fi_reachObjects 86 = .ok (.invokevirtual 216, 3) := by decide +kernel
theorem d_Fi_reachObjects_89 : decode b_Fi_reachObjects 89 = .ok (.ifCond .ne 15, 3) := by decide +kernel
theorem d_Fi_reachObjects_92 : decode b_Fi_reachObjects 92 = .ok (.aload_n 0, 1) := by decide +kernel
theorem d_Fi_reachObjects_93 : decode b_Fi_reachObjects 93 = .ok (.aload_n 0, 1) := by decide +kernel
theorem d_Fi_reachObjects_94 : decode b_Fi_reachObjects 94 = .ok (.getfield 9, 3) := by decide +kernel
theorem d_Fi_reachObjects_97 : decode b_Fi_reachObjects 97 = .ok (.aload_n 0, 1) := by decide +kernel
theorem d_Fi_reachObjects_98 : decode b_Fi_reachObjects 98 = .ok (.getfield 15, 3) := by decide +kernel
theorem d_Fi_reachObjects_101 : decode b_Fi_reachObjects 101 = .ok (.invokevirtual 230, 3) := by decide +kernel
theorem d_Fi_reachObjects_104 : decode b_Fi_reachObjects 104 = .ok (.iinc 4 1, 3) := by decide +kernel
theorem d_Fi_reachObjects_107 : decode b_Fi_reachObjects 107 = .ok (.goto (-104), 3) := by decide +kernel
theorem d_Fi_reachObjects_110 : decode b_Fi_reachObjects 110 = .ok (.return_, 1) := by decide +kernel
abbrev ra_Fi_reachObjects (mc ms : Nat) : Room := { frames := 8, cells := mc, slots := ms, locals := 500 }
def wja_Fi_reachObjects_104 (mc ms : Nat) (Post : Ly → St → Nat → Nat → Prop) (K_3 : Ly → St → Nat → Nat → Int32 → Int32 → Int32 → Prop) (a0 : Nat) (a1 : Nat) (y_j104 : Ly) (s_j104 : St) (d_j104 e_j104 : Nat) (x2j104 : Int32) (x3j104 : Int32) (x4j104 : Int32) : Prop := (d_j104 ≤ mc ∧ e_j104 ≤ ms) ∧ K_3 y_j104 s_j104 d_j104 e_j104 x2j104 x3j104 (x4j104 + 1)
def wja_Fi_reachObjects_59 (mc ms : Nat) (Post : Ly → St → Nat → Nat → Prop) (K_3 : Ly → St → Nat → Nat → Int32 → Int32 → Int32 → Prop) (a0 : Nat) (a1 : Nat) (y_j59 : Ly) (s_j59 : St) (d_j59 e_j59 : Nat) (x2j59 : Int32) (x3j59 : Int32) (x4j59 : Int32) (x5j59 : Int32) (z0j59 : Int32) : Prop := (d_j59 ≤ mc ∧ e_j59 ≤ ms) ∧ ((x5j59 = 0 → wja_Fi_reachObjects_104 mc ms Post K_3 a0 a1 y_j59 s_j59 d_j59 e_j59 x2j59 x3j59 x4j59) ∧ (¬ (x5j59 = 0) → ((z0j59 = 0 → wja_Fi_reachObjects_104 mc ms Post K_3 a0 a1 y_j59 s_j59 d_j59 e_j59 x2j59 x3j59 x4j59) ∧ (¬ (z0j59 = 0) → ∃ mc_8 ms_9 : Nat, (d_j59 + mc_8 ≤ mc ∧ e_j59 + ms_9 ≤ ms) ∧ wa_Fi_settle mc_8 ms_9 y_j59 (fun (y_5 : Ly) (s_4 : St) (r_3 : Int32) (d_6 e_7 : Nat) => (d_j59 + d_6 ≤ mc ∧ e_j59 + e_7 ≤ ms) ∧ ((¬ r_3 = 0 → wja_Fi_reachObjects_104 mc ms Post K_3 a0 a1 y_5 s_4 (d_j59 + d_6) (e_j59 + e_7) x2j59 x3j59 x4j59) ∧ (r_3 = 0 → wu_Fi_select y_5 (fun (s_12 : St) (r_11 : Int32) => ((¬ r_11 = 0 → wja_Fi_reachObjects_104 mc ms Post K_3 a0 a1 y_5 s_12 (d_j59 + d_6) (e_j59 + e_7) x2j59 x3j59 x4j59) ∧ (r_11 = 0 → ∃ mc_18 ms_19 : Nat, (d_j59 + d_6 + mc_18 ≤ mc ∧ e_j59 + e_7 + ms_19 ≤ ms) ∧ wa_Fi_addReached mc_18 ms_19 y_5 (fun (y_15 : Ly) (s_14 : St) (d_16 e_17 : Nat) => (d_j59 + d_6 + d_16 ≤ mc ∧ e_j59 + e_7 + e_17 ≤ ms) ∧ wja_Fi_reachObjects_104 mc ms Post K_3 a0 a1 y_15 s_14 (d_j59 + d_6 + d_16) (e_j59 + e_7 + e_17) x2j59 x3j59 x4j59) s_12 a0 (sV s_12 a0 0) (sV s_12 a0 1)))) s_4 a0 a1 x4j59 x3j59))) s_j59 a0 a1 x4j59))))
def wja_Fi_reachObjects_54 (mc ms : Nat) (Post : Ly → St → Nat → Nat → Prop) (K_3 : Ly → St → Nat → Nat → Int32 → Int32 → Int32 → Prop) (a0 : Nat) (a1 : Nat) (y_j54 : Ly) (s_j54 : St) (d_j54 e_j54 : Nat) (x2j54 : Int32) (x3j54 : Int32) (x4j54 : Int32) (x5j54 : Int32) : Prop := (d_j54 ≤ mc ∧ e_j54 ≤ ms) ∧ wja_Fi_reachObjects_59 mc ms Post K_3 a0 a1 y_j54 s_j54 d_j54 e_j54 x2j54 x3j54 x4j54 x5j54 1
def wja_Fi_reachObjects_30 (mc ms : Nat) (Post : Ly → St → Nat → Nat → Prop) (K_3 : Ly → St → Nat → Nat → Int32 → Int32 → Int32 → Prop) (a0 : Nat) (a1 : Nat) (y_j30 : Ly) (s_j30 : St) (d_j30 e_j30 : Nat) (x2j30 : Int32) (x3j30 : Int32) (x4j30 : Int32) (z0j30 : Int32) : Prop := (d_j30 ≤ mc ∧ e_j30 ≤ ms) ∧ ((x4j30 = x2j30 → wja_Fi_reachObjects_54 mc ms Post K_3 a0 a1 y_j30 s_j30 d_j30 e_j30 x2j30 x3j30 x4j30 z0j30) ∧ (¬ (x4j30 = x2j30) → wu_Wd_allAbove y_j30 (fun (s_22 : St) (r_21 : Int64) => (((lg_cmp ((r_21 >>> (x2j30.toInt64 &&& 63)) &&& 1) 0) = 0 → wja_Fi_reachObjects_59 mc ms Post K_3 a0 a1 y_j30 s_22 d_j30 e_j30 x2j30 x3j30 x4j30 z0j30 0) ∧ (¬ ((lg_cmp ((r_21 >>> (x2j30.toInt64 &&& 63)) &&& 1) 0) = 0) → wja_Fi_reachObjects_54 mc ms Post K_3 a0 a1 y_j30 s_22 d_j30 e_j30 x2j30 x3j30 x4j30 z0j30))) s_j30 a1 x4j30 0))
def wba_Fi_reachObjects_3 (mc ms : Nat) (Post : Ly → St → Nat → Nat → Prop) (K_3 : Ly → St → Nat → Nat → Int32 → Int32 → Int32 → Prop) (a0 : Nat) (a1 : Nat) (y_h3 : Ly) (s_h3 : St) (d_h3 e_h3 : Nat) (x2h3 : Int32) (x3h3 : Int32) (x4h3 : Int32) : Prop := (d_h3 ≤ mc ∧ e_h3 ≤ ms) ∧ (((sV s_h3 a1 2) ≤ x4h3 → Post y_h3 s_h3 d_h3 e_h3) ∧ (¬ ((sV s_h3 a1 2) ≤ x4h3) → wu_Wd_of y_h3 (fun (s_2 : St) (r_1 : Int32) => ((¬ (r_1 &&& 6) = 0 → wja_Fi_reachObjects_30 mc ms Post K_3 a0 a1 y_h3 s_2 d_h3 e_h3 x2h3 x3h3 x4h3 0) ∧ ((r_1 &&& 6) = 0 → wja_Fi_reachObjects_30 mc ms Post K_3 a0 a1 y_h3 s_2 d_h3 e_h3 x2h3 x3h3 x4h3 1))) s_h3 a1 x4h3 1))
def wla_Fi_reachObjects_3 (mc ms : Nat) (Post : Ly → St → Nat → Nat → Prop) (a0 : Nat) (a1 : Nat) (y_h3 : Ly) (s_h3 : St) (d_h3 e_h3 : Nat) (x2h3 : Int32) (x3h3 : Int32) (x4h3 : Int32) : Prop := ∃ (I : Ly → St → Nat → Nat → Int32 → Int32 → Int32 → Prop) (μ : Ly → St → Nat → Nat → Int32 → Int32 → Int32 → Nat), I y_h3 s_h3 d_h3 e_h3 x2h3 x3h3 x4h3 ∧ ∀ (u1 : Ly) (u2 : St) (u3 u4 : Nat) (t0 : Int32) (t1 : Int32) (t2 : Int32), I u1 u2 u3 u4 t0 t1 t2 → wba_Fi_reachObjects_3 mc ms Post (fun z1 z2 z3 z4 t0q t1q t2q => I z1 z2 z3 z4 t0q t1q t2q ∧ μ z1 z2 z3 z4 t0q t1q t2q < μ u1 u2 u3 u4 t0 t1 t2) a0 a1 u1 u2 u3 u4 t0 t1 t2
def wa_Fi_reachObjects (mc ms : Nat) (y : Ly) (Post : Ly → St → Nat → Nat → Prop) (σ : St) (a0 : Nat) (a1 : Nat) (v2 : Int32) (v3 : Int32) : Prop := wla_Fi_reachObjects_3 mc ms Post a0 a1 y σ 0 0 v2 v3 0
set_option maxHeartbeats 4000000 in
set_option maxRecDepth 100000 in
theorem ca_Fi_reachObjects (l : Launch) (D : va_G) (g : Nat → ClassId) (F : Nat → SL) (sl : List SL) (hF : SOK F sl) (ad : Nat → Nat) (mc ms : Nat) (y : Ly) (Post : Ly → St → Nat → Nat → Prop) (σ : St) (a0 : Nat) (a1 : Nat) (v2 : Int32) (v3 : Int32) (sz uz : Nat) (h_a0 : cl a0 = 1) (h_a1 : cl a1 = 9) (h : wa_Fi_reachObjects mc ms y Post σ a0 a1 v2 v3) : Met l y_Fi_reachObjects (mw y_Fi_reachObjects b_Fi_reachObjects 7 (none)) (ra_Fi_reachObjects mc ms) (PCu g D sl [.ref (ad a0), .ref (ad a1), .int v2, .int v3] sz uz (ws g ad y σ)) (va_Qv (fun (u : Ly × St × Nat × Nat) => Post u.1 u.2.1 u.2.2.1 u.2.2.2) (QU D (va_A (ws g ad y σ) sz) (fun u => ws g ad u.1 u.2.1) sz uz (fun u => u.2.2.1) (fun u => u.2.2.2)) (va_A (ws g ad y σ) sz)) mc ms (va_A (ws g ad y σ) sz) := by
  refine ofVu (by decide +kernel) (Nat.le_of_ble_eq_true rfl) ?_
  intro p e s m args below meth c A Q ls H locs G hsz hP hD hS hl hret
  subst hsz
  have hl : lv_has ls 7 [(0, .ref (ad a0)), (1, .ref (ad a1)), (2, .int v2), (3, .int v3)] := hl
  have hd : 0 ≤ mc ∧ 0 ≤ ms := ⟨Nat.zero_le _, Nat.zero_le _⟩
  unfold wa_Fi_reachObjects at h
  refine lv_iconst (v := 0) G.1 G.2.1 d_Fi_reachObjects_0 (by decide) ?_
  refine lv_istore (lv' := [(4, .int 0), (0, .ref (ad a0)), (1, .ref (ad a1)), (2, .int v2), (3, .int v3)]) G.1 G.2.1 d_Fi_reachObjects_1 hl (by decide) rfl (fun ls hl => ?_)
  unfold wla_Fi_reachObjects_3 at h
  obtain ⟨I_3, μ_3, hI_3, hB_3⟩ := h
  have L_3 : ∀ (n_3 : Nat) (y_h3 : Ly) (s_h3 : St) (d_h3 e_h3 : Nat) (x2h3 : Int32) (x3h3 : Int32) (x4h3 : Int32), μ_3 y_h3 s_h3 d_h3 e_h3 x2h3 x3h3 x4h3 < n_3 → I_3 y_h3 s_h3 d_h3 e_h3 x2h3 x3h3 x4h3 → ∀ (H : Heap) (locs : List Loc), va_P D CL (ws g ad y_h3 s_h3) H → va_D A (ws g ad y_h3 s_h3) → va_S A s.heap H locs → ∀ ls, lv_has ls 7 [(0, .ref (ad a0)), (1, .ref (ad a1)), (2, .int x2h3), (3, .int x3h3), (4, .int x4h3)] → W p l e (ra_Fi_reachObjects mc ms) s m args below meth c H locs d_h3 e_h3 Q (F0 m 3 ls []) := by
    intro n_3
    induction n_3 with
    | zero => intro y_h3 s_h3 d_h3 e_h3 x2h3 x3h3 x4h3 hμ; exact absurd hμ (Nat.not_lt_zero _)
    | succ n_3 ih_3 =>
      intro y_h3 s_h3 d_h3 e_h3 x2h3 x3h3 x4h3 hμ_3 hJ H locs hP hD hS ls hl
      obtain ⟨K_3, hK_3, h⟩ : ∃ K : Ly → St → Nat → Nat → Int32 → Int32 → Int32 → Prop, (∀ z1 z2 z3 z4 (t0 : Int32) (t1 : Int32) (t2 : Int32), K z1 z2 z3 z4 t0 t1 t2 → I_3 z1 z2 z3 z4 t0 t1 t2 ∧ μ_3 z1 z2 z3 z4 t0 t1 t2 < μ_3 y_h3 s_h3 d_h3 e_h3 x2h3 x3h3 x4h3) ∧ wba_Fi_reachObjects_3 mc ms Post K a0 a1 y_h3 s_h3 d_h3 e_h3 x2h3 x3h3 x4h3 := ⟨_, fun _ _ _ _ _ _ _ h => h, hB_3 y_h3 s_h3 d_h3 e_h3 x2h3 x3h3 x4h3 hJ⟩
      unfold wba_Fi_reachObjects_3 at h
      obtain ⟨hd, h⟩ := h
      refine lv_iload G.1 G.2.1 d_Fi_reachObjects_3 (lv_at hl 4 rfl) ?_
      refine lv_aload_n G.1 G.2.1 d_Fi_reachObjects_5 rfl (lv_at hl 1 rfl) ?_
      refine ugf (v := .int (sV s_h3 a1 2)) G hP h_a1 iWd rfl 2 (by decide) rfl q820 rfl rfl d_Fi_reachObjects_6 ?_
      refine lv_icmp_ge (tgt := 110) G.1 G.2.1 d_Fi_reachObjects_9 (by decide) (fun c9 => ?_) (fun c9 => ?_)
      · skip
        have h := h.1 c9
        exact hret (y_h3, s_h3, d_h3, e_h3) _ _ _ _ _ ls h hP hD hS (Nat.le_refl _) (Nat.le_refl _) hd.1 hd.2 d_Fi_reachObjects_110
      · skip
        have h := h.2 c9
        refine lv_aload_n G.1 G.2.1 d_Fi_reachObjects_12 rfl (lv_at hl 1 rfl) ?_
        refine lv_iload G.1 G.2.1 d_Fi_reachObjects_13 (lv_at hl 4 rfl) ?_
        refine lv_iconst (v := 1) G.1 G.2.1 d_Fi_reachObjects_15 (by decide) ?_
        refine ucVi (As := [.int x4h3, .int 1]) (rest := []) G hP hD hS (cu_Wd_of l D g ad y_h3 _ s_h3 a1 x4h3 1 H.size h_a1 h) w9_Wd_of q1532 ⟨Nat.le_of_ble_eq_true rfl, Nat.le_of_ble_eq_true rfl⟩ rfl rfl h_a1 (q := (RWd, TWd, 17)) rfl rfl hl.1 rfl (Nat.le_of_ble_eq_true rfl) rfl hd d_Fi_reachObjects_16 (fun r_1 s_2 H locs h hP hD hS => ?_)
        refine lv_bipush (v := 6) G.1 G.2.1 d_Fi_reachObjects_19 (by decide) ?_
        refine lv_iand G.1 G.2.1 d_Fi_reachObjects_21 ?_
        have J_30 : ∀ (y_j30 : Ly) (s_j30 : St) (d_j30 e_j30 : Nat) (x2j30 : Int32) (x3j30 : Int32) (x4j30 : Int32) (z0j30 : Int32) (H : Heap) (locs : List Loc), wja_Fi_reachObjects_30 mc ms Post K_3 a0 a1 y_j30 s_j30 d_j30 e_j30 x2j30 x3j30 x4j30 z0j30 → va_P D CL (ws g ad y_j30 s_j30) H → va_D A (ws g ad y_j30 s_j30) → va_S A s.heap H locs → ∀ ls, lv_has ls 7 [(0, .ref (ad a0)), (1, .ref (ad a1)), (2, .int x2j30), (3, .int x3j30), (4, .int x4j30)] → W p l e (ra_Fi_reachObjects mc ms) s m args below meth c H locs d_j30 e_j30 Q (F0 m 30 ls [.int z0j30]) := by
          intro y_j30 s_j30 d_j30 e_j30 x2j30 x3j30 x4j30 z0j30 H locs h hP hD hS ls hl
          unfold wja_Fi_reachObjects_30 at h
          obtain ⟨hd, h⟩ := h
          refine lv_istore (lv' := [(5, .int z0j30), (0, .ref (ad a0)), (1, .ref (ad a1)), (2, .int x2j30), (3, .int x3j30), (4, .int x4j30)]) G.1 G.2.1 d_Fi_reachObjects_30 hl (by decide) rfl (fun ls hl => ?_)
          refine lv_iload G.1 G.2.1 d_Fi_reachObjects_32 (lv_at hl 5 rfl) ?_
          refine lv_iload_n G.1 G.2.1 d_Fi_reachObjects_34 rfl (lv_at hl 3 rfl) ?_
          have J_59 : ∀ (y_j59 : Ly) (s_j59 : St) (d_j59 e_j59 : Nat) (x2j59 : Int32) (x3j59 : Int32) (x4j59 : Int32) (x5j59 : Int32) (z0j59 : Int32) (H : Heap) (locs : List Loc), wja_Fi_reachObjects_59 mc ms Post K_3 a0 a1 y_j59 s_j59 d_j59 e_j59 x2j59 x3j59 x4j59 x5j59 z0j59 → va_P D CL (ws g ad y_j59 s_j59) H → va_D A (ws g ad y_j59 s_j59) → va_S A s.heap H locs → ∀ ls, lv_has ls 7 [(0, .ref (ad a0)), (1, .ref (ad a1)), (2, .int x2j59), (3, .int x3j59), (4, .int x4j59), (5, .int x5j59)] → W p l e (ra_Fi_reachObjects mc ms) s m args below meth c H locs d_j59 e_j59 Q (F0 m 59 ls [.int z0j59]) := by
            intro y_j59 s_j59 d_j59 e_j59 x2j59 x3j59 x4j59 x5j59 z0j59 H locs h hP hD hS ls hl
            unfold wja_Fi_reachObjects_59 at h
            obtain ⟨hd, h⟩ := h
            refine lv_istore (lv' := [(6, .int z0j59), (0, .ref (ad a0)), (1, .ref (ad a1)), (2, .int x2j59), (3, .int x3j59), (4, .int x4j59), (5, .int x5j59)]) G.1 G.2.1 d_Fi_reachObjects_59 hl (by decide) rfl (fun ls hl => ?_)
            refine lv_iload G.1 G.2.1 d_Fi_reachObjects_61 (lv_at hl 6 rfl) ?_
            have J_104 : ∀ (y_j104 : Ly) (s_j104 : St) (d_j104 e_j104 : Nat) (x2j104 : Int32) (x3j104 : Int32) (x4j104 : Int32) (H : Heap) (locs : List Loc), wja_Fi_reachObjects_104 mc ms Post K_3 a0 a1 y_j104 s_j104 d_j104 e_j104 x2j104 x3j104 x4j104 → va_P D CL (ws g ad y_j104 s_j104) H → va_D A (ws g ad y_j104 s_j104) → va_S A s.heap H locs → ∀ ls, lv_has ls 7 [(0, .ref (ad a0)), (1, .ref (ad a1)), (2, .int x2j104), (3, .int x3j104), (4, .int x4j104)] → W p l e (ra_Fi_reachObjects mc ms) s m args below meth c H locs d_j104 e_j104 Q (F0 m 104 ls []) := by
              intro y_j104 s_j104 d_j104 e_j104 x2j104 x3j104 x4j104 H locs h hP hD hS ls hl
              unfold wja_Fi_reachObjects_104 at h
              obtain ⟨hd, h⟩ := h
              refine lv_iinc (v := x4j104 + 1) (lv' := [(4, .int (x4j104 + 1)), (0, .ref (ad a0)), (1, .ref (ad a1)), (2, .int x2j104), (3, .int x3j104)]) G.1 G.2.1 d_Fi_reachObjects_104 hl (k := 4) rfl rfl (by decide) rfl (fun ls hl => ?_)
              refine lv_goto (tgt := 3) G.1 G.2.1 d_Fi_reachObjects_107 (by decide) ?_
              have h := hK_3 y_j104 s_j104 d_j104 e_j104 x2j104 x3j104 (x4j104 + 1) h
              exact ih_3 y_j104 s_j104 d_j104 e_j104 x2j104 x3j104 (x4j104 + 1) (Nat.lt_of_lt_of_le h.2 (Nat.le_of_lt_succ hμ_3)) h.1 H locs hP hD hS ls (lv_sub hl [1, 2, 3, 4, 0] rfl)
            refine lv_if_eq (tgt := 104) G.1 G.2.1 d_Fi_reachObjects_63 (by decide) (fun c63 => ?_) (fun c63 => ?_)
            · skip
              have h := h.1 c63
              exact J_104 y_j59 s_j59 d_j59 e_j59 x2j59 x3j59 x4j59 H locs h hP hD hS ls (lv_sub hl [1, 2, 3, 4, 5] rfl)
            · skip
              have h := h.2 c63
              refine lv_iload G.1 G.2.1 d_Fi_reachObjects_66 (lv_at hl 0 rfl) ?_
              refine lv_if_eq (tgt := 104) G.1 G.2.1 d_Fi_reachObjects_68 (by decide) (fun c68 => ?_) (fun c68 => ?_)
              · skip
                have h := h.1 c68
                exact J_104 y_j59 s_j59 d_j59 e_j59 x2j59 x3j59 x4j59 H locs h hP hD hS ls (lv_sub hl [1, 2, 3, 4, 5] rfl)
              · skip
                have h := h.2 c68
                refine lv_aload_n G.1 G.2.1 d_Fi_reachObjects_71 rfl (lv_at hl 1 rfl) ?_
                refine lv_aload_n G.1 G.2.1 d_Fi_reachObjects_72 rfl (lv_at hl 2 rfl) ?_
                refine lv_iload G.1 G.2.1 d_Fi_reachObjects_73 (lv_at hl 5 rfl) ?_
                obtain ⟨mc_8, ms_9, hr_10, h⟩ := h
                refine utVi (As := [.ref (ad a1), .int x4j59]) (rest := []) G hP hD hS (ca_Fi_settle l D g F sl hF ad mc_8 ms_9 y_j59 _ s_j59 a0 a1 x4j59 H.size (us H) h_a0 h_a1 h) w9_Fi_settle q2326 ⟨Nat.le_of_ble_eq_true rfl, Nat.le_of_ble_eq_true rfl⟩ rfl rfl h_a0 (q := (RFi, TFi, 10)) rfl rfl hl.1 rfl (Nat.le_of_ble_eq_true rfl) rfl hr_10 d_Fi_reachObjects_75 (fun r_3 y_5 s_4 d_6 e_7 H locs h hP hD hS => ?_)
                have hl := lv_sub (l' := [(0, .ref (ad a0)), (1, .ref (ad a1)), (2, .int x2j59), (3, .int x3j59), (4, .int x4j59)]) hl [1, 2, 3, 4, 5] rfl
                obtain ⟨hd, h⟩ := h
                refine lv_if_ne (tgt := 104) G.1 G.2.1 d_Fi_reachObjects_78 (by decide) (fun c78 => ?_) (fun c78 => ?_)
                · skip
                  have h := h.1 c78
                  exact J_104 y_5 s_4 (d_j59 + d_6) (e_j59 + e_7) x2j59 x3j59 x4j59 H locs h hP hD hS ls (lv_sub hl [0, 1, 2, 3, 4] rfl)
                · skip
                  have h := h.2 c78
                  refine lv_aload_n G.1 G.2.1 d_Fi_reachObjects_81 rfl (lv_at hl 0 rfl) ?_
                  refine W.eq (g2 := F0 m 82 ls [.ref (ad a0)]) rfl ?_
                  refine lv_aload_n G.1 G.2.1 d_Fi_reachObjects_82 rfl (lv_at hl 1 rfl) ?_
                  refine lv_iload G.1 G.2.1 d_Fi_reachObjects_83 (lv_at hl 4 rfl) ?_
                  refine lv_iload_n G.1 G.2.1 d_Fi_reachObjects_85 rfl (lv_at hl 3 rfl) ?_
                  refine ucVi (As := [.ref (ad a1), .int x4j59, .int x3j59]) (rest := []) G hP hD hS (cu_Fi_select l D g ad y_5 _ s_4 a0 a1 x4j59 x3j59 H.size h_a0 h_a1 h) w9_Fi_select q2336 ⟨Nat.le_of_ble_eq_true rfl, Nat.le_of_ble_eq_true rfl⟩ rfl rfl h_a0 (q := (RFi, TFi, 10)) rfl rfl hl.1 rfl (Nat.le_of_ble_eq_true rfl) rfl hd d_Fi_reachObjects_86 (fun r_11 s_12 H locs h hP hD hS => ?_)
                  refine lv_if_ne (tgt := 104) G.1 G.2.1 d_Fi_reachObjects_89 (by decide) (fun c89 => ?_) (fun c89 => ?_)
                  · skip
                    have h := h.1 c89
                    exact J_104 y_5 s_12 (d_j59 + d_6) (e_j59 + e_7) x2j59 x3j59 x4j59 H locs h hP hD hS ls (lv_sub hl [0, 1, 2, 3, 4] rfl)
                  · skip
                    have h := h.2 c89
                    refine lv_aload_n G.1 G.2.1 d_Fi_reachObjects_92 rfl (lv_at hl 0 rfl) ?_
                    refine lv_aload_n G.1 G.2.1 d_Fi_reachObjects_93 rfl (lv_at hl 0 rfl) ?_
                    refine ugf (v := .int (sV s_12 a0 0)) G hP h_a0 iFi rfl 0 (by decide) rfl q726 rfl rfl d_Fi_reachObjects_94 ?_
                    refine lv_aload_n G.1 G.2.1 d_Fi_reachObjects_97 rfl (lv_at hl 0 rfl) ?_
                    refine ugf (v := .int (sV s_12 a0 1)) G hP h_a0 iFi rfl 1 (by decide) rfl q729 rfl rfl d_Fi_reachObjects_98 ?_
                    obtain ⟨mc_18, ms_19, hr_20, h⟩ := h
                    refine uaVv (As := [.int (sV s_12 a0 0), .int (sV s_12 a0 1)]) (rest := []) G hP hD hS (ca_Fi_addReached l D g ad mc_18 ms_19 y_5 _ s_12 a0 (sV s_12 a0 0) (sV s_12 a0 1) H.size (us H) h_a0 h) w9_Fi_addReached q2438 ⟨Nat.le_of_ble_eq_true rfl, Nat.le_of_ble_eq_true rfl⟩ rfl rfl h_a0 (q := (RFi, TFi, 10)) rfl rfl hl.1 rfl (Nat.le_of_ble_eq_true rfl) rfl hr_20 d_Fi_reachObjects_101 (fun y_15 s_14 d_16 e_17 H locs h hP hD hS => ?_)
                    obtain ⟨hd, h⟩ := h
                    exact J_104 y_15 s_14 (d_j59 + d_6 + d_16) (e_j59 + e_7 + e_17) x2j59 x3j59 x4j59 H locs h hP hD hS ls (lv_sub hl [0, 1, 2, 3, 4] rfl)
          have J_54 : ∀ (y_j54 : Ly) (s_j54 : St) (d_j54 e_j54 : Nat) (x2j54 : Int32) (x3j54 : Int32) (x4j54 : Int32) (x5j54 : Int32) (H : Heap) (locs : List Loc), wja_Fi_reachObjects_54 mc ms Post K_3 a0 a1 y_j54 s_j54 d_j54 e_j54 x2j54 x3j54 x4j54 x5j54 → va_P D CL (ws g ad y_j54 s_j54) H → va_D A (ws g ad y_j54 s_j54) → va_S A s.heap H locs → ∀ ls, lv_has ls 7 [(0, .ref (ad a0)), (1, .ref (ad a1)), (2, .int x2j54), (3, .int x3j54), (4, .int x4j54), (5, .int x5j54)] → W p l e (ra_Fi_reachObjects mc ms) s m args below meth c H locs d_j54 e_j54 Q (F0 m 54 ls []) := by
            intro y_j54 s_j54 d_j54 e_j54 x2j54 x3j54 x4j54 x5j54 H locs h hP hD hS ls hl
            unfold wja_Fi_reachObjects_54 at h
            obtain ⟨hd, h⟩ := h
            refine lv_iconst (v := 1) G.1 G.2.1 d_Fi_reachObjects_54 (by decide) ?_
            refine lv_goto (tgt := 59) G.1 G.2.1 d_Fi_reachObjects_55 (by decide) ?_
            exact J_59 y_j54 s_j54 d_j54 e_j54 x2j54 x3j54 x4j54 x5j54 1 H locs h hP hD hS ls (lv_sub hl [0, 1, 2, 3, 4, 5] rfl)
          refine lv_icmp_eq (tgt := 54) G.1 G.2.1 d_Fi_reachObjects_35 (by decide) (fun c35 => ?_) (fun c35 => ?_)
          · skip
            have h := h.1 c35
            exact J_54 y_j30 s_j30 d_j30 e_j30 x2j30 x3j30 x4j30 z0j30 H locs h hP hD hS ls (lv_sub hl [1, 2, 3, 4, 5, 0] rfl)
          · skip
            have h := h.2 c35
            refine lv_aload_n G.1 G.2.1 d_Fi_reachObjects_38 rfl (lv_at hl 2 rfl) ?_
            refine lv_iload G.1 G.2.1 d_Fi_reachObjects_39 (lv_at hl 5 rfl) ?_
            refine lv_iconst (v := 0) G.1 G.2.1 d_Fi_reachObjects_41 (by decide) ?_
            refine ucVl (As := [.int x4j30, .int 0]) (rest := []) G hP hD hS (cu_Wd_allAbove l D g ad y_j30 _ s_j30 a1 x4j30 0 H.size h_a1 h) w9_Wd_allAbove q1537 ⟨Nat.le_of_ble_eq_true rfl, Nat.le_of_ble_eq_true rfl⟩ rfl rfl h_a1 (q := (RWd, TWd, 17)) rfl rfl hl.1 rfl (Nat.le_of_ble_eq_true rfl) rfl hd d_Fi_reachObjects_42 (fun r_21 s_22 H locs h hP hD hS => ?_)
            refine lv_iload_n G.1 G.2.1 d_Fi_reachObjects_45 rfl (lv_at hl 3 rfl) ?_
            refine lv_lshr G.1 G.2.1 d_Fi_reachObjects_46 rfl ?_
            refine lv_lconst (v := 1) G.1 G.2.1 d_Fi_reachObjects_47 (by decide) ?_
            refine W.eq (g2 := F0 m 48 ls [.long 1, .long (r_21 >>> (x2j30.toInt64 &&& 63))]) rfl ?_
            refine lv_land G.1 G.2.1 d_Fi_reachObjects_48 ?_
            refine lv_lconst (v := 0) G.1 G.2.1 d_Fi_reachObjects_49 (by decide) ?_
            refine W.lcmp G.1 G.2.1 d_Fi_reachObjects_50 ?_
            refine lv_if_eq (tgt := 58) G.1 G.2.1 d_Fi_reachObjects_51 (by decide) (fun c51 => ?_) (fun c51 => ?_)
            · skip
              have h := h.1 c51
              refine lv_iconst (v := 0) G.1 G.2.1 d_Fi_reachObjects_58 (by decide) ?_
              exact J_59 y_j30 s_22 d_j30 e_j30 x2j30 x3j30 x4j30 z0j30 0 H locs h hP hD hS ls (lv_sub hl [1, 2, 3, 4, 5, 0] rfl)
            · skip
              have h := h.2 c51
              exact J_54 y_j30 s_22 d_j30 e_j30 x2j30 x3j30 x4j30 z0j30 H locs h hP hD hS ls (lv_sub hl [1, 2, 3, 4, 5, 0] rfl)
        refine lv_if_ne (tgt := 29) G.1 G.2.1 d_Fi_reachObjects_22 (by decide) (fun c22 => ?_) (fun c22 => ?_)
        · skip
          have h := h.1 c22
          refine W.eq (g2 := F0 m 29 ls []) rfl ?_
          refine lv_iconst (v := 0) G.1 G.2.1 d_Fi_reachObjects_29 (by decide) ?_
          exact J_30 y_h3 s_2 d_h3 e_h3 x2h3 x3h3 x4h3 0 H locs h hP hD hS ls (lv_sub hl [0, 1, 2, 3, 4] rfl)
        · skip
          have h := h.2 c22
          refine W.eq (g2 := F0 m 25 ls []) rfl ?_
          refine lv_iconst (v := 1) G.1 G.2.1 d_Fi_reachObjects_25 (by decide) ?_
          refine lv_goto (tgt := 30) G.1 G.2.1 d_Fi_reachObjects_26 (by decide) ?_
          exact J_30 y_h3 s_2 d_h3 e_h3 x2h3 x3h3 x4h3 1 H locs h hP hD hS ls (lv_sub hl [0, 1, 2, 3, 4] rfl)
  exact L_3 _ y σ 0 0 v2 v3 0 (Nat.lt_succ_self _) hI_3 H locs hP hD hS ls (lv_sub hl [1, 2, 3, 4, 0] rfl)
def y_Fi_reachStarts : MethodName := ⟨"ClassWorks$Finder", "reachStarts", "(LClassWorks$World;I)V"⟩
abbrev b_Fi_reachStarts : ByteArray := prog_3_method_26_code
theorem q517 : Cond.fieldLink "ClassWorks$Finder" 239 "ClassWorks$Names" "startSign" "I" ∈ lw_ok := lw_okmem (List.mem_of_getElem? (i := 517) (by decide +kernel)) rfl
theorem d_Fi_reachStarts_0 : decode b_Fi_reachStarts 0 = .ok (.iload_n 2, 1) := by decide +kernel
theorem d_Fi_reachStarts_1 : decode b_Fi_reachStarts 1 = .ok (.istore_n 3, 1) := by decide +kernel
theorem d_Fi_reachStarts_2 : decode b_Fi_reachStarts 2 = .ok (.iconst 0, 1) := by decide +kernel
theorem d_Fi_reachStarts_3 : decode b_Fi_reachStarts 3 = .ok (.istore 4, 2) := by decide +kernel
theorem d_Fi_reachStarts_5 : decode b_Fi_reachStarts 5 = .ok (.iload 4, 2) := by decide +kernel
theorem d_Fi_reachStarts_7 : decode b_Fi_reachStarts 7 = .ok (.bipush 51, 2) := by decide +kernel
theorem d_Fi_reachStarts_9 : decode b_Fi_reachStarts 9 = .ok (.if_icmp .ge 68, 3) := by decide +kernel
theorem d_Fi_reachStarts_12 : decode b_Fi_reachStarts 12 = .ok (.iload_n 3, 1) := by decide +kernel
theorem d_Fi_reachStarts_13 : decode b_Fi_reachStarts 13 = .ok (.ifCond .lt 64, 3) := by decide +kernel
theorem d_Fi_reachStarts_16 : decode b_Fi_reachStarts 16 = .ok (.aload_n 1, 1) := by decide +kernel
theorem d_Fi_reachStarts_17 : decode b_Fi_reachStarts 17 = .ok (.iload_n 3, 1) := by decide +kernel
theorem d_Fi_reachStarts_18 : decode b_Fi_reachStarts 18 = .ok (.bipush 13, 2) := by decide +kernel
theorem d_Fi_reachStarts_20 : decode b_Fi_reachStarts 20 = .ok (.invokevirtual 51, 3) := by decide +kernel
theorem d_Fi_reachStarts_23 : decode b_Fi_reachStarts 23 = .ok (.iconst 2, 1) := by decide +kernel
theorem d_Fi_reachStarts_24 : decode b_Fi_reachStarts 24 = .ok (.if_icmp .eq 53, 3) := by decide +kernel
theorem d_Fi_reachStarts_27 : decode b_Fi_reachStarts 27 = .ok (.aload_n 1, 1) := by decide +kernel
theorem d_Fi_reachStarts_28 : decode b_Fi_reachStarts 28 = .ok (.iload_n 3, 1) := by decide +kernel
theorem d_Fi_reachStarts_29 : decode b_Fi_reachStarts 29 = .ok (.aload_n 0, 1) := by decide +kernel
theorem d_Fi_reachStarts_30 : decode b_Fi_reachStarts 30 = .ok (.getfield 43, 3) := by decide +kernel
theorem d_Fi_reachStarts_33 : decode b_Fi_reachStarts 33 = .ok (.getfield 239, 3) := by decide +kernel
theorem d_Fi_reachStarts_36 : decode b_Fi_reachStarts 36 = .ok (.invokevirtual 112, 3) := by decide +kernel
theorem d_Fi_reachStarts_39 : decode b_Fi_reachStarts 39 = .ok (.istore 5, 2) := by decide +kernel
theorem d_Fi_reachStarts_41 : decode b_Fi_reachStarts 41 = .ok (.iload 5, 2) := by decide +kernel
theorem d_Fi_reachStarts_43 : decode b_Fi_reachStarts 43 = .ok (.ifCond .lt 10, 3) := by decide +kernel
theorem d_Fi_reachStarts_46 : decode b_Fi_reachStarts 46 = .ok (.aload_n 0, 1) := by decide +kernel
theorem d_Fi_reachStarts_47 : decode b_Fi_reachStarts 47 = .ok (.iload_n 3, 1) := by decide +kernel
theorem d_Fi_reachStarts_48 : decode b_Fi_reachStarts 48 = .ok (.iload 5, 2) := by decide +kernel
theorem d_Fi_reachStarts_50 : decode b_Fi_reachStarts 50 = .ok (.invokevirtual 230, 3) := by decide +kernel
theorem d_Fi_reachStarts_53 : decode b_Fi_reachStarts 53 = .ok (.aload_n 1, 1) := by decide +kernel
theorem d_Fi_reachStarts_54 : decode b_Fi_reachStarts 54 = .ok (.iload_n 3, 1) := by decide +kernel
theorem d_Fi_reachStarts_55 : decode b_Fi_reachStarts 55 = .ok (.invokevirtual 97, 3) := by decide +kernel
theorem d_Fi_reachStarts_58 : decode b_Fi_reachStarts 58 = .ok (.ifCond .eq 7, 3) := by decide +kernel
theorem d_Fi_reachStarts_61 : decode b_Fi_reachStarts 61 = .ok (.iconst (-1), 1) := by decide +kernel
theorem d_Fi_reachStarts_62 : decode b_Fi_reachStarts 62 = .ok (.goto 8, 3) := by decide +kernel
theorem d_Fi_reachStarts_65 : decode b_Fi_reachStarts 65 = .ok (.aload_n 1, 1) := by decide +kernel
theorem d_Fi_reachStarts_66 : decode b_Fi_reachStarts 66 = .ok (.iload_n 3, 1) := by decide +kernel
theorem d_Fi_reachStarts_67 : decode b_Fi_reachStarts 67 = .ok (.invokevirtual 109, 3) := by decide +kernel
theorem d_Fi_reachStarts_70 : decode b_Fi_reachStarts 70 = .ok (.istore_n 3, 1) := by decide +kernel
theorem d_Fi_reachStarts_71 : decode b_Fi_reachStarts 71 = .ok (.iinc 4 1, 3) := by decide +kernel
theorem d_Fi_reachStarts_74 : decode b_Fi_reachStarts 74 = .ok (.goto (-69), 3) := by decide +kernel
theorem d_Fi_reachStarts_77 : decode b_Fi_reachStarts 77 = .ok (.return_, 1) := by decide +kernel
abbrev ra_Fi_reachStarts (mc ms : Nat) : Room := { frames := 6, cells := mc, slots := ms, locals := 446 }
def wja_Fi_reachStarts_77 (mc ms : Nat) (Post : Ly → St → Nat → Nat → Prop) (a0 : Nat) (a1 : Nat) (y_j77 : Ly) (s_j77 : St) (d_j77 e_j77 : Nat) : Prop := (d_j77 ≤ mc ∧ e_j77 ≤ ms) ∧ Post y_j77 s_j77 d_j77 e_j77
def wja_Fi_reachStarts_70 (mc ms : Nat) (Post : Ly → St → Nat → Nat → Prop) (K_5 : Ly → St → Nat → Nat → Int32 → Int32 → Prop) (a0 : Nat) (a1 : Nat) (y_j70 : Ly) (s_j70 : St) (d_j70 e_j70 : Nat) (x4j70 : Int32) (z0j70 : Int32) : Prop := (d_j70 ≤ mc ∧ e_j70 ≤ ms) ∧ K_5 y_j70 s_j70 d_j70 e_j70 z0j70 (x4j70 + 1)
def wja_Fi_reachStarts_53 (mc ms : Nat) (Post : Ly → St → Nat → Nat → Prop) (K_5 : Ly → St → Nat → Nat → Int32 → Int32 → Prop) (a0 : Nat) (a1 : Nat) (y_j53 : Ly) (s_j53 : St) (d_j53 e_j53 : Nat) (x3j53 : Int32) (x4j53 : Int32) : Prop := (d_j53 ≤ mc ∧ e_j53 ≤ ms) ∧ wu_Wd_isFace y_j53 (fun (s_6 : St) (r_5 : Int32) => ((r_5 = 0 → wu_Wd_up y_j53 (fun (s_8 : St) (r_7 : Int32) => wja_Fi_reachStarts_70 mc ms Post K_5 a0 a1 y_j53 s_8 d_j53 e_j53 x4j53 r_7) s_6 a1 x3j53) ∧ (¬ (r_5 = 0) → wja_Fi_reachStarts_70 mc ms Post K_5 a0 a1 y_j53 s_6 d_j53 e_j53 x4j53 (-1)))) s_j53 a1 x3j53
def wba_Fi_reachStarts_5 (mc ms : Nat) (Post : Ly → St → Nat → Nat → Prop) (K_5 : Ly → St → Nat → Nat → Int32 → Int32 → Prop) (a0 : Nat) (a1 : Nat) (y_h5 : Ly) (s_h5 : St) (d_h5 e_h5 : Nat) (x3h5 : Int32) (x4h5 : Int32) : Prop := (d_h5 ≤ mc ∧ e_h5 ≤ ms) ∧ ((51 ≤ x4h5 → wja_Fi_reachStarts_77 mc ms Post a0 a1 y_h5 s_h5 d_h5 e_h5) ∧ (¬ (51 ≤ x4h5) → ((x3h5 < 0 → wja_Fi_reachStarts_77 mc ms Post a0 a1 y_h5 s_h5 d_h5 e_h5) ∧ (¬ (x3h5 < 0) → wu_Wd_of y_h5 (fun (s_2 : St) (r_1 : Int32) => ((r_1 = 2 → wja_Fi_reachStarts_77 mc ms Post a0 a1 y_h5 s_2 d_h5 e_h5) ∧ (¬ (r_1 = 2) → wu_Wd_methodWith y_h5 (fun (s_4 : St) (r_3 : Int32) => ((r_3 < 0 → wja_Fi_reachStarts_53 mc ms Post K_5 a0 a1 y_h5 s_4 d_h5 e_h5 x3h5 x4h5) ∧ (¬ (r_3 < 0) → ∃ mc_14 ms_15 : Nat, (d_h5 + mc_14 ≤ mc ∧ e_h5 + ms_15 ≤ ms) ∧ wa_Fi_addReached mc_14 ms_15 y_h5 (fun (y_11 : Ly) (s_10 : St) (d_12 e_13 : Nat) => (d_h5 + d_12 ≤ mc ∧ e_h5 + e_13 ≤ ms) ∧ wja_Fi_reachStarts_53 mc ms Post K_5 a0 a1 y_11 s_10 (d_h5 + d_12) (e_h5 + e_13) x3h5 x4h5) s_4 a0 x3h5 r_3))) s_2 a1 x3h5 (sV s_2 (lk a0 4) 10)))) s_h5 a1 x3h5 13))))
def wla_Fi_reachStarts_5 (mc ms : Nat) (Post : Ly → St → Nat → Nat → Prop) (a0 : Nat) (a1 : Nat) (y_h5 : Ly) (s_h5 : St) (d_h5 e_h5 : Nat) (x3h5 : Int32) (x4h5 : Int32) : Prop := ∃ (I : Ly → St → Nat → Nat → Int32 → Int32 → Prop) (μ : Ly → St → Nat → Nat → Int32 → Int32 → Nat), I y_h5 s_h5 d_h5 e_h5 x3h5 x4h5 ∧ ∀ (u1 : Ly) (u2 : St) (u3 u4 : Nat) (t0 : Int32) (t1 : Int32), I u1 u2 u3 u4 t0 t1 → wba_Fi_reachStarts_5 mc ms Post (fun z1 z2 z3 z4 t0q t1q => I z1 z2 z3 z4 t0q t1q ∧ μ z1 z2 z3 z4 t0q t1q < μ u1 u2 u3 u4 t0 t1) a0 a1 u1 u2 u3 u4 t0 t1
def wa_Fi_reachStarts (mc ms : Nat) (y : Ly) (Post : Ly → St → Nat → Nat → Prop) (σ : St) (a0 : Nat) (a1 : Nat) (v2 : Int32) : Prop := wla_Fi_reachStarts_5 mc ms Post a0 a1 y σ 0 0 v2 0
set_option maxHeartbeats 4000000 in
set_option maxRecDepth 100000 in
theorem ca_Fi_reachStarts (l : Launch) (D : va_G) (g : Nat → ClassId) (ad : Nat → Nat) (mc ms : Nat) (y : Ly) (Post : Ly → St → Nat → Nat → Prop) (σ : St) (a0 : Nat) (a1 : Nat) (v2 : Int32) (sz uz : Nat) (h_a0 : cl a0 = 1) (h_a1 : cl a1 = 9) (h : wa_Fi_reachStarts mc ms y Post σ a0 a1 v2) : Met l y_Fi_reachStarts (mw y_Fi_reachStarts b_Fi_reachStarts 6 (none)) (ra_Fi_reachStarts mc ms) (PCu g D [] [.ref (ad a0), .ref (ad a1), .int v2] sz uz (ws g ad y σ)) (va_Qv (fun (u : Ly × St × Nat × Nat) => Post u.1 u.2.1 u.2.2.1 u.2.2.2) (QU D (va_A (ws g ad y σ) sz) (fun u => ws g ad u.1 u.2.1) sz uz (fun u => u.2.2.1) (fun u => u.2.2.2)) (va_A (ws g ad y σ) sz)) mc ms (va_A (ws g ad y σ) sz) := by
  refine ofVu (by decide +kernel) (Nat.le_of_ble_eq_true rfl) ?_
  intro p e s m args below meth c A Q ls H locs G hsz hP hD hS hl hret
  subst hsz
  have hl : lv_has ls 6 [(0, .ref (ad a0)), (1, .ref (ad a1)), (2, .int v2)] := hl
  have hd : 0 ≤ mc ∧ 0 ≤ ms := ⟨Nat.zero_le _, Nat.zero_le _⟩
  unfold wa_Fi_reachStarts at h
  refine lv_iload_n G.1 G.2.1 d_Fi_reachStarts_0 rfl (lv_at hl 2 rfl) ?_
  refine lv_istore_n (lv' := [(3, .int v2), (0, .ref (ad a0)), (1, .ref (ad a1)), (2, .int v2)]) G.1 G.2.1 d_Fi_reachStarts_1 rfl hl (by decide) rfl (fun ls hl => ?_)
  refine lv_iconst (v := 0) G.1 G.2.1 d_Fi_reachStarts_2 (by decide) ?_
  refine lv_istore (lv' := [(4, .int 0), (3, .int v2), (0, .ref (ad a0)), (1, .ref (ad a1)), (2, .int v2)]) G.1 G.2.1 d_Fi_reachStarts_3 hl (by decide) rfl (fun ls hl => ?_)
  unfold wla_Fi_reachStarts_5 at h
  obtain ⟨I_5, μ_5, hI_5, hB_5⟩ := h
  have L_5 : ∀ (n_5 : Nat) (y_h5 : Ly) (s_h5 : St) (d_h5 e_h5 : Nat) (x3h5 : Int32) (x4h5 : Int32), μ_5 y_h5 s_h5 d_h5 e_h5 x3h5 x4h5 < n_5 → I_5 y_h5 s_h5 d_h5 e_h5 x3h5 x4h5 → ∀ (H : Heap) (locs : List Loc), va_P D CL (ws g ad y_h5 s_h5) H → va_D A (ws g ad y_h5 s_h5) → va_S A s.heap H locs → ∀ ls, lv_has ls 6 [(0, .ref (ad a0)), (1, .ref (ad a1)), (3, .int x3h5), (4, .int x4h5)] → W p l e (ra_Fi_reachStarts mc ms) s m args below meth c H locs d_h5 e_h5 Q (F0 m 5 ls []) := by
    intro n_5
    induction n_5 with
    | zero => intro y_h5 s_h5 d_h5 e_h5 x3h5 x4h5 hμ; exact absurd hμ (Nat.not_lt_zero _)
    | succ n_5 ih_5 =>
      intro y_h5 s_h5 d_h5 e_h5 x3h5 x4h5 hμ_5 hJ H locs hP hD hS ls hl
      obtain ⟨K_5, hK_5, h⟩ : ∃ K : Ly → St → Nat → Nat → Int32 → Int32 → Prop, (∀ z1 z2 z3 z4 (t0 : Int32) (t1 : Int32), K z1 z2 z3 z4 t0 t1 → I_5 z1 z2 z3 z4 t0 t1 ∧ μ_5 z1 z2 z3 z4 t0 t1 < μ_5 y_h5 s_h5 d_h5 e_h5 x3h5 x4h5) ∧ wba_Fi_reachStarts_5 mc ms Post K a0 a1 y_h5 s_h5 d_h5 e_h5 x3h5 x4h5 := ⟨_, fun _ _ _ _ _ _ h => h, hB_5 y_h5 s_h5 d_h5 e_h5 x3h5 x4h5 hJ⟩
      unfold wba_Fi_reachStarts_5 at h
      obtain ⟨hd, h⟩ := h
      refine lv_iload G.1 G.2.1 d_Fi_reachStarts_5 (lv_at hl 3 rfl) ?_
      refine lv_bipush (v := 51) G.1 G.2.1 d_Fi_reachStarts_7 (by decide) ?_
      have J_77 : ∀ (y_j77 : Ly) (s_j77 : St) (d_j77 e_j77 : Nat) (H : Heap) (locs : List Loc), wja_Fi_reachStarts_77 mc ms Post a0 a1 y_j77 s_j77 d_j77 e_j77 → va_P D CL (ws g ad y_j77 s_j77) H → va_D A (ws g ad y_j77 s_j77) → va_S A s.heap H locs → ∀ ls, lv_has ls 6 [] → W p l e (ra_Fi_reachStarts mc ms) s m args below meth c H locs d_j77 e_j77 Q (F0 m 77 ls []) := by
        intro y_j77 s_j77 d_j77 e_j77 H locs h hP hD hS ls hl
        unfold wja_Fi_reachStarts_77 at h
        obtain ⟨hd, h⟩ := h
        exact hret (y_j77, s_j77, d_j77, e_j77) _ _ _ _ _ ls h hP hD hS (Nat.le_refl _) (Nat.le_refl _) hd.1 hd.2 d_Fi_reachStarts_77
      refine lv_icmp_ge (tgt := 77) G.1 G.2.1 d_Fi_reachStarts_9 (by decide) (fun c9 => ?_) (fun c9 => ?_)
      · skip
        have h := h.1 c9
        exact J_77 y_h5 s_h5 d_h5 e_h5 H locs h hP hD hS ls (lv_sub hl [] rfl)
      · skip
        have h := h.2 c9
        refine lv_iload_n G.1 G.2.1 d_Fi_reachStarts_12 rfl (lv_at hl 2 rfl) ?_
        refine lv_if_lt (tgt := 77) G.1 G.2.1 d_Fi_reachStarts_13 (by decide) (fun c13 => ?_) (fun c13 => ?_)
        · skip
          have h := h.1 c13
          exact J_77 y_h5 s_h5 d_h5 e_h5 H locs h hP hD hS ls (lv_sub hl [] rfl)
        · skip
          have h := h.2 c13
          refine lv_aload_n G.1 G.2.1 d_Fi_reachStarts_16 rfl (lv_at hl 1 rfl) ?_
          refine lv_iload_n G.1 G.2.1 d_Fi_reachStarts_17 rfl (lv_at hl 2 rfl) ?_
          refine lv_bipush (v := 13) G.1 G.2.1 d_Fi_reachStarts_18 (by decide) ?_
          refine ucVi (As := [.int x3h5, .int 13]) (rest := []) G hP hD hS (cu_Wd_of l D g ad y_h5 _ s_h5 a1 x3h5 13 H.size h_a1 h) w9_Wd_of q1532 ⟨Nat.le_of_ble_eq_true rfl, Nat.le_of_ble_eq_true rfl⟩ rfl rfl h_a1 (q := (RWd, TWd, 17)) rfl rfl hl.1 rfl (Nat.le_of_ble_eq_true rfl) rfl hd d_Fi_reachStarts_20 (fun r_1 s_2 H locs h hP hD hS => ?_)
          refine lv_iconst (v := 2) G.1 G.2.1 d_Fi_reachStarts_23 (by decide) ?_
          refine lv_icmp_eq (tgt := 77) G.1 G.2.1 d_Fi_reachStarts_24 (by decide) (fun c24 => ?_) (fun c24 => ?_)
          · skip
            have h := h.1 c24
            exact J_77 y_h5 s_2 d_h5 e_h5 H locs h hP hD hS ls (lv_sub hl [] rfl)
          · skip
            have h := h.2 c24
            refine W.eq (g2 := F0 m 27 ls []) rfl ?_
            refine lv_aload_n G.1 G.2.1 d_Fi_reachStarts_27 rfl (lv_at hl 1 rfl) ?_
            refine lv_iload_n G.1 G.2.1 d_Fi_reachStarts_28 rfl (lv_at hl 2 rfl) ?_
            refine lv_aload_n G.1 G.2.1 d_Fi_reachStarts_29 rfl (lv_at hl 0 rfl) ?_
            refine ugf (v := .ref (ad (lk a0 4))) G hP h_a0 iFi rfl 4 (by decide) rfl q736 rfl rfl d_Fi_reachStarts_30 ?_
            refine ugf (v := .int (sV s_2 (lk a0 4) 10)) G hP (lk_1_4 h_a0) iNa rfl 10 (by decide) rfl q517 rfl rfl d_Fi_reachStarts_33 ?_
            refine ucVi (As := [.int x3h5, .int (sV s_2 (lk a0 4) 10)]) (rest := []) G hP hD hS (cu_Wd_methodWith l D g ad y_h5 _ s_2 a1 x3h5 (sV s_2 (lk a0 4) 10) H.size h_a1 h) w9_Wd_methodWith q1571 ⟨Nat.le_of_ble_eq_true rfl, Nat.le_of_ble_eq_true rfl⟩ rfl rfl h_a1 (q := (RWd, TWd, 17)) rfl rfl hl.1 rfl (Nat.le_of_ble_eq_true rfl) rfl hd d_Fi_reachStarts_36 (fun r_3 s_4 H locs h hP hD hS => ?_)
            refine lv_istore (lv' := [(5, .int r_3), (0, .ref (ad a0)), (1, .ref (ad a1)), (3, .int x3h5), (4, .int x4h5)]) G.1 G.2.1 d_Fi_reachStarts_39 hl (by decide) rfl (fun ls hl => ?_)
            refine lv_iload G.1 G.2.1 d_Fi_reachStarts_41 (lv_at hl 0 rfl) ?_
            have J_53 : ∀ (y_j53 : Ly) (s_j53 : St) (d_j53 e_j53 : Nat) (x3j53 : Int32) (x4j53 : Int32) (H : Heap) (locs : List Loc), wja_Fi_reachStarts_53 mc ms Post K_5 a0 a1 y_j53 s_j53 d_j53 e_j53 x3j53 x4j53 → va_P D CL (ws g ad y_j53 s_j53) H → va_D A (ws g ad y_j53 s_j53) → va_S A s.heap H locs → ∀ ls, lv_has ls 6 [(0, .ref (ad a0)), (1, .ref (ad a1)), (3, .int x3j53), (4, .int x4j53)] → W p l e (ra_Fi_reachStarts mc ms) s m args below meth c H locs d_j53 e_j53 Q (F0 m 53 ls []) := by
              intro y_j53 s_j53 d_j53 e_j53 x3j53 x4j53 H locs h hP hD hS ls hl
              unfold wja_Fi_reachStarts_53 at h
              obtain ⟨hd, h⟩ := h
              refine lv_aload_n G.1 G.2.1 d_Fi_reachStarts_53 rfl (lv_at hl 1 rfl) ?_
              refine lv_iload_n G.1 G.2.1 d_Fi_reachStarts_54 rfl (lv_at hl 2 rfl) ?_
              refine ucVi (As := [.int x3j53]) (rest := []) G hP hD hS (cu_Wd_isFace l D g ad y_j53 _ s_j53 a1 x3j53 H.size h_a1 h) w9_Wd_isFace q1558 ⟨Nat.le_of_ble_eq_true rfl, Nat.le_of_ble_eq_true rfl⟩ rfl rfl h_a1 (q := (RWd, TWd, 17)) rfl rfl hl.1 rfl (Nat.le_of_ble_eq_true rfl) rfl hd d_Fi_reachStarts_55 (fun r_5 s_6 H locs h hP hD hS => ?_)
              have J_70 : ∀ (y_j70 : Ly) (s_j70 : St) (d_j70 e_j70 : Nat) (x4j70 : Int32) (z0j70 : Int32) (H : Heap) (locs : List Loc), wja_Fi_reachStarts_70 mc ms Post K_5 a0 a1 y_j70 s_j70 d_j70 e_j70 x4j70 z0j70 → va_P D CL (ws g ad y_j70 s_j70) H → va_D A (ws g ad y_j70 s_j70) → va_S A s.heap H locs → ∀ ls, lv_has ls 6 [(0, .ref (ad a0)), (1, .ref (ad a1)), (4, .int x4j70)] → W p l e (ra_Fi_reachStarts mc ms) s m args below meth c H locs d_j70 e_j70 Q (F0 m 70 ls [.int z0j70]) := by
                intro y_j70 s_j70 d_j70 e_j70 x4j70 z0j70 H locs h hP hD hS ls hl
                unfold wja_Fi_reachStarts_70 at h
                obtain ⟨hd, h⟩ := h
                refine lv_istore_n (lv' := [(3, .int z0j70), (0, .ref (ad a0)), (1, .ref (ad a1)), (4, .int x4j70)]) G.1 G.2.1 d_Fi_reachStarts_70 rfl hl (by decide) rfl (fun ls hl => ?_)
                refine lv_iinc (v := x4j70 + 1) (lv' := [(4, .int (x4j70 + 1)), (3, .int z0j70), (0, .ref (ad a0)), (1, .ref (ad a1))]) G.1 G.2.1 d_Fi_reachStarts_71 hl (k := 3) rfl rfl (by decide) rfl (fun ls hl => ?_)
                refine lv_goto (tgt := 5) G.1 G.2.1 d_Fi_reachStarts_74 (by decide) ?_
                have h := hK_5 y_j70 s_j70 d_j70 e_j70 z0j70 (x4j70 + 1) h
                exact ih_5 y_j70 s_j70 d_j70 e_j70 z0j70 (x4j70 + 1) (Nat.lt_of_lt_of_le h.2 (Nat.le_of_lt_succ hμ_5)) h.1 H locs hP hD hS ls (lv_sub hl [2, 3, 1, 0] rfl)
              refine lv_if_eq (tgt := 65) G.1 G.2.1 d_Fi_reachStarts_58 (by decide) (fun c58 => ?_) (fun c58 => ?_)
              · skip
                have h := h.1 c58
                refine lv_aload_n G.1 G.2.1 d_Fi_reachStarts_65 rfl (lv_at hl 1 rfl) ?_
                refine lv_iload_n G.1 G.2.1 d_Fi_reachStarts_66 rfl (lv_at hl 2 rfl) ?_
                refine ucVi (As := [.int x3j53]) (rest := []) G hP hD hS (cu_Wd_up l D g ad y_j53 _ s_6 a1 x3j53 H.size h_a1 h) w9_Wd_up q1570 ⟨Nat.le_of_ble_eq_true rfl, Nat.le_of_ble_eq_true rfl⟩ rfl rfl h_a1 (q := (RWd, TWd, 17)) rfl rfl hl.1 rfl (Nat.le_of_ble_eq_true rfl) rfl hd d_Fi_reachStarts_67 (fun r_7 s_8 H locs h hP hD hS => ?_)
                exact J_70 y_j53 s_8 d_j53 e_j53 x4j53 r_7 H locs h hP hD hS ls (lv_sub hl [0, 1, 3] rfl)
              · skip
                have h := h.2 c58
                refine lv_iconst (v := (-1)) G.1 G.2.1 d_Fi_reachStarts_61 (by decide) ?_
                refine lv_goto (tgt := 70) G.1 G.2.1 d_Fi_reachStarts_62 (by decide) ?_
                exact J_70 y_j53 s_6 d_j53 e_j53 x4j53 (-1) H locs h hP hD hS ls (lv_sub hl [0, 1, 3] rfl)
            refine lv_if_lt (tgt := 53) G.1 G.2.1 d_Fi_reachStarts_43 (by decide) (fun c43 => ?_) (fun c43 => ?_)
            · skip
              have h := h.1 c43
              exact J_53 y_h5 s_4 d_h5 e_h5 x3h5 x4h5 H locs h hP hD hS ls (lv_sub hl [1, 2, 3, 4] rfl)
            · skip
              have h := h.2 c43
              refine lv_aload_n G.1 G.2.1 d_Fi_reachStarts_46 rfl (lv_at hl 1 rfl) ?_
              refine lv_iload_n G.1 G.2.1 d_Fi_reachStarts_47 rfl (lv_at hl 3 rfl) ?_
              refine lv_iload G.1 G.2.1 d_Fi_reachStarts_48 (lv_at hl 0 rfl) ?_
              refine W.eq (g2 := F0 m 50 ls [.int r_3, .int x3h5, .ref (ad a0)]) rfl ?_
              obtain ⟨mc_14, ms_15, hr_16, h⟩ := h
              refine uaVv (As := [.int x3h5, .int r_3]) (rest := []) G hP hD hS (ca_Fi_addReached l D g ad mc_14 ms_15 y_h5 _ s_4 a0 x3h5 r_3 H.size (us H) h_a0 h) w9_Fi_addReached q2438 ⟨Nat.le_of_ble_eq_true rfl, Nat.le_of_ble_eq_true rfl⟩ rfl rfl h_a0 (q := (RFi, TFi, 10)) rfl rfl hl.1 rfl (Nat.le_of_ble_eq_true rfl) rfl hr_16 d_Fi_reachStarts_50 (fun y_11 s_10 d_12 e_13 H locs h hP hD hS => ?_)
              have hl := lv_sub (l' := [(0, .ref (ad a0)), (1, .ref (ad a1)), (3, .int x3h5), (4, .int x4h5)]) hl [1, 2, 3, 4] rfl
              obtain ⟨hd, h⟩ := h
              exact J_53 y_11 s_10 (d_h5 + d_12) (e_h5 + e_13) x3h5 x4h5 H locs h hP hD hS ls (lv_sub hl [0, 1, 2, 3] rfl)
  exact L_5 _ y σ 0 0 v2 0 (Nat.lt_succ_self _) hI_5 H locs hP hD hS ls (lv_sub hl [2, 3, 1, 0] rfl)
theorem q2433 : Cond.methodLink "ClassWorks$Finder" 223 y_Fi_findNow ∈ lw_ok := lw_okmem (List.mem_of_getElem? (i := 2433) (by decide +kernel)) rfl
theorem q2442 : Cond.methodLink "ClassWorks$Finder" 233 y_Fi_reachStarts ∈ lw_ok := lw_okmem (List.mem_of_getElem? (i := 2442) (by decide +kernel)) rfl
theorem q2445 : Cond.code y_Fi_reachStarts b_Fi_reachStarts 6 (none) ∈ lw_ok := lw_okmem (List.mem_of_getElem? (i := 2445) (by decide +kernel)) rfl
theorem q2444 : Cond.instanceMethod y_Fi_reachStarts ∈ lw_ok := lw_okmem (List.mem_of_getElem? (i := 2444) (by decide +kernel)) rfl
theorem q150 : Cond.selects y_Fi_reachStarts.cls y_Fi_reachStarts y_Fi_reachStarts ∈ lw_ok := lw_okmem (List.mem_of_getElem? (i := 150) (by decide +kernel)) rfl
theorem w9_Fi_reachStarts : CWv y_Fi_reachStarts b_Fi_reachStarts 6 (none) 2 ∧ Cond.instanceMethod y_Fi_reachStarts ∈ lw_ok ∧ Cond.selects y_Fi_reachStarts.cls y_Fi_reachStarts y_Fi_reachStarts ∈ lw_ok := ⟨⟨q2445, q342, by decide +kernel, by decide +kernel, by decide +kernel⟩, q2444, q150⟩
theorem q2434 : Cond.methodLink "ClassWorks$Finder" 226 y_Fi_reachObjects ∈ lw_ok := lw_okmem (List.mem_of_getElem? (i := 2434) (by decide +kernel)) rfl
theorem q2437 : Cond.code y_Fi_reachObjects b_Fi_reachObjects 7 (none) ∈ lw_ok := lw_okmem (List.mem_of_getElem? (i := 2437) (by decide +kernel)) rfl
theorem q2436 : Cond.instanceMethod y_Fi_reachObjects ∈ lw_ok := lw_okmem (List.mem_of_getElem? (i := 2436) (by decide +kernel)) rfl
theorem q148 : Cond.selects y_Fi_reachObjects.cls y_Fi_reachObjects y_Fi_reachObjects ∈ lw_ok := lw_okmem (List.mem_of_getElem? (i := 148) (by decide +kernel)) rfl
theorem w9_Fi_reachObjects : CWv y_Fi_reachObjects b_Fi_reachObjects 7 (none) 3 ∧ Cond.instanceMethod y_Fi_reachObjects ∈ lw_ok ∧ Cond.selects y_Fi_reachObjects.cls y_Fi_reachObjects y_Fi_reachObjects ∈ lw_ok := ⟨⟨q2437, q342, by decide +kernel, by decide +kernel, by decide +kernel⟩, q2436, q148⟩
def y_Fi_reachBy : MethodName := ⟨"ClassWorks$Finder", "reachBy", "(LClassWorks$World;III)V"⟩
abbrev b_Fi_reachBy : ByteArray := prog_3_method_24_code
theorem d_Fi_reachBy_0 : decode b_Fi_reachBy 0 = .ok (.aload_n 1, 1) := by decide +kernel
theorem d_Fi_reachBy_1 : decode b_Fi_reachBy 1 = .ok (.iload_n 2, 1) := by decide +kernel
theorem d_Fi_reachBy_2 : decode b_Fi_reachBy 2 = .ok (.iload_n 3, 1) := by decide +kernel
theorem d_Fi_reachBy_3 : decode b_Fi_reachBy 3 = .ok (.iload 4, 2) := by decide +kernel
theorem d_Fi_reachBy_5 : decode b_Fi_reachBy 5 = .ok (.invokevirtual 169, 3) := by decide +kernel
theorem d_Fi_reachBy_8 : decode b_Fi_reachBy 8 = .ok (.istore 5, 2) := by decide +kernel
theorem d_Fi_reachBy_10 : decode b_Fi_reachBy 10 = .ok (.aload_n 1, 1) := by decide +kernel
theorem d_Fi_reachBy_11 : decode b_Fi_reachBy 11 = .ok (.getfield 172, 3) := by decide +kernel
theorem d_Fi_reachBy_14 : decode b_Fi_reachBy 14 = .ok (.getfield 163, 3) := by decide +kernel
theorem d_Fi_reachBy_17 : decode b_Fi_reachBy 17 = .ok (.iload 5, 2) := by decide +kernel
theorem d_Fi_reachBy_19 : decode b_Fi_reachBy 19 = .ok (.iaload, 1) := by decide +kernel
theorem d_Fi_reachBy_20 : decode b_Fi_reachBy 20 = .ok (.istore 6, 2) := by decide +kernel
theorem d_Fi_reachBy_22 : decode b_Fi_reachBy 22 = .ok (.iload 6, 2) := by decide +kernel
theorem d_Fi_reachBy_24 : decode b_Fi_reachBy 24 = .ok (.bipush 50, 2) := by decide +kernel
theorem d_Fi_reachBy_26 : decode b_Fi_reachBy 26 = .ok (.if_icmp .lt 14, 3) := by decide +kernel
theorem d_Fi_reachBy_29 : decode b_Fi_reachBy 29 = .ok (.iload 6, 2) := by decide +kernel
theorem d_Fi_reachBy_31 : decode b_Fi_reachBy 31 = .ok (.bipush 53, 2) := by decide +kernel
theorem d_Fi_reachBy_33 : decode b_Fi_reachBy 33 = .ok (.if_icmp .gt 7, 3) := by decide +kernel
theorem d_Fi_reachBy_36 : decode b_Fi_reachBy 36 = .ok (.iconst 1, 1) := by decide +kernel
theorem d_Fi_reachBy_37 : decode b_Fi_reachBy 37 = .ok (.goto 4, 3) := by decide +kernel
theorem d_Fi_reachBy_40 : decode b_Fi_reachBy 40 = .ok (.iconst 0, 1) := by decide +kernel
theorem d_Fi_reachBy_41 : decode b_Fi_reachBy 41 = .ok (.istore 7, 2) := by decide +kernel
theorem d_Fi_reachBy_43 : decode b_Fi_reachBy 43 = .ok (.iload 6, 2) := by decide +kernel
theorem d_Fi_reachBy_45 : decode b_Fi_reachBy 45 = .ok (.bipush 41, 2) := by decide +kernel
theorem d_Fi_reachBy_47 : decode b_Fi_reachBy 47 = .ok (.if_icmp .eq 24, 3) := by decide +kernel
theorem d_Fi_reachBy_50 : decode b_Fi_reachBy 50 = .ok (.iload 6, 2) := by decide +kernel
theorem d_Fi_reachBy_52 : decode b_Fi_reachBy 52 = .ok (.bipush 52, 2) := by decide +kernel
theorem d_Fi_reachBy_54 : decode b_Fi_reachBy 54 = .ok (.if_icmp .eq 17, 3) := by decide +kernel
theorem d_Fi_reachBy_57 : decode b_Fi_reachBy 57 = .ok (.iload 6, 2) := by decide +kernel
theorem d_Fi_reachBy_59 : decode b_Fi_reachBy 59 = .ok (.bipush 48, 2) := by decide +kernel
theorem d_Fi_reachBy_61 : decode b_Fi_reachBy 61 = .ok (.if_icmp .eq 10, 3) := by decide +kernel
theorem d_Fi_reachBy_64 : decode b_Fi_reachBy 64 = .ok (.iload 6, 2) := by decide +kernel
theorem d_Fi_reachBy_66 : decode b_Fi_reachBy 66 = .ok (.bipush 49, 2) := by decide +kernel
theorem d_Fi_reachBy_68 : decode b_Fi_reachBy 68 = .ok (.if_icmp .ne 7, 3) := by decide +kernel
theorem d_Fi_reachBy_71 : decode b_Fi_reachBy 71 = .ok (.iconst 1, 1) := by decide +kernel
theorem d_Fi_reachBy_72 : decode b_Fi_reachBy 72 = .ok (.goto 4, 3) := by decide +kernel
theorem d_Fi_reachBy_75 : decode b_Fi_reachBy 75 = .ok (.iconst 0, 1) := by decide +kernel
theorem d_Fi_reachBy_76 : decode b_Fi_reachBy 76 = .ok (.istore 8, 2) := by decide +kernel
theorem d_Fi_reachBy_78 : decode b_Fi_reachBy 78 = .ok (.iload 7, 2) := by decide +kernel
theorem d_Fi_reachBy_80 : decode b_Fi_reachBy 80 = .ok (.ifCond .ne 8, 3) := by decide +kernel
theorem d_Fi_reachBy_83 : decode b_Fi_reachBy 83 = .ok (.iload 8, 2) := by decide +kernel
theorem d_Fi_reachBy_85 : decode b_Fi_reachBy 85 = .ok (.ifCond .eq 15, 3) := by decide +kernel
theorem d_Fi_reachBy_88 : decode b_Fi_reachBy 88 = .ok (.aload_n 0, 1) := by decide +kernel
theorem d_Fi_reachBy_89 : decode b_Fi_reachBy 89 = .ok (.aload_n 1, 1) := by decide +kernel
theorem d_Fi_reachBy_90 : decode b_Fi_reachBy 90 = .ok (.iload_n 2, 1) := by decide +kernel
theorem d_Fi_reachBy_91 : decode b_Fi_reachBy 91 = .ok (.iload_n 3, 1) := by decide +kernel
theorem d_Fi_reachBy_92 : decode b_Fi_reachBy 92 = .ok (.iload 4, 2) := by decide +kernel
theorem d_Fi_reachBy_94 : decode b_Fi_reachBy 94 = .ok (.invokevirtual 223, 3) := by decide +kernel
theorem d_Fi_reachBy_97 : decode b_Fi_reachBy 97 = .ok (.ifCond .eq 4, 3) := by decide +kernel
theorem d_Fi_reachBy_100 : decode b_Fi_reachBy 100 = .ok (.return_, 1) := by decide +kernel
theorem d_Fi_reachBy_101 : decode b_Fi_reachBy 101 = .ok (.aload_n 0, 1) := by decide +kernel
theorem d_Fi_reachBy_102 : decode b_Fi_reachBy 102 = .ok (.getfield 9, 3) := by decide +kernel
theorem d_Fi_reachBy_105 : decode b_Fi_reachBy 105 = .ok (.istore 9, 2) := by decide +kernel
theorem d_Fi_reachBy_107 : decode b_Fi_reachBy 107 = .ok (.iload 6, 2) := by decide +kernel
theorem d_Fi_reachBy_109 : decode b_Fi_reachBy 109 = .ok (.bipush 50, 2) := by decide +kernel
theorem d_Fi_reachBy_111 : decode b_Fi_reachBy 111 = .ok (.if_icmp .eq 10, 3) := by decide +kernel
theorem d_Fi_reachBy_114 : decode b_Fi_reachBy 114 = .ok (.iload 6, 2) := by decide +kernel
theorem d_Fi_reachBy_116 : decode b_Fi_reachBy 116 = .ok (.bipush 53, 2) := by decide +kernel
theorem d_Fi_reachBy_118 : decode b_Fi_reachBy 118 = .ok (.if_icmp .ne 36, 3) := by decide +kernel
theorem d_Fi_reachBy_121 : decode b_Fi_reachBy 121 = .ok (.aload_n 0, 1) := by decide +kernel
theorem d_Fi_reachBy_122 : decode b_Fi_reachBy 122 = .ok (.aload_n 1, 1) := by decide +kernel
theorem d_Fi_reachBy_123 : decode b_Fi_reachBy 123 = .ok (.iconst 4, 1) := by decide +kernel
theorem d_Fi_reachBy_124 : decode b_Fi_reachBy 124 = .ok (.invokevirtual 213, 3) := by decide +kernel
theorem d_Fi_reachBy_127 : decode b_Fi_reachBy 127 = .ok (.ifCond .ne 27, 3) := by decide +kernel
theorem d_Fi_reachBy_130 : decode b_Fi_reachBy 130 = .ok (.aload_n 0, 1) := by decide +kernel
theorem d_Fi_reachBy_131 : decode b_Fi_reachBy 131 = .ok (.aload_n 1, 1) := by decide +kernel
theorem d_Fi_reachBy_132 : decode b_Fi_reachBy 132 = .ok (.aload_n 0, 1) := by decide +kernel
theorem d_Fi_reachBy_133 : decode b_Fi_reachBy 133 = .ok (.getfield 18, 3) := by decide +kernel
theorem d_Fi_reachBy_136 : decode b_Fi_reachBy 136 = .ok (.aload_n 1, 1) := by decide +kernel
theorem d_Fi_reachBy_137 : decode b_Fi_reachBy 137 = .ok (.getfield 172, 3) := by decide +kernel
theorem d_Fi_reachBy_140 : decode b_Fi_reachBy 140 = .ok (.getfield 163, 3) := by decide +kernel
theorem d_Fi_reachBy_143 : decode b_Fi_reachBy 143 = .ok (.iload 5, 2) := by decide +kernel
theorem d_Fi_reachBy_145 : decode b_Fi_reachBy 145 = .ok (.iconst 2, 1) := by decide +kernel
theorem d_Fi_reachBy_146 : decode b_Fi_reachBy 146 = .ok (.iadd, 1) := by decide +kernel
theorem d_Fi_reachBy_147 : decode b_Fi_reachBy 147 = .ok (.iaload, 1) := by decide +kernel
theorem d_Fi_reachBy_148 : decode b_Fi_reachBy 148 = .ok (.invokevirtual 226, 3) := by decide +kernel
theorem d_Fi_reachBy_151 : decode b_Fi_reachBy 151 = .ok (.goto 20, 3) := by decide +kernel
theorem d_Fi_reachBy_154 : decode b_Fi_reachBy 154 = .ok (.iload 7, 2) := by decide +kernel
theorem d_Fi_reachBy_156 : decode b_Fi_reachBy 156 = .ok (.ifCond .eq 15, 3) := by decide +kernel
theorem d_Fi_reachBy_159 : decode b_Fi_reachBy 159 = .ok (.aload_n 0, 1) := by decide +kernel
theorem d_Fi_reachBy_160 : decode b_Fi_reachBy 160 = .ok (.aload_n 0, 1) := by decide +kernel
theorem d_Fi_reachBy_161 : decode b_Fi_reachBy 161 = .ok (.getfield 9, 3) := by decide +kernel
theorem d_Fi_reachBy_164 : decode b_Fi_reachBy 164 = .ok (.aload_n 0, 1) := by decide +kernel
theorem d_Fi_reachBy_165 : decode b_Fi_reachBy 165 = .ok (.getfield 15, 3) := by decide +kernel
theorem d_Fi_reachBy_168 : decode b_Fi_reachBy 168 = .ok (.invokevirtual 230, 3) := by decide +kernel
theorem d_Fi_reachBy_171 : decode b_Fi_reachBy 171 = .ok (.iload 8, 2) := by decide +kernel
theorem d_Fi_reachBy_173 : decode b_Fi_reachBy 173 = .ok (.ifCond .eq 10, 3) := by decide +kernel
theorem d_Fi_reachBy_176 : decode b_Fi_reachBy 176 = .ok (.aload_n 0, 1) := by decide +kernel
theorem d_Fi_reachBy_177 : decode b_Fi_reachBy 177 = .ok (.aload_n 1, 1) := by decide +kernel
theorem d_Fi_reachBy_178 : decode b_Fi_reachBy 178 = .ok (.iload 9, 2) := by decide +kernel
theorem d_Fi_reachBy_180 : decode b_Fi_reachBy 180 = .ok (.invokevirtual 233, 3) := by decide +kernel
theorem d_Fi_reachBy_183 : decode b_Fi_reachBy 183 = .ok (.return_, 1) := by decide +kernel
abbrev ra_Fi_reachBy (mc ms : Nat) : Room := { frames := 9, cells := mc, slots := ms, locals := 526 }
def wja_Fi_reachBy_100 (mc ms : Nat) (Post : Ly → St → Nat → Nat → Prop) (a0 : Nat) (a1 : Nat) (y_j100 : Ly) (s_j100 : St) (d_j100 e_j100 : Nat) : Prop := (d_j100 ≤ mc ∧ e_j100 ≤ ms) ∧ Post y_j100 s_j100 d_j100 e_j100
def wja_Fi_reachBy_183 (mc ms : Nat) (Post : Ly → St → Nat → Nat → Prop) (a0 : Nat) (a1 : Nat) (y_j183 : Ly) (s_j183 : St) (d_j183 e_j183 : Nat) : Prop := (d_j183 ≤ mc ∧ e_j183 ≤ ms) ∧ Post y_j183 s_j183 d_j183 e_j183
def wja_Fi_reachBy_171 (mc ms : Nat) (Post : Ly → St → Nat → Nat → Prop) (a0 : Nat) (a1 : Nat) (y_j171 : Ly) (s_j171 : St) (d_j171 e_j171 : Nat) (x8j171 : Int32) (x9j171 : Int32) : Prop := (d_j171 ≤ mc ∧ e_j171 ≤ ms) ∧ ((x8j171 = 0 → wja_Fi_reachBy_183 mc ms Post a0 a1 y_j171 s_j171 d_j171 e_j171) ∧ (¬ (x8j171 = 0) → ∃ mc_17 ms_18 : Nat, (d_j171 + mc_17 ≤ mc ∧ e_j171 + ms_18 ≤ ms) ∧ wa_Fi_reachStarts mc_17 ms_18 y_j171 (fun (y_14 : Ly) (s_13 : St) (d_15 e_16 : Nat) => (d_j171 + d_15 ≤ mc ∧ e_j171 + e_16 ≤ ms) ∧ wja_Fi_reachBy_183 mc ms Post a0 a1 y_14 s_13 (d_j171 + d_15) (e_j171 + e_16)) s_j171 a0 a1 x9j171))
def wja_Fi_reachBy_154 (mc ms : Nat) (Post : Ly → St → Nat → Nat → Prop) (a0 : Nat) (a1 : Nat) (y_j154 : Ly) (s_j154 : St) (d_j154 e_j154 : Nat) (x7j154 : Int32) (x8j154 : Int32) (x9j154 : Int32) : Prop := (d_j154 ≤ mc ∧ e_j154 ≤ ms) ∧ ((x7j154 = 0 → wja_Fi_reachBy_171 mc ms Post a0 a1 y_j154 s_j154 d_j154 e_j154 x8j154 x9j154) ∧ (¬ (x7j154 = 0) → ∃ mc_25 ms_26 : Nat, (d_j154 + mc_25 ≤ mc ∧ e_j154 + ms_26 ≤ ms) ∧ wa_Fi_addReached mc_25 ms_26 y_j154 (fun (y_22 : Ly) (s_21 : St) (d_23 e_24 : Nat) => (d_j154 + d_23 ≤ mc ∧ e_j154 + e_24 ≤ ms) ∧ wja_Fi_reachBy_171 mc ms Post a0 a1 y_22 s_21 (d_j154 + d_23) (e_j154 + e_24) x8j154 x9j154) s_j154 a0 (sV s_j154 a0 0) (sV s_j154 a0 1)))
def wja_Fi_reachBy_121 (mc ms : Nat) (Post : Ly → St → Nat → Nat → Prop) (a0 : Nat) (a1 : Nat) (y_j121 : Ly) (s_j121 : St) (d_j121 e_j121 : Nat) (x5j121 : Int32) (x7j121 : Int32) (x8j121 : Int32) (x9j121 : Int32) : Prop := (d_j121 ≤ mc ∧ e_j121 ≤ ms) ∧ wu_Fi_isFound y_j121 (fun (s_29 : St) (r_28 : Int32) => ((¬ r_28 = 0 → wja_Fi_reachBy_154 mc ms Post a0 a1 y_j121 s_29 d_j121 e_j121 x7j121 x8j121 x9j121) ∧ (r_28 = 0 → xA y_j121 s_29 (lk a1 10) 0 (x5j121 + 2) (fun x_30 : Int32 => ∃ mc_36 ms_37 : Nat, (d_j121 + mc_36 ≤ mc ∧ e_j121 + ms_37 ≤ ms) ∧ wa_Fi_reachObjects mc_36 ms_37 y_j121 (fun (y_33 : Ly) (s_32 : St) (d_34 e_35 : Nat) => (d_j121 + d_34 ≤ mc ∧ e_j121 + e_35 ≤ ms) ∧ wja_Fi_reachBy_171 mc ms Post a0 a1 y_33 s_32 (d_j121 + d_34) (e_j121 + e_35) x8j121 x9j121) s_29 a0 a1 (sV s_29 a0 2) x_30)))) s_j121 a0 a1 4
def wja_Fi_reachBy_88 (mc ms : Nat) (Post : Ly → St → Nat → Nat → Prop) (a0 : Nat) (a1 : Nat) (y_j88 : Ly) (s_j88 : St) (d_j88 e_j88 : Nat) (x2j88 : Int32) (x3j88 : Int32) (x4j88 : Int32) (x5j88 : Int32) (x6j88 : Int32) (x7j88 : Int32) (x8j88 : Int32) : Prop := (d_j88 ≤ mc ∧ e_j88 ≤ ms) ∧ ∃ mc_9 ms_10 : Nat, (d_j88 + mc_9 ≤ mc ∧ e_j88 + ms_10 ≤ ms) ∧ wa_Fi_findNow mc_9 ms_10 y_j88 (fun (y_6 : Ly) (s_5 : St) (r_4 : Int32) (d_7 e_8 : Nat) => (d_j88 + d_7 ≤ mc ∧ e_j88 + e_8 ≤ ms) ∧ ((r_4 = 0 → ((x6j88 = 50 → wja_Fi_reachBy_121 mc ms Post a0 a1 y_6 s_5 (d_j88 + d_7) (e_j88 + e_8) x5j88 x7j88 x8j88 (sV s_5 a0 0)) ∧ (¬ (x6j88 = 50) → ((¬ x6j88 = 53 → wja_Fi_reachBy_154 mc ms Post a0 a1 y_6 s_5 (d_j88 + d_7) (e_j88 + e_8) x7j88 x8j88 (sV s_5 a0 0)) ∧ (x6j88 = 53 → wja_Fi_reachBy_121 mc ms Post a0 a1 y_6 s_5 (d_j88 + d_7) (e_j88 + e_8) x5j88 x7j88 x8j88 (sV s_5 a0 0)))))) ∧ (¬ (r_4 = 0) → wja_Fi_reachBy_100 mc ms Post a0 a1 y_6 s_5 (d_j88 + d_7) (e_j88 + e_8)))) s_j88 a0 a1 x2j88 x3j88 x4j88
def wja_Fi_reachBy_76 (mc ms : Nat) (Post : Ly → St → Nat → Nat → Prop) (a0 : Nat) (a1 : Nat) (y_j76 : Ly) (s_j76 : St) (d_j76 e_j76 : Nat) (x2j76 : Int32) (x3j76 : Int32) (x4j76 : Int32) (x5j76 : Int32) (x6j76 : Int32) (x7j76 : Int32) (z0j76 : Int32) : Prop := (d_j76 ≤ mc ∧ e_j76 ≤ ms) ∧ ((¬ x7j76 = 0 → wja_Fi_reachBy_88 mc ms Post a0 a1 y_j76 s_j76 d_j76 e_j76 x2j76 x3j76 x4j76 x5j76 x6j76 x7j76 z0j76) ∧ (x7j76 = 0 → ((z0j76 = 0 → wja_Fi_reachBy_100 mc ms Post a0 a1 y_j76 s_j76 d_j76 e_j76) ∧ (¬ (z0j76 = 0) → wja_Fi_reachBy_88 mc ms Post a0 a1 y_j76 s_j76 d_j76 e_j76 x2j76 x3j76 x4j76 x5j76 x6j76 x7j76 z0j76))))
def wja_Fi_reachBy_71 (mc ms : Nat) (Post : Ly → St → Nat → Nat → Prop) (a0 : Nat) (a1 : Nat) (y_j71 : Ly) (s_j71 : St) (d_j71 e_j71 : Nat) (x2j71 : Int32) (x3j71 : Int32) (x4j71 : Int32) (x5j71 : Int32) (x6j71 : Int32) (x7j71 : Int32) : Prop := (d_j71 ≤ mc ∧ e_j71 ≤ ms) ∧ wja_Fi_reachBy_76 mc ms Post a0 a1 y_j71 s_j71 d_j71 e_j71 x2j71 x3j71 x4j71 x5j71 x6j71 x7j71 1
def wja_Fi_reachBy_41 (mc ms : Nat) (Post : Ly → St → Nat → Nat → Prop) (a0 : Nat) (a1 : Nat) (y_j41 : Ly) (s_j41 : St) (d_j41 e_j41 : Nat) (x2j41 : Int32) (x3j41 : Int32) (x4j41 : Int32) (x5j41 : Int32) (x6j41 : Int32) (z0j41 : Int32) : Prop := (d_j41 ≤ mc ∧ e_j41 ≤ ms) ∧ ((x6j41 = 41 → wja_Fi_reachBy_71 mc ms Post a0 a1 y_j41 s_j41 d_j41 e_j41 x2j41 x3j41 x4j41 x5j41 x6j41 z0j41) ∧ (¬ (x6j41 = 41) → ((x6j41 = 52 → wja_Fi_reachBy_71 mc ms Post a0 a1 y_j41 s_j41 d_j41 e_j41 x2j41 x3j41 x4j41 x5j41 x6j41 z0j41) ∧ (¬ (x6j41 = 52) → ((x6j41 = 48 → wja_Fi_reachBy_71 mc ms Post a0 a1 y_j41 s_j41 d_j41 e_j41 x2j41 x3j41 x4j41 x5j41 x6j41 z0j41) ∧ (¬ (x6j41 = 48) → ((¬ x6j41 = 49 → wja_Fi_reachBy_76 mc ms Post a0 a1 y_j41 s_j41 d_j41 e_j41 x2j41 x3j41 x4j41 x5j41 x6j41 z0j41 0) ∧ (x6j41 = 49 → wja_Fi_reachBy_71 mc ms Post a0 a1 y_j41 s_j41 d_j41 e_j41 x2j41 x3j41 x4j41 x5j41 x6j41 z0j41))))))))
def wja_Fi_reachBy_40 (mc ms : Nat) (Post : Ly → St → Nat → Nat → Prop) (a0 : Nat) (a1 : Nat) (y_j40 : Ly) (s_j40 : St) (d_j40 e_j40 : Nat) (x2j40 : Int32) (x3j40 : Int32) (x4j40 : Int32) (x5j40 : Int32) (x6j40 : Int32) : Prop := (d_j40 ≤ mc ∧ e_j40 ≤ ms) ∧ wja_Fi_reachBy_41 mc ms Post a0 a1 y_j40 s_j40 d_j40 e_j40 x2j40 x3j40 x4j40 x5j40 x6j40 0
def wa_Fi_reachBy (mc ms : Nat) (y : Ly) (Post : Ly → St → Nat → Nat → Prop) (σ : St) (a0 : Nat) (a1 : Nat) (v2 : Int32) (v3 : Int32) (v4 : Int32) : Prop := wu_Wd_code y (fun (s_2 : St) (r_1 : Int32) => xA y s_2 (lk a1 10) 0 r_1 (fun x_3 : Int32 => ((x_3 < 50 → wja_Fi_reachBy_40 mc ms Post a0 a1 y s_2 0 0 v2 v3 v4 r_1 x_3) ∧ (¬ (x_3 < 50) → ((53 < x_3 → wja_Fi_reachBy_40 mc ms Post a0 a1 y s_2 0 0 v2 v3 v4 r_1 x_3) ∧ (¬ (53 < x_3) → wja_Fi_reachBy_41 mc ms Post a0 a1 y s_2 0 0 v2 v3 v4 r_1 x_3 1)))))) σ a1 v2 v3 v4
set_option maxHeartbeats 4000000 in
set_option maxRecDepth 100000 in
theorem ca_Fi_reachBy (l : Launch) (D : va_G) (g : Nat → ClassId) (F : Nat → SL) (sl : List SL) (hF : SOK F sl) (ad : Nat → Nat) (mc ms : Nat) (y : Ly) (Post : Ly → St → Nat → Nat → Prop) (σ : St) (a0 : Nat) (a1 : Nat) (v2 : Int32) (v3 : Int32) (v4 : Int32) (sz uz : Nat) (h_a0 : cl a0 = 1) (h_a1 : cl a1 = 9) (h : wa_Fi_reachBy mc ms y Post σ a0 a1 v2 v3 v4) : Met l y_Fi_reachBy (mw y_Fi_reachBy b_Fi_reachBy 10 (none)) (ra_Fi_reachBy mc ms) (PCu g D sl [.ref (ad a0), .ref (ad a1), .int v2, .int v3, .int v4] sz uz (ws g ad y σ)) (va_Qv (fun (u : Ly × St × Nat × Nat) => Post u.1 u.2.1 u.2.2.1 u.2.2.2) (QU D (va_A (ws g ad y σ) sz) (fun u => ws g ad u.1 u.2.1) sz uz (fun u => u.2.2.1) (fun u => u.2.2.2)) (va_A (ws g ad y σ) sz)) mc ms (va_A (ws g ad y σ) sz) := by
  refine ofVu (by decide +kernel) (Nat.le_of_ble_eq_true rfl) ?_
  intro p e s m args below meth c A Q ls H locs G hsz hP hD hS hl hret
  subst hsz
  have hl : lv_has ls 10 [(0, .ref (ad a0)), (1, .ref (ad a1)), (2, .int v2), (3, .int v3), (4, .int v4)] := hl
  have hd : 0 ≤ mc ∧ 0 ≤ ms := ⟨Nat.zero_le _, Nat.zero_le _⟩
  unfold wa_Fi_reachBy at h
  refine lv_aload_n G.1 G.2.1 d_Fi_reachBy_0 rfl (lv_at hl 1 rfl) ?_
  refine lv_iload_n G.1 G.2.1 d_Fi_reachBy_1 rfl (lv_at hl 2 rfl) ?_
  refine lv_iload_n G.1 G.2.1 d_Fi_reachBy_2 rfl (lv_at hl 3 rfl) ?_
  refine lv_iload G.1 G.2.1 d_Fi_reachBy_3 (lv_at hl 4 rfl) ?_
  refine ucVi (As := [.int v2, .int v3, .int v4]) (rest := []) G hP hD hS (cu_Wd_code l D g ad y _ σ a1 v2 v3 v4 H.size h_a1 h) w9_Wd_code q2322 ⟨Nat.le_of_ble_eq_true rfl, Nat.le_of_ble_eq_true rfl⟩ rfl rfl h_a1 (q := (RWd, TWd, 17)) rfl rfl hl.1 rfl (Nat.le_of_ble_eq_true rfl) rfl hd d_Fi_reachBy_5 (fun r_1 s_2 H locs h hP hD hS => ?_)
  refine lv_istore (lv' := [(5, .int r_1), (0, .ref (ad a0)), (1, .ref (ad a1)), (2, .int v2), (3, .int v3), (4, .int v4)]) G.1 G.2.1 d_Fi_reachBy_8 hl (by decide) rfl (fun ls hl => ?_)
  refine lv_aload_n G.1 G.2.1 d_Fi_reachBy_10 rfl (lv_at hl 2 rfl) ?_
  refine ugf (v := .ref (ad (lk a1 10))) G hP h_a1 iWd rfl 10 (by decide) rfl q844 rfl rfl d_Fi_reachBy_11 ?_
  refine ugf (v := .ref (yP y (lk a1 10) 0)) G hP (lk_9_10 h_a1) iIn rfl 0 (by decide) rfl q383 rfl rfl d_Fi_reachBy_14 ?_
  refine lv_iload G.1 G.2.1 d_Fi_reachBy_17 (lv_at hl 0 rfl) ?_
  refine uiald G hP (kdp (lk_9_10 h_a1) rfl) (typ (lk_9_10 h_a1) rfl) h d_Fi_reachBy_19 (fun x_3 h => ?_)
  refine W.eq (g2 := F0 m 20 ls [.int x_3]) rfl ?_
  refine lv_istore (lv' := [(6, .int x_3), (5, .int r_1), (0, .ref (ad a0)), (1, .ref (ad a1)), (2, .int v2), (3, .int v3), (4, .int v4)]) G.1 G.2.1 d_Fi_reachBy_20 hl (by decide) rfl (fun ls hl => ?_)
  refine lv_iload G.1 G.2.1 d_Fi_reachBy_22 (lv_at hl 0 rfl) ?_
  refine lv_bipush (v := 50) G.1 G.2.1 d_Fi_reachBy_24 (by decide) ?_
  have J_41 : ∀ (y_j41 : Ly) (s_j41 : St) (d_j41 e_j41 : Nat) (x2j41 : Int32) (x3j41 : Int32) (x4j41 : Int32) (x5j41 : Int32) (x6j41 : Int32) (z0j41 : Int32) (H : Heap) (locs : List Loc), wja_Fi_reachBy_41 mc ms Post a0 a1 y_j41 s_j41 d_j41 e_j41 x2j41 x3j41 x4j41 x5j41 x6j41 z0j41 → va_P D CL (ws g ad y_j41 s_j41) H → va_D A (ws g ad y_j41 s_j41) → va_S A s.heap H locs → ∀ ls, lv_has ls 10 [(0, .ref (ad a0)), (1, .ref (ad a1)), (2, .int x2j41), (3, .int x3j41), (4, .int x4j41), (5, .int x5j41), (6, .int x6j41)] → W p l e (ra_Fi_reachBy mc ms) s m args below meth c H locs d_j41 e_j41 Q (F0 m 41 ls [.int z0j41]) := by
    intro y_j41 s_j41 d_j41 e_j41 x2j41 x3j41 x4j41 x5j41 x6j41 z0j41 H locs h hP hD hS ls hl
    unfold wja_Fi_reachBy_41 at h
    obtain ⟨hd, h⟩ := h
    refine lv_istore (lv' := [(7, .int z0j41), (0, .ref (ad a0)), (1, .ref (ad a1)), (2, .int x2j41), (3, .int x3j41), (4, .int x4j41), (5, .int x5j41), (6, .int x6j41)]) G.1 G.2.1 d_Fi_reachBy_41 hl (by decide) rfl (fun ls hl => ?_)
    refine lv_iload G.1 G.2.1 d_Fi_reachBy_43 (lv_at hl 7 rfl) ?_
    refine lv_bipush (v := 41) G.1 G.2.1 d_Fi_reachBy_45 (by decide) ?_
    have J_76 : ∀ (y_j76 : Ly) (s_j76 : St) (d_j76 e_j76 : Nat) (x2j76 : Int32) (x3j76 : Int32) (x4j76 : Int32) (x5j76 : Int32) (x6j76 : Int32) (x7j76 : Int32) (z0j76 : Int32) (H : Heap) (locs : List Loc), wja_Fi_reachBy_76 mc ms Post a0 a1 y_j76 s_j76 d_j76 e_j76 x2j76 x3j76 x4j76 x5j76 x6j76 x7j76 z0j76 → va_P D CL (ws g ad y_j76 s_j76) H → va_D A (ws g ad y_j76 s_j76) → va_S A s.heap H locs → ∀ ls, lv_has ls 10 [(0, .ref (ad a0)), (1, .ref (ad a1)), (2, .int x2j76), (3, .int x3j76), (4, .int x4j76), (5, .int x5j76), (6, .int x6j76), (7, .int x7j76)] → W p l e (ra_Fi_reachBy mc ms) s m args below meth c H locs d_j76 e_j76 Q (F0 m 76 ls [.int z0j76]) := by
      intro y_j76 s_j76 d_j76 e_j76 x2j76 x3j76 x4j76 x5j76 x6j76 x7j76 z0j76 H locs h hP hD hS ls hl
      unfold wja_Fi_reachBy_76 at h
      obtain ⟨hd, h⟩ := h
      refine lv_istore (lv' := [(8, .int z0j76), (0, .ref (ad a0)), (1, .ref (ad a1)), (2, .int x2j76), (3, .int x3j76), (4, .int x4j76), (5, .int x5j76), (6, .int x6j76), (7, .int x7j76)]) G.1 G.2.1 d_Fi_reachBy_76 hl (by decide) rfl (fun ls hl => ?_)
      refine lv_iload G.1 G.2.1 d_Fi_reachBy_78 (lv_at hl 8 rfl) ?_
      have J_100 : ∀ (y_j100 : Ly) (s_j100 : St) (d_j100 e_j100 : Nat) (H : Heap) (locs : List Loc), wja_Fi_reachBy_100 mc ms Post a0 a1 y_j100 s_j100 d_j100 e_j100 → va_P D CL (ws g ad y_j100 s_j100) H → va_D A (ws g ad y_j100 s_j100) → va_S A s.heap H locs → ∀ ls, lv_has ls 10 [] → W p l e (ra_Fi_reachBy mc ms) s m args below meth c H locs d_j100 e_j100 Q (F0 m 100 ls []) := by
        intro y_j100 s_j100 d_j100 e_j100 H locs h hP hD hS ls hl
        unfold wja_Fi_reachBy_100 at h
        obtain ⟨hd, h⟩ := h
        exact hret (y_j100, s_j100, d_j100, e_j100) _ _ _ _ _ ls h hP hD hS (Nat.le_refl _) (Nat.le_refl _) hd.1 hd.2 d_Fi_reachBy_100
      have J_88 : ∀ (y_j88 : Ly) (s_j88 : St) (d_j88 e_j88 : Nat) (x2j88 : Int32) (x3j88 : Int32) (x4j88 : Int32) (x5j88 : Int32) (x6j88 : Int32) (x7j88 : Int32) (x8j88 : Int32) (H : Heap) (locs : List Loc), wja_Fi_reachBy_88 mc ms Post a0 a1 y_j88 s_j88 d_j88 e_j88 x2j88 x3j88 x4j88 x5j88 x6j88 x7j88 x8j88 → va_P D CL (ws g ad y_j88 s_j88) H → va_D A (ws g ad y_j88 s_j88) → va_S A s.heap H locs → ∀ ls, lv_has ls 10 [(0, .ref (ad a0)), (1, .ref (ad a1)), (2, .int x2j88), (3, .int x3j88), (4, .int x4j88), (5, .int x5j88), (6, .int x6j88), (7, .int x7j88), (8, .int x8j88)] → W p l e (ra_Fi_reachBy mc ms) s m args below meth c H locs d_j88 e_j88 Q (F0 m 88 ls []) := by
        intro y_j88 s_j88 d_j88 e_j88 x2j88 x3j88 x4j88 x5j88 x6j88 x7j88 x8j88 H locs h hP hD hS ls hl
        unfold wja_Fi_reachBy_88 at h
        obtain ⟨hd, h⟩ := h
        refine lv_aload_n G.1 G.2.1 d_Fi_reachBy_88 rfl (lv_at hl 0 rfl) ?_
        refine lv_aload_n G.1 G.2.1 d_Fi_reachBy_89 rfl (lv_at hl 1 rfl) ?_
        refine lv_iload_n G.1 G.2.1 d_Fi_reachBy_90 rfl (lv_at hl 2 rfl) ?_
        refine lv_iload_n G.1 G.2.1 d_Fi_reachBy_91 rfl (lv_at hl 3 rfl) ?_
        refine lv_iload G.1 G.2.1 d_Fi_reachBy_92 (lv_at hl 4 rfl) ?_
        obtain ⟨mc_9, ms_10, hr_11, h⟩ := h
        refine utVi (As := [.ref (ad a1), .int x2j88, .int x3j88, .int x4j88]) (rest := []) G hP hD hS (ca_Fi_findNow l D g F sl hF ad mc_9 ms_10 y_j88 _ s_j88 a0 a1 x2j88 x3j88 x4j88 H.size (us H) h_a0 h_a1 h) w9_Fi_findNow q2433 ⟨Nat.le_of_ble_eq_true rfl, Nat.le_of_ble_eq_true rfl⟩ rfl rfl h_a0 (q := (RFi, TFi, 10)) rfl rfl hl.1 rfl (Nat.le_of_ble_eq_true rfl) rfl hr_11 d_Fi_reachBy_94 (fun r_4 y_6 s_5 d_7 e_8 H locs h hP hD hS => ?_)
        have hl := lv_sub (l' := [(0, .ref (ad a0)), (1, .ref (ad a1)), (5, .int x5j88), (6, .int x6j88), (7, .int x7j88), (8, .int x8j88)]) hl [0, 1, 5, 6, 7, 8] rfl
        obtain ⟨hd, h⟩ := h
        refine lv_if_eq (tgt := 101) G.1 G.2.1 d_Fi_reachBy_97 (by decide) (fun c97 => ?_) (fun c97 => ?_)
        · skip
          have h := h.1 c97
          refine lv_aload_n G.1 G.2.1 d_Fi_reachBy_101 rfl (lv_at hl 0 rfl) ?_
          refine ugf (v := .int (sV s_5 a0 0)) G hP h_a0 iFi rfl 0 (by decide) rfl q726 rfl rfl d_Fi_reachBy_102 ?_
          refine lv_istore (lv' := [(9, .int (sV s_5 a0 0)), (0, .ref (ad a0)), (1, .ref (ad a1)), (5, .int x5j88), (6, .int x6j88), (7, .int x7j88), (8, .int x8j88)]) G.1 G.2.1 d_Fi_reachBy_105 hl (by decide) rfl (fun ls hl => ?_)
          refine lv_iload G.1 G.2.1 d_Fi_reachBy_107 (lv_at hl 4 rfl) ?_
          refine W.eq (g2 := F0 m 109 ls [.int x6j88]) rfl ?_
          refine lv_bipush (v := 50) G.1 G.2.1 d_Fi_reachBy_109 (by decide) ?_
          have J_171 : ∀ (y_j171 : Ly) (s_j171 : St) (d_j171 e_j171 : Nat) (x8j171 : Int32) (x9j171 : Int32) (H : Heap) (locs : List Loc), wja_Fi_reachBy_171 mc ms Post a0 a1 y_j171 s_j171 d_j171 e_j171 x8j171 x9j171 → va_P D CL (ws g ad y_j171 s_j171) H → va_D A (ws g ad y_j171 s_j171) → va_S A s.heap H locs → ∀ ls, lv_has ls 10 [(0, .ref (ad a0)), (1, .ref (ad a1)), (8, .int x8j171), (9, .int x9j171)] → W p l e (ra_Fi_reachBy mc ms) s m args below meth c H locs d_j171 e_j171 Q (F0 m 171 ls []) := by
            intro y_j171 s_j171 d_j171 e_j171 x8j171 x9j171 H locs h hP hD hS ls hl
            unfold wja_Fi_reachBy_171 at h
            obtain ⟨hd, h⟩ := h
            refine lv_iload G.1 G.2.1 d_Fi_reachBy_171 (lv_at hl 2 rfl) ?_
            have J_183 : ∀ (y_j183 : Ly) (s_j183 : St) (d_j183 e_j183 : Nat) (H : Heap) (locs : List Loc), wja_Fi_reachBy_183 mc ms Post a0 a1 y_j183 s_j183 d_j183 e_j183 → va_P D CL (ws g ad y_j183 s_j183) H → va_D A (ws g ad y_j183 s_j183) → va_S A s.heap H locs → ∀ ls, lv_has ls 10 [] → W p l e (ra_Fi_reachBy mc ms) s m args below meth c H locs d_j183 e_j183 Q (F0 m 183 ls []) := by
              intro y_j183 s_j183 d_j183 e_j183 H locs h hP hD hS ls hl
              unfold wja_Fi_reachBy_183 at h
              obtain ⟨hd, h⟩ := h
              exact hret (y_j183, s_j183, d_j183, e_j183) _ _ _ _ _ ls h hP hD hS (Nat.le_refl _) (Nat.le_refl _) hd.1 hd.2 d_Fi_reachBy_183
            refine lv_if_eq (tgt := 183) G.1 G.2.1 d_Fi_reachBy_173 (by decide) (fun c173 => ?_) (fun c173 => ?_)
            · skip
              have h := h.1 c173
              exact J_183 y_j171 s_j171 d_j171 e_j171 H locs h hP hD hS ls (lv_sub hl [] rfl)
            · skip
              have h := h.2 c173
              refine lv_aload_n G.1 G.2.1 d_Fi_reachBy_176 rfl (lv_at hl 0 rfl) ?_
              refine lv_aload_n G.1 G.2.1 d_Fi_reachBy_177 rfl (lv_at hl 1 rfl) ?_
              refine lv_iload G.1 G.2.1 d_Fi_reachBy_178 (lv_at hl 3 rfl) ?_
              obtain ⟨mc_17, ms_18, hr_19, h⟩ := h
              refine uaVv (As := [.ref (ad a1), .int x9j171]) (rest := []) G hP hD hS (ca_Fi_reachStarts l D g ad mc_17 ms_18 y_j171 _ s_j171 a0 a1 x9j171 H.size (us H) h_a0 h_a1 h) w9_Fi_reachStarts q2442 ⟨Nat.le_of_ble_eq_true rfl, Nat.le_of_ble_eq_true rfl⟩ rfl rfl h_a0 (q := (RFi, TFi, 10)) rfl rfl hl.1 rfl (Nat.le_of_ble_eq_true rfl) rfl hr_19 d_Fi_reachBy_180 (fun y_14 s_13 d_15 e_16 H locs h hP hD hS => ?_)
              have hl := lv_sub (l' := []) hl [] rfl
              obtain ⟨hd, h⟩ := h
              exact J_183 y_14 s_13 (d_j171 + d_15) (e_j171 + e_16) H locs h hP hD hS ls (lv_sub hl [] rfl)
          have J_154 : ∀ (y_j154 : Ly) (s_j154 : St) (d_j154 e_j154 : Nat) (x7j154 : Int32) (x8j154 : Int32) (x9j154 : Int32) (H : Heap) (locs : List Loc), wja_Fi_reachBy_154 mc ms Post a0 a1 y_j154 s_j154 d_j154 e_j154 x7j154 x8j154 x9j154 → va_P D CL (ws g ad y_j154 s_j154) H → va_D A (ws g ad y_j154 s_j154) → va_S A s.heap H locs → ∀ ls, lv_has ls 10 [(0, .ref (ad a0)), (1, .ref (ad a1)), (7, .int x7j154), (8, .int x8j154), (9, .int x9j154)] → W p l e (ra_Fi_reachBy mc ms) s m args below meth c H locs d_j154 e_j154 Q (F0 m 154 ls []) := by
            intro y_j154 s_j154 d_j154 e_j154 x7j154 x8j154 x9j154 H locs h hP hD hS ls hl
            unfold wja_Fi_reachBy_154 at h
            obtain ⟨hd, h⟩ := h
            refine lv_iload G.1 G.2.1 d_Fi_reachBy_154 (lv_at hl 2 rfl) ?_
            refine lv_if_eq (tgt := 171) G.1 G.2.1 d_Fi_reachBy_156 (by decide) (fun c156 => ?_) (fun c156 => ?_)
            · skip
              have h := h.1 c156
              exact J_171 y_j154 s_j154 d_j154 e_j154 x8j154 x9j154 H locs h hP hD hS ls (lv_sub hl [0, 1, 3, 4] rfl)
            · skip
              have h := h.2 c156
              refine lv_aload_n G.1 G.2.1 d_Fi_reachBy_159 rfl (lv_at hl 0 rfl) ?_
              refine lv_aload_n G.1 G.2.1 d_Fi_reachBy_160 rfl (lv_at hl 0 rfl) ?_
              refine ugf (v := .int (sV s_j154 a0 0)) G hP h_a0 iFi rfl 0 (by decide) rfl q726 rfl rfl d_Fi_reachBy_161 ?_
              refine lv_aload_n G.1 G.2.1 d_Fi_reachBy_164 rfl (lv_at hl 0 rfl) ?_
              refine ugf (v := .int (sV s_j154 a0 1)) G hP h_a0 iFi rfl 1 (by decide) rfl q729 rfl rfl d_Fi_reachBy_165 ?_
              obtain ⟨mc_25, ms_26, hr_27, h⟩ := h
              refine uaVv (As := [.int (sV s_j154 a0 0), .int (sV s_j154 a0 1)]) (rest := []) G hP hD hS (ca_Fi_addReached l D g ad mc_25 ms_26 y_j154 _ s_j154 a0 (sV s_j154 a0 0) (sV s_j154 a0 1) H.size (us H) h_a0 h) w9_Fi_addReached q2438 ⟨Nat.le_of_ble_eq_true rfl, Nat.le_of_ble_eq_true rfl⟩ rfl rfl h_a0 (q := (RFi, TFi, 10)) rfl rfl hl.1 rfl (Nat.le_of_ble_eq_true rfl) rfl hr_27 d_Fi_reachBy_168 (fun y_22 s_21 d_23 e_24 H locs h hP hD hS => ?_)
              have hl := lv_sub (l' := [(0, .ref (ad a0)), (1, .ref (ad a1)), (8, .int x8j154), (9, .int x9j154)]) hl [0, 1, 3, 4] rfl
              obtain ⟨hd, h⟩ := h
              exact J_171 y_22 s_21 (d_j154 + d_23) (e_j154 + e_24) x8j154 x9j154 H locs h hP hD hS ls (lv_sub hl [0, 1, 2, 3] rfl)
          have J_121 : ∀ (y_j121 : Ly) (s_j121 : St) (d_j121 e_j121 : Nat) (x5j121 : Int32) (x7j121 : Int32) (x8j121 : Int32) (x9j121 : Int32) (H : Heap) (locs : List Loc), wja_Fi_reachBy_121 mc ms Post a0 a1 y_j121 s_j121 d_j121 e_j121 x5j121 x7j121 x8j121 x9j121 → va_P D CL (ws g ad y_j121 s_j121) H → va_D A (ws g ad y_j121 s_j121) → va_S A s.heap H locs → ∀ ls, lv_has ls 10 [(0, .ref (ad a0)), (1, .ref (ad a1)), (5, .int x5j121), (7, .int x7j121), (8, .int x8j121), (9, .int x9j121)] → W p l e (ra_Fi_reachBy mc ms) s m args below meth c H locs d_j121 e_j121 Q (F0 m 121 ls []) := by
            intro y_j121 s_j121 d_j121 e_j121 x5j121 x7j121 x8j121 x9j121 H locs h hP hD hS ls hl
            unfold wja_Fi_reachBy_121 at h
            obtain ⟨hd, h⟩ := h
            refine lv_aload_n G.1 G.2.1 d_Fi_reachBy_121 rfl (lv_at hl 0 rfl) ?_
            refine lv_aload_n G.1 G.2.1 d_Fi_reachBy_122 rfl (lv_at hl 1 rfl) ?_
            refine lv_iconst (v := 4) G.1 G.2.1 d_Fi_reachBy_123 (by decide) ?_
            refine ucVi (As := [.ref (ad a1), .int 4]) (rest := []) G hP hD hS (cu_Fi_isFound l D g ad y_j121 _ s_j121 a0 a1 4 H.size h_a0 h_a1 h) w9_Fi_isFound q2335 ⟨Nat.le_of_ble_eq_true rfl, Nat.le_of_ble_eq_true rfl⟩ rfl rfl h_a0 (q := (RFi, TFi, 10)) rfl rfl hl.1 rfl (Nat.le_of_ble_eq_true rfl) rfl hd d_Fi_reachBy_124 (fun r_28 s_29 H locs h hP hD hS => ?_)
            refine lv_if_ne (tgt := 154) G.1 G.2.1 d_Fi_reachBy_127 (by decide) (fun c127 => ?_) (fun c127 => ?_)
            · skip
              have h := h.1 c127
              exact J_154 y_j121 s_29 d_j121 e_j121 x7j121 x8j121 x9j121 H locs h hP hD hS ls (lv_sub hl [0, 1, 3, 4, 5] rfl)
            · skip
              have h := h.2 c127
              refine lv_aload_n G.1 G.2.1 d_Fi_reachBy_130 rfl (lv_at hl 0 rfl) ?_
              refine lv_aload_n G.1 G.2.1 d_Fi_reachBy_131 rfl (lv_at hl 1 rfl) ?_
              refine lv_aload_n G.1 G.2.1 d_Fi_reachBy_132 rfl (lv_at hl 0 rfl) ?_
              refine ugf (v := .int (sV s_29 a0 2)) G hP h_a0 iFi rfl 2 (by decide) rfl q732 rfl rfl d_Fi_reachBy_133 ?_
              refine lv_aload_n G.1 G.2.1 d_Fi_reachBy_136 rfl (lv_at hl 1 rfl) ?_
              refine ugf (v := .ref (ad (lk a1 10))) G hP h_a1 iWd rfl 10 (by decide) rfl q844 rfl rfl d_Fi_reachBy_137 ?_
              refine W.eq (g2 := F0 m 140 ls [.ref (ad (lk a1 10)), .int (sV s_29 a0 2), .ref (ad a1), .ref (ad a0)]) rfl ?_
              refine ugf (v := .ref (yP y_j121 (lk a1 10) 0)) G hP (lk_9_10 h_a1) iIn rfl 0 (by decide) rfl q383 rfl rfl d_Fi_reachBy_140 ?_
              refine lv_iload G.1 G.2.1 d_Fi_reachBy_143 (lv_at hl 2 rfl) ?_
              refine lv_iconst (v := 2) G.1 G.2.1 d_Fi_reachBy_145 (by decide) ?_
              refine lv_iadd G.1 G.2.1 d_Fi_reachBy_146 ?_
              refine uiald G hP (kdp (lk_9_10 h_a1) rfl) (typ (lk_9_10 h_a1) rfl) h d_Fi_reachBy_147 (fun x_30 h => ?_)
              obtain ⟨mc_36, ms_37, hr_38, h⟩ := h
              refine utVv (As := [.ref (ad a1), .int (sV s_29 a0 2), .int x_30]) (rest := []) G hP hD hS (ca_Fi_reachObjects l D g F sl hF ad mc_36 ms_37 y_j121 _ s_29 a0 a1 (sV s_29 a0 2) x_30 H.size (us H) h_a0 h_a1 h) w9_Fi_reachObjects q2434 ⟨Nat.le_of_ble_eq_true rfl, Nat.le_of_ble_eq_true rfl⟩ rfl rfl h_a0 (q := (RFi, TFi, 10)) rfl rfl hl.1 rfl (Nat.le_of_ble_eq_true rfl) rfl hr_38 d_Fi_reachBy_148 (fun y_33 s_32 d_34 e_35 H locs h hP hD hS => ?_)
              have hl := lv_sub (l' := [(0, .ref (ad a0)), (1, .ref (ad a1)), (8, .int x8j121), (9, .int x9j121)]) hl [0, 1, 4, 5] rfl
              obtain ⟨hd, h⟩ := h
              refine lv_goto (tgt := 171) G.1 G.2.1 d_Fi_reachBy_151 (by decide) ?_
              exact J_171 y_33 s_32 (d_j121 + d_34) (e_j121 + e_35) x8j121 x9j121 H locs h hP hD hS ls (lv_sub hl [0, 1, 2, 3] rfl)
          refine lv_icmp_eq (tgt := 121) G.1 G.2.1 d_Fi_reachBy_111 (by decide) (fun c111 => ?_) (fun c111 => ?_)
          · skip
            have h := h.1 c111
            exact J_121 y_6 s_5 (d_j88 + d_7) (e_j88 + e_8) x5j88 x7j88 x8j88 (sV s_5 a0 0) H locs h hP hD hS ls (lv_sub hl [1, 2, 3, 5, 6, 0] rfl)
          · skip
            have h := h.2 c111
            refine lv_iload G.1 G.2.1 d_Fi_reachBy_114 (lv_at hl 4 rfl) ?_
            refine lv_bipush (v := 53) G.1 G.2.1 d_Fi_reachBy_116 (by decide) ?_
            refine lv_icmp_ne (tgt := 154) G.1 G.2.1 d_Fi_reachBy_118 (by decide) (fun c118 => ?_) (fun c118 => ?_)
            · skip
              have h := h.1 c118
              exact J_154 y_6 s_5 (d_j88 + d_7) (e_j88 + e_8) x7j88 x8j88 (sV s_5 a0 0) H locs h hP hD hS ls (lv_sub hl [1, 2, 5, 6, 0] rfl)
            · skip
              have h := h.2 c118
              exact J_121 y_6 s_5 (d_j88 + d_7) (e_j88 + e_8) x5j88 x7j88 x8j88 (sV s_5 a0 0) H locs h hP hD hS ls (lv_sub hl [1, 2, 3, 5, 6, 0] rfl)
        · skip
          have h := h.2 c97
          exact J_100 y_6 s_5 (d_j88 + d_7) (e_j88 + e_8) H locs h hP hD hS ls (lv_sub hl [] rfl)
      refine lv_if_ne (tgt := 88) G.1 G.2.1 d_Fi_reachBy_80 (by decide) (fun c80 => ?_) (fun c80 => ?_)
      · skip
        have h := h.1 c80
        exact J_88 y_j76 s_j76 d_j76 e_j76 x2j76 x3j76 x4j76 x5j76 x6j76 x7j76 z0j76 H locs h hP hD hS ls (lv_sub hl [1, 2, 3, 4, 5, 6, 7, 8, 0] rfl)
      · skip
        have h := h.2 c80
        refine lv_iload G.1 G.2.1 d_Fi_reachBy_83 (lv_at hl 0 rfl) ?_
        refine lv_if_eq (tgt := 100) G.1 G.2.1 d_Fi_reachBy_85 (by decide) (fun c85 => ?_) (fun c85 => ?_)
        · skip
          have h := h.1 c85
          exact J_100 y_j76 s_j76 d_j76 e_j76 H locs h hP hD hS ls (lv_sub hl [] rfl)
        · skip
          have h := h.2 c85
          exact J_88 y_j76 s_j76 d_j76 e_j76 x2j76 x3j76 x4j76 x5j76 x6j76 x7j76 z0j76 H locs h hP hD hS ls (lv_sub hl [1, 2, 3, 4, 5, 6, 7, 8, 0] rfl)
    have J_71 : ∀ (y_j71 : Ly) (s_j71 : St) (d_j71 e_j71 : Nat) (x2j71 : Int32) (x3j71 : Int32) (x4j71 : Int32) (x5j71 : Int32) (x6j71 : Int32) (x7j71 : Int32) (H : Heap) (locs : List Loc), wja_Fi_reachBy_71 mc ms Post a0 a1 y_j71 s_j71 d_j71 e_j71 x2j71 x3j71 x4j71 x5j71 x6j71 x7j71 → va_P D CL (ws g ad y_j71 s_j71) H → va_D A (ws g ad y_j71 s_j71) → va_S A s.heap H locs → ∀ ls, lv_has ls 10 [(0, .ref (ad a0)), (1, .ref (ad a1)), (2, .int x2j71), (3, .int x3j71), (4, .int x4j71), (5, .int x5j71), (6, .int x6j71), (7, .int x7j71)] → W p l e (ra_Fi_reachBy mc ms) s m args below meth c H locs d_j71 e_j71 Q (F0 m 71 ls []) := by
      intro y_j71 s_j71 d_j71 e_j71 x2j71 x3j71 x4j71 x5j71 x6j71 x7j71 H locs h hP hD hS ls hl
      unfold wja_Fi_reachBy_71 at h
      obtain ⟨hd, h⟩ := h
      refine lv_iconst (v := 1) G.1 G.2.1 d_Fi_reachBy_71 (by decide) ?_
      refine lv_goto (tgt := 76) G.1 G.2.1 d_Fi_reachBy_72 (by decide) ?_
      exact J_76 y_j71 s_j71 d_j71 e_j71 x2j71 x3j71 x4j71 x5j71 x6j71 x7j71 1 H locs h hP hD hS ls (lv_sub hl [0, 1, 2, 3, 4, 5, 6, 7] rfl)
    refine lv_icmp_eq (tgt := 71) G.1 G.2.1 d_Fi_reachBy_47 (by decide) (fun c47 => ?_) (fun c47 => ?_)
    · skip
      have h := h.1 c47
      exact J_71 y_j41 s_j41 d_j41 e_j41 x2j41 x3j41 x4j41 x5j41 x6j41 z0j41 H locs h hP hD hS ls (lv_sub hl [1, 2, 3, 4, 5, 6, 7, 0] rfl)
    · skip
      have h := h.2 c47
      refine lv_iload G.1 G.2.1 d_Fi_reachBy_50 (lv_at hl 7 rfl) ?_
      refine lv_bipush (v := 52) G.1 G.2.1 d_Fi_reachBy_52 (by decide) ?_
      refine lv_icmp_eq (tgt := 71) G.1 G.2.1 d_Fi_reachBy_54 (by decide) (fun c54 => ?_) (fun c54 => ?_)
      · skip
        have h := h.1 c54
        exact J_71 y_j41 s_j41 d_j41 e_j41 x2j41 x3j41 x4j41 x5j41 x6j41 z0j41 H locs h hP hD hS ls (lv_sub hl [1, 2, 3, 4, 5, 6, 7, 0] rfl)
      · skip
        have h := h.2 c54
        refine lv_iload G.1 G.2.1 d_Fi_reachBy_57 (lv_at hl 7 rfl) ?_
        refine lv_bipush (v := 48) G.1 G.2.1 d_Fi_reachBy_59 (by decide) ?_
        refine lv_icmp_eq (tgt := 71) G.1 G.2.1 d_Fi_reachBy_61 (by decide) (fun c61 => ?_) (fun c61 => ?_)
        · skip
          have h := h.1 c61
          exact J_71 y_j41 s_j41 d_j41 e_j41 x2j41 x3j41 x4j41 x5j41 x6j41 z0j41 H locs h hP hD hS ls (lv_sub hl [1, 2, 3, 4, 5, 6, 7, 0] rfl)
        · skip
          have h := h.2 c61
          refine lv_iload G.1 G.2.1 d_Fi_reachBy_64 (lv_at hl 7 rfl) ?_
          refine W.eq (g2 := F0 m 66 ls [.int x6j41]) rfl ?_
          refine lv_bipush (v := 49) G.1 G.2.1 d_Fi_reachBy_66 (by decide) ?_
          refine lv_icmp_ne (tgt := 75) G.1 G.2.1 d_Fi_reachBy_68 (by decide) (fun c68 => ?_) (fun c68 => ?_)
          · skip
            have h := h.1 c68
            refine lv_iconst (v := 0) G.1 G.2.1 d_Fi_reachBy_75 (by decide) ?_
            exact J_76 y_j41 s_j41 d_j41 e_j41 x2j41 x3j41 x4j41 x5j41 x6j41 z0j41 0 H locs h hP hD hS ls (lv_sub hl [1, 2, 3, 4, 5, 6, 7, 0] rfl)
          · skip
            have h := h.2 c68
            exact J_71 y_j41 s_j41 d_j41 e_j41 x2j41 x3j41 x4j41 x5j41 x6j41 z0j41 H locs h hP hD hS ls (lv_sub hl [1, 2, 3, 4, 5, 6, 7, 0] rfl)
  have J_40 : ∀ (y_j40 : Ly) (s_j40 : St) (d_j40 e_j40 : Nat) (x2j40 : Int32) (x3j40 : Int32) (x4j40 : Int32) (x5j40 : Int32) (x6j40 : Int32) (H : Heap) (locs : List Loc), wja_Fi_reachBy_40 mc ms Post a0 a1 y_j40 s_j40 d_j40 e_j40 x2j40 x3j40 x4j40 x5j40 x6j40 → va_P D CL (ws g ad y_j40 s_j40) H → va_D A (ws g ad y_j40 s_j40) → va_S A s.heap H locs → ∀ ls, lv_has ls 10 [(0, .ref (ad a0)), (1, .ref (ad a1)), (2, .int x2j40), (3, .int x3j40), (4, .int x4j40), (5, .int x5j40), (6, .int x6j40)] → W p l e (ra_Fi_reachBy mc ms) s m args below meth c H locs d_j40 e_j40 Q (F0 m 40 ls []) := by
    intro y_j40 s_j40 d_j40 e_j40 x2j40 x3j40 x4j40 x5j40 x6j40 H locs h hP hD hS ls hl
    unfold wja_Fi_reachBy_40 at h
    obtain ⟨hd, h⟩ := h
    refine lv_iconst (v := 0) G.1 G.2.1 d_Fi_reachBy_40 (by decide) ?_
    exact J_41 y_j40 s_j40 d_j40 e_j40 x2j40 x3j40 x4j40 x5j40 x6j40 0 H locs h hP hD hS ls (lv_sub hl [0, 1, 2, 3, 4, 5, 6] rfl)
  refine lv_icmp_lt (tgt := 40) G.1 G.2.1 d_Fi_reachBy_26 (by decide) (fun c26 => ?_) (fun c26 => ?_)
  · skip
    have h := h.1 c26
    exact J_40 y s_2 0 0 v2 v3 v4 r_1 x_3 H locs h hP hD hS ls (lv_sub hl [2, 3, 4, 5, 6, 1, 0] rfl)
  · skip
    have h := h.2 c26
    refine lv_iload G.1 G.2.1 d_Fi_reachBy_29 (lv_at hl 0 rfl) ?_
    refine lv_bipush (v := 53) G.1 G.2.1 d_Fi_reachBy_31 (by decide) ?_
    refine lv_icmp_gt (tgt := 40) G.1 G.2.1 d_Fi_reachBy_33 (by decide) (fun c33 => ?_) (fun c33 => ?_)
    · skip
      have h := h.1 c33
      exact J_40 y s_2 0 0 v2 v3 v4 r_1 x_3 H locs h hP hD hS ls (lv_sub hl [2, 3, 4, 5, 6, 1, 0] rfl)
    · skip
      have h := h.2 c33
      refine lv_iconst (v := 1) G.1 G.2.1 d_Fi_reachBy_36 (by decide) ?_
      refine lv_goto (tgt := 41) G.1 G.2.1 d_Fi_reachBy_37 (by decide) ?_
      exact J_41 y s_2 0 0 v2 v3 v4 r_1 x_3 1 H locs h hP hD hS ls (lv_sub hl [2, 3, 4, 5, 6, 1, 0] rfl)
