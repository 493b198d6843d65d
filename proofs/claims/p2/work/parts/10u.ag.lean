def y_Ma_turn : MethodName := ⟨"ClassWorks$Machine", "turn", "(LClassWorks$Runner;I)V"⟩
abbrev b_Ma_turn : ByteArray := prog_6_method_31_code
theorem d_Ma_turn_0 : decode b_Ma_turn 0 = .ok (.aload_n 0, 1) := by decide +kernel
theorem d_Ma_turn_1 : decode b_Ma_turn 1 = .ok (.invokevirtual 394, 3) := by decide +kernel
theorem d_Ma_turn_4 : decode b_Ma_turn 4 = .ok (.lstore_n 2, 1) := by decide +kernel
theorem d_Ma_turn_5 : decode b_Ma_turn 5 = .ok (.aload_n 0, 1) := by decide +kernel
theorem d_Ma_turn_6 : decode b_Ma_turn 6 = .ok (.invokevirtual 394, 3) := by decide +kernel
theorem d_Ma_turn_9 : decode b_Ma_turn 9 = .ok (.lstore 4, 2) := by decide +kernel
theorem d_Ma_turn_11 : decode b_Ma_turn 11 = .ok (.aload_n 0, 1) := by decide +kernel
theorem d_Ma_turn_12 : decode b_Ma_turn 12 = .ok (.lload_n 2, 1) := by decide +kernel
theorem d_Ma_turn_13 : decode b_Ma_turn 13 = .ok (.invokevirtual 390, 3) := by decide +kernel
theorem d_Ma_turn_16 : decode b_Ma_turn 16 = .ok (.aload_n 0, 1) := by decide +kernel
theorem d_Ma_turn_17 : decode b_Ma_turn 17 = .ok (.lload 4, 2) := by decide +kernel
theorem d_Ma_turn_19 : decode b_Ma_turn 19 = .ok (.invokevirtual 390, 3) := by decide +kernel
theorem d_Ma_turn_22 : decode b_Ma_turn 22 = .ok (.iload_n 1, 1) := by decide +kernel
theorem d_Ma_turn_23 : decode b_Ma_turn 23 = .ok (.bipush 21, 2) := by decide +kernel
theorem d_Ma_turn_25 : decode b_Ma_turn 25 = .ok (.if_icmp .ne 8, 3) := by decide +kernel
theorem d_Ma_turn_28 : decode b_Ma_turn 28 = .ok (.aload_n 0, 1) := by decide +kernel
theorem d_Ma_turn_29 : decode b_Ma_turn 29 = .ok (.lload_n 2, 1) := by decide +kernel
theorem d_Ma_turn_30 : decode b_Ma_turn 30 = .ok (.invokevirtual 390, 3) := by decide +kernel
theorem d_Ma_turn_33 : decode b_Ma_turn 33 = .ok (.return_, 1) := by decide +kernel
abbrev ru_Ma_turn : Room := { frames := 1, cells := 0, slots := 0, locals := 22 }
def wj_Ma_turn_33 (y : Ly) (Post : St → Prop) (a0 : Nat) (s_j33 : St) : Prop := Post s_j33
def wu_Ma_turn (y : Ly) (Post : St → Prop) (σ : St) (a0 : Nat) (v1 : Int32) : Prop := wu_Ru_pop y (fun (s_2 : St) (r_1 : Int64) => wu_Ru_pop y (fun (s_4 : St) (r_3 : Int64) => wu_Ru_push y (fun (s_6 : St) => wu_Ru_push y (fun (s_8 : St) => ((¬ v1 = 21 → wj_Ma_turn_33 y Post a0 s_8) ∧ (v1 = 21 → wu_Ru_push y (fun (s_10 : St) => wj_Ma_turn_33 y Post a0 s_10) s_8 a0 r_1))) s_6 a0 r_3) s_4 a0 r_1) s_2 a0) σ a0
set_option maxHeartbeats 4000000 in
set_option maxRecDepth 100000 in
theorem cu_Ma_turn (l : Launch) (D : va_G) (g : Nat → ClassId) (ad : Nat → Nat) (y : Ly) (Post : St → Prop) (σ : St) (a0 : Nat) (v1 : Int32) (sz : Nat) (h_a0 : cl a0 = 7) (h : wu_Ma_turn y Post σ a0 v1) : Met l y_Ma_turn (mw y_Ma_turn b_Ma_turn 6 (none)) ru_Ma_turn (PC g D [] [.ref (ad a0), .int v1] sz (ws g ad y σ)) (va_Qv (fun u : St => Post u) (QW D (va_A (ws g ad y σ) sz) (fun u => ws g ad y u)) (va_A (ws g ad y σ) sz)) 0 0 (va_A (ws g ad y σ) sz) := by
  refine ofV (by decide +kernel) (Nat.le_of_ble_eq_true rfl) ?_
  intro p e s m args below meth c A Q ls H locs G hsz hP hD hS hl hret
  subst hsz
  have hl : lv_has ls 6 [(0, .ref (ad a0)), (1, .int v1)] := hl
  unfold wu_Ma_turn at h
  refine lv_aload_n G.1 G.2.1 d_Ma_turn_0 rfl (lv_at hl 0 rfl) ?_
  refine ucVl (As := []) (rest := []) G hP hD hS (cu_Ru_pop l D g ad y _ σ a0 H.size h_a0 h) w9_Ru_pop q1898 ⟨Nat.le_of_ble_eq_true rfl, Nat.le_of_ble_eq_true rfl⟩ rfl rfl h_a0 (q := (RRu, TRu, 19)) rfl rfl hl.1 rfl (Nat.le_of_ble_eq_true rfl) rfl ⟨Nat.le_refl _, Nat.le_refl _⟩ d_Ma_turn_1 (fun r_1 s_2 H locs h hP hD hS => ?_)
  refine lv_lstore_n (lv' := [(2, .long r_1), (0, .ref (ad a0)), (1, .int v1)]) G.1 G.2.1 d_Ma_turn_4 rfl hl (by decide) rfl (fun ls hl => ?_)
  refine lv_aload_n G.1 G.2.1 d_Ma_turn_5 rfl (lv_at hl 1 rfl) ?_
  refine ucVl (As := []) (rest := []) G hP hD hS (cu_Ru_pop l D g ad y _ s_2 a0 H.size h_a0 h) w9_Ru_pop q1898 ⟨Nat.le_of_ble_eq_true rfl, Nat.le_of_ble_eq_true rfl⟩ rfl rfl h_a0 (q := (RRu, TRu, 19)) rfl rfl hl.1 rfl (Nat.le_of_ble_eq_true rfl) rfl ⟨Nat.le_refl _, Nat.le_refl _⟩ d_Ma_turn_6 (fun r_3 s_4 H locs h hP hD hS => ?_)
  refine lv_lstore (lv' := [(4, .long r_3), (2, .long r_1), (0, .ref (ad a0)), (1, .int v1)]) G.1 G.2.1 d_Ma_turn_9 hl (by decide) rfl (fun ls hl => ?_)
  refine lv_aload_n G.1 G.2.1 d_Ma_turn_11 rfl (lv_at hl 2 rfl) ?_
  refine lv_lload_n G.1 G.2.1 d_Ma_turn_12 rfl (lv_at hl 1 rfl) ?_
  refine ucVv (As := [.long r_1]) (rest := []) G hP hD hS (cu_Ru_push l D g ad y _ s_4 a0 r_1 H.size h_a0 h) w9_Ru_push q1932 ⟨Nat.le_of_ble_eq_true rfl, Nat.le_of_ble_eq_true rfl⟩ rfl rfl h_a0 (q := (RRu, TRu, 19)) rfl rfl hl.1 rfl (Nat.le_of_ble_eq_true rfl) rfl ⟨Nat.le_refl _, Nat.le_refl _⟩ d_Ma_turn_13 (fun s_6 H locs h hP hD hS => ?_)
  refine lv_aload_n G.1 G.2.1 d_Ma_turn_16 rfl (lv_at hl 2 rfl) ?_
  refine lv_lload G.1 G.2.1 d_Ma_turn_17 (lv_at hl 0 rfl) ?_
  refine W.eq (g2 := F0 m 19 ls [.long r_3, .ref (ad a0)]) rfl ?_
  refine ucVv (As := [.long r_3]) (rest := []) G hP hD hS (cu_Ru_push l D g ad y _ s_6 a0 r_3 H.size h_a0 h) w9_Ru_push q1932 ⟨Nat.le_of_ble_eq_true rfl, Nat.le_of_ble_eq_true rfl⟩ rfl rfl h_a0 (q := (RRu, TRu, 19)) rfl rfl hl.1 rfl (Nat.le_of_ble_eq_true rfl) rfl ⟨Nat.le_refl _, Nat.le_refl _⟩ d_Ma_turn_19 (fun s_8 H locs h hP hD hS => ?_)
  refine lv_iload_n G.1 G.2.1 d_Ma_turn_22 rfl (lv_at hl 3 rfl) ?_
  refine lv_bipush (v := 21) G.1 G.2.1 d_Ma_turn_23 (by decide) ?_
  have J_33 : ∀ (s_j33 : St) (H : Heap) (locs : List Loc), wj_Ma_turn_33 y Post a0 s_j33 → va_P D CL (ws g ad y s_j33) H → va_D A (ws g ad y s_j33) → va_S A s.heap H locs → ∀ ls, lv_has ls 6 [] → W p l e ru_Ma_turn s m args below meth c H locs 0 0 Q (F0 m 33 ls []) := by
    intro s_j33 H locs h hP hD hS ls hl
    unfold wj_Ma_turn_33 at h
    exact hret _ _ _ _ _ _ ls h hP hD hS (Nat.le_refl _) (Nat.le_refl _) d_Ma_turn_33
  refine lv_icmp_ne (tgt := 33) G.1 G.2.1 d_Ma_turn_25 (by decide) (fun c25 => ?_) (fun c25 => ?_)
  · skip
    have h := h.1 c25
    exact J_33 s_8 H locs h hP hD hS ls (lv_sub hl [] rfl)
  · skip
    have h := h.2 c25
    refine lv_aload_n G.1 G.2.1 d_Ma_turn_28 rfl (lv_at hl 2 rfl) ?_
    refine lv_lload_n G.1 G.2.1 d_Ma_turn_29 rfl (lv_at hl 1 rfl) ?_
    refine ucVv (As := [.long r_1]) (rest := []) G hP hD hS (cu_Ru_push l D g ad y _ s_8 a0 r_1 H.size h_a0 h) w9_Ru_push q1932 ⟨Nat.le_of_ble_eq_true rfl, Nat.le_of_ble_eq_true rfl⟩ rfl rfl h_a0 (q := (RRu, TRu, 19)) rfl rfl hl.1 rfl (Nat.le_of_ble_eq_true rfl) rfl ⟨Nat.le_refl _, Nat.le_refl _⟩ d_Ma_turn_30 (fun s_10 H locs h hP hD hS => ?_)
    exact J_33 s_10 H locs h hP hD hS ls (lv_sub hl [] rfl)
theorem q1955 : Cond.methodLink "ClassWorks$Machine" 384 y_Ru_pushNumber ∈ lw_ok := lw_okmem (List.mem_of_getElem? (i := 1955) (by decide +kernel)) rfl
theorem q1958 : Cond.code y_Ru_pushNumber b_Ru_pushNumber 2 (none) ∈ lw_ok := lw_okmem (List.mem_of_getElem? (i := 1958) (by decide +kernel)) rfl
theorem q1956 : Cond.instanceMethod y_Ru_pushNumber ∈ lw_ok := lw_okmem (List.mem_of_getElem? (i := 1956) (by decide +kernel)) rfl
theorem q1957 : Cond.selects y_Ru_pushNumber.cls y_Ru_pushNumber y_Ru_pushNumber ∈ lw_ok := lw_okmem (List.mem_of_getElem? (i := 1957) (by decide +kernel)) rfl
theorem w9_Ru_pushNumber : CWv y_Ru_pushNumber b_Ru_pushNumber 2 (none) 1 ∧ Cond.instanceMethod y_Ru_pushNumber ∈ lw_ok ∧ Cond.selects y_Ru_pushNumber.cls y_Ru_pushNumber y_Ru_pushNumber ∈ lw_ok := ⟨⟨q1958, q347, by decide +kernel, by decide +kernel, by decide +kernel⟩, q1956, q1957⟩
theorem q1961 : Cond.methodLink "ClassWorks$Machine" 336 y_Ru_pushReference ∈ lw_ok := lw_okmem (List.mem_of_getElem? (i := 1961) (by decide +kernel)) rfl
theorem q1964 : Cond.code y_Ru_pushReference b_Ru_pushReference 2 (none) ∈ lw_ok := lw_okmem (List.mem_of_getElem? (i := 1964) (by decide +kernel)) rfl
theorem q1962 : Cond.instanceMethod y_Ru_pushReference ∈ lw_ok := lw_okmem (List.mem_of_getElem? (i := 1962) (by decide +kernel)) rfl
theorem q1963 : Cond.selects y_Ru_pushReference.cls y_Ru_pushReference y_Ru_pushReference ∈ lw_ok := lw_okmem (List.mem_of_getElem? (i := 1963) (by decide +kernel)) rfl
theorem w9_Ru_pushReference : CWv y_Ru_pushReference b_Ru_pushReference 2 (none) 1 ∧ Cond.instanceMethod y_Ru_pushReference ∈ lw_ok ∧ Cond.selects y_Ru_pushReference.cls y_Ru_pushReference y_Ru_pushReference ∈ lw_ok := ⟨⟨q1964, q347, by decide +kernel, by decide +kernel, by decide +kernel⟩, q1962, q1963⟩
theorem q1966 : Cond.methodLink "ClassWorks$Machine" 387 y_Ru_local ∈ lw_ok := lw_okmem (List.mem_of_getElem? (i := 1966) (by decide +kernel)) rfl
theorem q1969 : Cond.code y_Ru_local b_Ru_local 2 (some (.long)) ∈ lw_ok := lw_okmem (List.mem_of_getElem? (i := 1969) (by decide +kernel)) rfl
theorem q1967 : Cond.instanceMethod y_Ru_local ∈ lw_ok := lw_okmem (List.mem_of_getElem? (i := 1967) (by decide +kernel)) rfl
theorem q1968 : Cond.selects y_Ru_local.cls y_Ru_local y_Ru_local ∈ lw_ok := lw_okmem (List.mem_of_getElem? (i := 1968) (by decide +kernel)) rfl
theorem w9_Ru_local : CWv y_Ru_local b_Ru_local 2 (some (.long)) 1 ∧ Cond.instanceMethod y_Ru_local ∈ lw_ok ∧ Cond.selects y_Ru_local.cls y_Ru_local y_Ru_local ∈ lw_ok := ⟨⟨q1969, q347, by decide +kernel, by decide +kernel, by decide +kernel⟩, q1967, q1968⟩
theorem q1970 : Cond.methodLink "ClassWorks$Machine" 315 y_Ru_setLocal ∈ lw_ok := lw_okmem (List.mem_of_getElem? (i := 1970) (by decide +kernel)) rfl
theorem q1973 : Cond.code y_Ru_setLocal b_Ru_setLocal 4 (none) ∈ lw_ok := lw_okmem (List.mem_of_getElem? (i := 1973) (by decide +kernel)) rfl
theorem q1971 : Cond.instanceMethod y_Ru_setLocal ∈ lw_ok := lw_okmem (List.mem_of_getElem? (i := 1971) (by decide +kernel)) rfl
theorem q1972 : Cond.selects y_Ru_setLocal.cls y_Ru_setLocal y_Ru_setLocal ∈ lw_ok := lw_okmem (List.mem_of_getElem? (i := 1972) (by decide +kernel)) rfl
theorem w9_Ru_setLocal : CWv y_Ru_setLocal b_Ru_setLocal 4 (none) 2 ∧ Cond.instanceMethod y_Ru_setLocal ∈ lw_ok ∧ Cond.selects y_Ru_setLocal.cls y_Ru_setLocal y_Ru_setLocal ∈ lw_ok := ⟨⟨q1973, q347, by decide +kernel, by decide +kernel, by decide +kernel⟩, q1971, q1972⟩
theorem q1974 : Cond.constantLong "ClassWorks$Machine" 313 (4294967295) ∈ lw_ok := lw_okmem (List.mem_of_getElem? (i := 1974) (by decide +kernel)) rfl
theorem q1975 : Cond.methodLink "ClassWorks$Machine" 398 y_Ma_turn ∈ lw_ok := lw_okmem (List.mem_of_getElem? (i := 1975) (by decide +kernel)) rfl
theorem q1977 : Cond.code y_Ma_turn b_Ma_turn 6 (none) ∈ lw_ok := lw_okmem (List.mem_of_getElem? (i := 1977) (by decide +kernel)) rfl
theorem q1976 : Cond.static y_Ma_turn ∈ lw_ok := lw_okmem (List.mem_of_getElem? (i := 1976) (by decide +kernel)) rfl
theorem w9_Ma_turn : CWv y_Ma_turn b_Ma_turn 6 (none) 2 ∧ Cond.static y_Ma_turn ∈ lw_ok := ⟨⟨q1977, q344, by decide +kernel, by decide +kernel, by decide +kernel⟩, q1976⟩
def y_Ma_move : MethodName := ⟨"ClassWorks$Machine", "move", "(LClassWorks$Runner;I)I"⟩
abbrev b_Ma_move : ByteArray := prog_6_method_30_code
theorem d_Ma_move_0 : decode b_Ma_move 0 = .ok (.aload_n 0, 1) := by decide +kernel
theorem d_Ma_move_1 : decode b_Ma_move 1 = .ok (.getfield 69, 3) := by decide +kernel
theorem d_Ma_move_4 : decode b_Ma_move 4 = .ok (.getfield 224, 3) := by decide +kernel
theorem d_Ma_move_7 : decode b_Ma_move 7 = .ok (.getfield 228, 3) := by decide +kernel
theorem d_Ma_move_10 : decode b_Ma_move 10 = .ok (.iload_n 2, 1) := by decide +kernel
theorem d_Ma_move_11 : decode b_Ma_move 11 = .ok (.iconst 1, 1) := by decide +kernel
theorem d_Ma_move_12 : decode b_Ma_move 12 = .ok (.iadd, 1) := by decide +kernel
theorem d_Ma_move_13 : decode b_Ma_move 13 = .ok (.iaload, 1) := by decide +kernel
theorem d_Ma_move_14 : decode b_Ma_move 14 = .ok (.istore_n 3, 1) := by decide +kernel
theorem d_Ma_move_15 : decode b_Ma_move 15 = .ok (.aload_n 0, 1) := by decide +kernel
theorem d_Ma_move_16 : decode b_Ma_move 16 = .ok (.getfield 69, 3) := by decide +kernel
theorem d_Ma_move_19 : decode b_Ma_move 19 = .ok (.getfield 224, 3) := by decide +kernel
theorem d_Ma_move_22 : decode b_Ma_move 22 = .ok (.getfield 228, 3) := by decide +kernel
theorem d_Ma_move_25 : decode b_Ma_move 25 = .ok (.iload_n 2, 1) := by decide +kernel
theorem d_Ma_move_26 : decode b_Ma_move 26 = .ok (.iaload, 1) := by decide +kernel
theorem d_Ma_move_27 : decode b_Ma_move 27 = .ok (.tableswitch 214 1 22 #[101, 109, 117, 117, 129, 129, 141, 214, 214, 214, 214, 214, 214, 214, 214, 214, 214, 214, 175, 183, 195, 195], 101) := by decide +kernel
theorem d_Ma_move_128 : decode b_Ma_move 128 = .ok (.aload_n 1, 1) := by decide +kernel
theorem d_Ma_move_129 : decode b_Ma_move 129 = .ok (.iload_n 3, 1) := by decide +kernel
theorem d_Ma_move_130 : decode b_Ma_move 130 = .ok (.invokevirtual 384, 3) := by decide +kernel
theorem d_Ma_move_133 : decode b_Ma_move 133 = .ok (.goto 108, 3) := by decide +kernel
theorem d_Ma_move_136 : decode b_Ma_move 136 = .ok (.aload_n 1, 1) := by decide +kernel
theorem d_Ma_move_137 : decode b_Ma_move 137 = .ok (.iconst 0, 1) := by decide +kernel
theorem d_Ma_move_138 : decode b_Ma_move 138 = .ok (.invokevirtual 336, 3) := by decide +kernel
theorem d_Ma_move_141 : decode b_Ma_move 141 = .ok (.goto 100, 3) := by decide +kernel
theorem d_Ma_move_144 : decode b_Ma_move 144 = .ok (.aload_n 1, 1) := by decide +kernel
theorem d_Ma_move_145 : decode b_Ma_move 145 = .ok (.aload_n 1, 1) := by decide +kernel
theorem d_Ma_move_146 : decode b_Ma_move 146 = .ok (.iload_n 3, 1) := by decide +kernel
theorem d_Ma_move_147 : decode b_Ma_move 147 = .ok (.invokevirtual 387, 3) := by decide +kernel
theorem d_Ma_move_150 : decode b_Ma_move 150 = .ok (.invokevirtual 390, 3) := by decide +kernel
theorem d_Ma_move_153 : decode b_Ma_move 153 = .ok (.goto 88, 3) := by decide +kernel
theorem d_Ma_move_156 : decode b_Ma_move 156 = .ok (.aload_n 1, 1) := by decide +kernel
theorem d_Ma_move_157 : decode b_Ma_move 157 = .ok (.iload_n 3, 1) := by decide +kernel
theorem d_Ma_move_158 : decode b_Ma_move 158 = .ok (.aload_n 1, 1) := by decide +kernel
theorem d_Ma_move_159 : decode b_Ma_move 159 = .ok (.invokevirtual 394, 3) := by decide +kernel
theorem d_Ma_move_162 : decode b_Ma_move 162 = .ok (.invokevirtual 315, 3) := by decide +kernel
theorem d_Ma_move_165 : decode b_Ma_move 165 = .ok (.goto 76, 3) := by decide +kernel
theorem d_Ma_move_168 : decode b_Ma_move 168 = .ok (.aload_n 1, 1) := by decide +kernel
theorem d_Ma_move_169 : decode b_Ma_move 169 = .ok (.iload_n 3, 1) := by decide +kernel
theorem d_Ma_move_170 : decode b_Ma_move 170 = .ok (.aload_n 1, 1) := by decide +kernel
theorem d_Ma_move_171 : decode b_Ma_move 171 = .ok (.iload_n 3, 1) := by decide +kernel
theorem d_Ma_move_172 : decode b_Ma_move 172 = .ok (.invokevirtual 387, 3) := by decide +kernel
theorem d_Ma_move_175 : decode b_Ma_move 175 = .ok (.l2i, 1) := by decide +kernel
theorem d_Ma_move_176 : decode b_Ma_move 176 = .ok (.aload_n 0, 1) := by decide +kernel
theorem d_Ma_move_177 : decode b_Ma_move 177 = .ok (.getfield 69, 3) := by decide +kernel
theorem d_Ma_move_180 : decode b_Ma_move 180 = .ok (.getfield 224, 3) := by decide +kernel
theorem d_Ma_move_183 : decode b_Ma_move 183 = .ok (.getfield 228, 3) := by decide +kernel
theorem d_Ma_move_186 : decode b_Ma_move 186 = .ok (.iload_n 2, 1) := by decide +kernel
theorem d_Ma_move_187 : decode b_Ma_move 187 = .ok (.iconst 2, 1) := by decide +kernel
theorem d_Ma_move_188 : decode b_Ma_move 188 = .ok (.iadd, 1) := by decide +kernel
theorem d_Ma_move_189 : decode b_Ma_move 189 = .ok (.iaload, 1) := by decide +kernel
theorem d_Ma_move_190 : decode b_Ma_move 190 = .ok (.iadd, 1) := by decide +kernel
theorem d_Ma_move_191 : decode b_Ma_move 191 = .ok (.i2l, 1) := by decide +kernel
theorem d_Ma_move_192 : decode b_Ma_move 192 = .ok (.ldc2_w 313, 3) := by decide +kernel
theorem d_Ma_move_195 : decode b_Ma_move 195 = .ok (.land, 1) := by decide +kernel
theorem d_Ma_move_196 : decode b_Ma_move 196 = .ok (.invokevirtual 315, 3) := by decide +kernel
theorem d_Ma_move_199 : decode b_Ma_move 199 = .ok (.goto 42, 3) := by decide +kernel
theorem d_Ma_move_202 : decode b_Ma_move 202 = .ok (.aload_n 1, 1) := by decide +kernel
theorem d_Ma_move_203 : decode b_Ma_move 203 = .ok (.invokevirtual 394, 3) := by decide +kernel
theorem d_Ma_move_206 : decode b_Ma_move 206 = .ok (.pop2, 1) := by decide +kernel
theorem d_Ma_move_207 : decode b_Ma_move 207 = .ok (.goto 34, 3) := by decide +kernel
theorem d_Ma_move_210 : decode b_Ma_move 210 = .ok (.aload_n 1, 1) := by decide +kernel
theorem d_Ma_move_211 : decode b_Ma_move 211 = .ok (.aload_n 1, 1) := by decide +kernel
theorem d_Ma_move_212 : decode b_Ma_move 212 = .ok (.iconst 0, 1) := by decide +kernel
theorem d_Ma_move_213 : decode b_Ma_move 213 = .ok (.invokevirtual 233, 3) := by decide +kernel
theorem d_Ma_move_216 : decode b_Ma_move 216 = .ok (.invokevirtual 390, 3) := by decide +kernel
theorem d_Ma_move_219 : decode b_Ma_move 219 = .ok (.goto 22, 3) := by decide +kernel
theorem d_Ma_move_222 : decode b_Ma_move 222 = .ok (.aload_n 1, 1) := by decide +kernel
theorem d_Ma_move_223 : decode b_Ma_move 223 = .ok (.aload_n 0, 1) := by decide +kernel
theorem d_Ma_move_224 : decode b_Ma_move 224 = .ok (.getfield 69, 3) := by decide +kernel
theorem d_Ma_move_227 : decode b_Ma_move 227 = .ok (.getfield 224, 3) := by decide +kernel
theorem d_Ma_move_230 : decode b_Ma_move 230 = .ok (.getfield 228, 3) := by decide +kernel
theorem d_Ma_move_233 : decode b_Ma_move 233 = .ok (.iload_n 2, 1) := by decide +kernel
theorem d_Ma_move_234 : decode b_Ma_move 234 = .ok (.iaload, 1) := by decide +kernel
theorem d_Ma_move_235 : decode b_Ma_move 235 = .ok (.invokestatic 398, 3) := by decide +kernel
theorem d_Ma_move_238 : decode b_Ma_move 238 = .ok (.goto 3, 3) := by decide +kernel
theorem d_Ma_move_241 : decode b_Ma_move 241 = .ok (.iconst 0, 1) := by decide +kernel
theorem d_Ma_move_242 : decode b_Ma_move 242 = .ok (.ireturn, 1) := by decide +kernel
abbrev ru_Ma_move : Room := { frames := 2, cells := 0, slots := 0, locals := 47 }
def wj_Ma_move_241 (y : Ly) (Post : St → Int32 → Prop) (a0 : Nat) (a1 : Nat) (s_j241 : St) : Prop := Post s_j241 0
def wu_Ma_move (y : Ly) (Post : St → Int32 → Prop) (σ : St) (a0 : Nat) (a1 : Nat) (v2 : Int32) : Prop := xA y σ (lk (lk a0 0) 10) 0 (v2 + 1) (fun x_1 : Int32 => xA y σ (lk (lk a0 0) 10) 0 v2 (fun x_2 : Int32 => ((x_2 = 1 → wu_Ru_pushNumber y (fun (s_4 : St) => wj_Ma_move_241 y Post a0 a1 s_4) σ a1 x_1) ∧ (¬ (x_2 = 1) → ((x_2 = 2 → wu_Ru_pushReference y (fun (s_6 : St) => wj_Ma_move_241 y Post a0 a1 s_6) σ a1 0) ∧ (¬ (x_2 = 2) → ((x_2 = 3 → wu_Ru_local y (fun (s_8 : St) (r_7 : Int64) => wu_Ru_push y (fun (s_10 : St) => wj_Ma_move_241 y Post a0 a1 s_10) s_8 a1 r_7) σ a1 x_1) ∧ (¬ (x_2 = 3) → ((x_2 = 4 → wu_Ru_local y (fun (s_12 : St) (r_11 : Int64) => wu_Ru_push y (fun (s_14 : St) => wj_Ma_move_241 y Post a0 a1 s_14) s_12 a1 r_11) σ a1 x_1) ∧ (¬ (x_2 = 4) → ((x_2 = 5 → wu_Ru_pop y (fun (s_16 : St) (r_15 : Int64) => wu_Ru_setLocal y (fun (s_18 : St) => wj_Ma_move_241 y Post a0 a1 s_18) s_16 a1 x_1 r_15) σ a1) ∧ (¬ (x_2 = 5) → ((x_2 = 6 → wu_Ru_pop y (fun (s_20 : St) (r_19 : Int64) => wu_Ru_setLocal y (fun (s_22 : St) => wj_Ma_move_241 y Post a0 a1 s_22) s_20 a1 x_1 r_19) σ a1) ∧ (¬ (x_2 = 6) → ((x_2 = 7 → wu_Ru_local y (fun (s_24 : St) (r_23 : Int64) => xA y s_24 (lk (lk a0 0) 10) 0 (v2 + 2) (fun x_25 : Int32 => wu_Ru_setLocal y (fun (s_27 : St) => wj_Ma_move_241 y Post a0 a1 s_27) s_24 a1 x_1 (((r_23.toInt32 + x_25).toInt64) &&& (4294967295)))) σ a1 x_1) ∧ (¬ (x_2 = 7) → ((x_2 = 8 → wj_Ma_move_241 y Post a0 a1 σ) ∧ (¬ (x_2 = 8) → ((x_2 = 9 → wj_Ma_move_241 y Post a0 a1 σ) ∧ (¬ (x_2 = 9) → ((x_2 = 10 → wj_Ma_move_241 y Post a0 a1 σ) ∧ (¬ (x_2 = 10) → ((x_2 = 11 → wj_Ma_move_241 y Post a0 a1 σ) ∧ (¬ (x_2 = 11) → ((x_2 = 12 → wj_Ma_move_241 y Post a0 a1 σ) ∧ (¬ (x_2 = 12) → ((x_2 = 13 → wj_Ma_move_241 y Post a0 a1 σ) ∧ (¬ (x_2 = 13) → ((x_2 = 14 → wj_Ma_move_241 y Post a0 a1 σ) ∧ (¬ (x_2 = 14) → ((x_2 = 15 → wj_Ma_move_241 y Post a0 a1 σ) ∧ (¬ (x_2 = 15) → ((x_2 = 16 → wj_Ma_move_241 y Post a0 a1 σ) ∧ (¬ (x_2 = 16) → ((x_2 = 17 → wj_Ma_move_241 y Post a0 a1 σ) ∧ (¬ (x_2 = 17) → ((x_2 = 18 → wj_Ma_move_241 y Post a0 a1 σ) ∧ (¬ (x_2 = 18) → ((x_2 = 19 → wu_Ru_pop y (fun (s_29 : St) (r_28 : Int64) => wj_Ma_move_241 y Post a0 a1 s_29) σ a1) ∧ (¬ (x_2 = 19) → ((x_2 = 20 → wu_Ru_fromTop y (fun (s_31 : St) (r_30 : Int64) => wu_Ru_push y (fun (s_33 : St) => wj_Ma_move_241 y Post a0 a1 s_33) s_31 a1 r_30) σ a1 0) ∧ (¬ (x_2 = 20) → ((x_2 = 21 → xA y σ (lk (lk a0 0) 10) 0 v2 (fun x_34 : Int32 => wu_Ma_turn y (fun (s_36 : St) => wj_Ma_move_241 y Post a0 a1 s_36) σ a1 x_34)) ∧ (¬ (x_2 = 21) → ((x_2 = 22 → xA y σ (lk (lk a0 0) 10) 0 v2 (fun x_37 : Int32 => wu_Ma_turn y (fun (s_39 : St) => wj_Ma_move_241 y Post a0 a1 s_39) σ a1 x_37)) ∧ (¬ (x_2 = 22) → wj_Ma_move_241 y Post a0 a1 σ))))))))))))))))))))))))))))))))))))))))))))))
set_option maxHeartbeats 4000000 in
set_option maxRecDepth 100000 in
theorem cu_Ma_move (l : Launch) (D : va_G) (g : Nat → ClassId) (ad : Nat → Nat) (y : Ly) (Post : St → Int32 → Prop) (σ : St) (a0 : Nat) (a1 : Nat) (v2 : Int32) (sz : Nat) (h_a0 : cl a0 = 4) (h_a1 : cl a1 = 7) (h : wu_Ma_move y Post σ a0 a1 v2) : Met l y_Ma_move (mw y_Ma_move b_Ma_move 4 (some .int)) ru_Ma_move (PC g D [] [.ref (ad a0), .ref (ad a1), .int v2] sz (ws g ad y σ)) (va_Qi (fun (r : Int32) (u : St) => Post u r) (QW D (va_A (ws g ad y σ) sz) (fun u => ws g ad y u)) (va_A (ws g ad y σ) sz)) 0 0 (va_A (ws g ad y σ) sz) := by
  refine ofI (by decide +kernel) (Nat.le_of_ble_eq_true rfl) ?_
  intro p e s m args below meth c A Q ls H locs G hsz hP hD hS hl hret
  subst hsz
  have hl : lv_has ls 4 [(0, .ref (ad a0)), (1, .ref (ad a1)), (2, .int v2)] := hl
  unfold wu_Ma_move at h
  refine lv_aload_n G.1 G.2.1 d_Ma_move_0 rfl (lv_at hl 0 rfl) ?_
  refine ugf (v := .ref (ad (lk a0 0))) G hP h_a0 iMa rfl 0 (by decide) rfl q1065 rfl rfl d_Ma_move_1 ?_
  refine ugf (v := .ref (ad (lk (lk a0 0) 10))) G hP (lk_4_0 h_a0) iWd rfl 10 (by decide) rfl q845 rfl rfl d_Ma_move_4 ?_
  refine ugf (v := .ref (yP y (lk (lk a0 0) 10) 0)) G hP (lk_9_10 (lk_4_0 h_a0)) iIn rfl 0 (by decide) rfl q385 rfl rfl d_Ma_move_7 ?_
  refine lv_iload_n G.1 G.2.1 d_Ma_move_10 rfl (lv_at hl 2 rfl) ?_
  refine lv_iconst (v := 1) G.1 G.2.1 d_Ma_move_11 (by decide) ?_
  refine lv_iadd G.1 G.2.1 d_Ma_move_12 ?_
  refine uiald G hP (kdp (lk_9_10 (lk_4_0 h_a0)) rfl) (typ (lk_9_10 (lk_4_0 h_a0)) rfl) h d_Ma_move_13 (fun x_1 h => ?_)
  refine lv_istore_n (lv' := [(3, .int x_1), (0, .ref (ad a0)), (1, .ref (ad a1)), (2, .int v2)]) G.1 G.2.1 d_Ma_move_14 rfl hl (by decide) rfl (fun ls hl => ?_)
  refine lv_aload_n G.1 G.2.1 d_Ma_move_15 rfl (lv_at hl 1 rfl) ?_
  refine ugf (v := .ref (ad (lk a0 0))) G hP h_a0 iMa rfl 0 (by decide) rfl q1065 rfl rfl d_Ma_move_16 ?_
  refine W.eq (g2 := F0 m 19 ls [.ref (ad (lk a0 0))]) rfl ?_
  refine ugf (v := .ref (ad (lk (lk a0 0) 10))) G hP (lk_4_0 h_a0) iWd rfl 10 (by decide) rfl q845 rfl rfl d_Ma_move_19 ?_
  refine ugf (v := .ref (yP y (lk (lk a0 0) 10) 0)) G hP (lk_9_10 (lk_4_0 h_a0)) iIn rfl 0 (by decide) rfl q385 rfl rfl d_Ma_move_22 ?_
  refine lv_iload_n G.1 G.2.1 d_Ma_move_25 rfl (lv_at hl 3 rfl) ?_
  refine uiald G hP (kdp (lk_9_10 (lk_4_0 h_a0)) rfl) (typ (lk_9_10 (lk_4_0 h_a0)) rfl) h d_Ma_move_26 (fun x_2 h => ?_)
  have J_241 : ∀ (s_j241 : St) (H : Heap) (locs : List Loc), wj_Ma_move_241 y Post a0 a1 s_j241 → va_P D CL (ws g ad y s_j241) H → va_D A (ws g ad y s_j241) → va_S A s.heap H locs → ∀ ls, lv_has ls 4 [] → W p l e ru_Ma_move s m args below meth c H locs 0 0 Q (F0 m 241 ls []) := by
    intro s_j241 H locs h hP hD hS ls hl
    unfold wj_Ma_move_241 at h
    refine lv_iconst (v := 0) G.1 G.2.1 d_Ma_move_241 (by decide) ?_
    exact hret _ _ _ _ _ _ _ ls h hP hD hS (Nat.le_refl _) (Nat.le_refl _) d_Ma_move_242
  by_cases e27_1 : x_2 = 1
  · skip
    have h := h.1 e27_1
    refine lv_tableIn (off := 101) (tgt := 128) G.1 G.2.1 d_Ma_move_27 (by rw [e27_1]; decide) (by rw [e27_1]; decide) (by rw [e27_1]; rfl) (by decide) ?_
    refine lv_aload_n G.1 G.2.1 d_Ma_move_128 rfl (lv_at hl 2 rfl) ?_
    refine lv_iload_n G.1 G.2.1 d_Ma_move_129 rfl (lv_at hl 0 rfl) ?_
    refine ucVv (As := [.int x_1]) (rest := []) G hP hD hS (cu_Ru_pushNumber l D g ad y _ σ a1 x_1 H.size h_a1 h) w9_Ru_pushNumber q1955 ⟨Nat.le_of_ble_eq_true rfl, Nat.le_of_ble_eq_true rfl⟩ rfl rfl h_a1 (q := (RRu, TRu, 19)) rfl rfl hl.1 rfl (Nat.le_of_ble_eq_true rfl) rfl ⟨Nat.le_refl _, Nat.le_refl _⟩ d_Ma_move_130 (fun s_4 H locs h hP hD hS => ?_)
    refine lv_goto (tgt := 241) G.1 G.2.1 d_Ma_move_133 (by decide) ?_
    exact J_241 s_4 H locs h hP hD hS ls (lv_sub hl [] rfl)
  replace h := h.2 e27_1
  by_cases e27_2 : x_2 = 2
  · skip
    have h := h.1 e27_2
    refine lv_tableIn (off := 109) (tgt := 136) G.1 G.2.1 d_Ma_move_27 (by rw [e27_2]; decide) (by rw [e27_2]; decide) (by rw [e27_2]; rfl) (by decide) ?_
    refine lv_aload_n G.1 G.2.1 d_Ma_move_136 rfl (lv_at hl 2 rfl) ?_
    refine lv_iconst (v := 0) G.1 G.2.1 d_Ma_move_137 (by decide) ?_
    refine ucVv (As := [.int 0]) (rest := []) G hP hD hS (cu_Ru_pushReference l D g ad y _ σ a1 0 H.size h_a1 h) w9_Ru_pushReference q1961 ⟨Nat.le_of_ble_eq_true rfl, Nat.le_of_ble_eq_true rfl⟩ rfl rfl h_a1 (q := (RRu, TRu, 19)) rfl rfl hl.1 rfl (Nat.le_of_ble_eq_true rfl) rfl ⟨Nat.le_refl _, Nat.le_refl _⟩ d_Ma_move_138 (fun s_6 H locs h hP hD hS => ?_)
    refine lv_goto (tgt := 241) G.1 G.2.1 d_Ma_move_141 (by decide) ?_
    exact J_241 s_6 H locs h hP hD hS ls (lv_sub hl [] rfl)
  replace h := h.2 e27_2
  by_cases e27_3 : x_2 = 3
  · skip
    have h := h.1 e27_3
    refine lv_tableIn (off := 117) (tgt := 144) G.1 G.2.1 d_Ma_move_27 (by rw [e27_3]; decide) (by rw [e27_3]; decide) (by rw [e27_3]; rfl) (by decide) ?_
    refine lv_aload_n G.1 G.2.1 d_Ma_move_144 rfl (lv_at hl 2 rfl) ?_
    refine lv_aload_n G.1 G.2.1 d_Ma_move_145 rfl (lv_at hl 2 rfl) ?_
    refine lv_iload_n G.1 G.2.1 d_Ma_move_146 rfl (lv_at hl 0 rfl) ?_
    refine ucVl (As := [.int x_1]) (rest := [.ref (ad a1)]) G hP hD hS (cu_Ru_local l D g ad y _ σ a1 x_1 H.size h_a1 h) w9_Ru_local q1966 ⟨Nat.le_of_ble_eq_true rfl, Nat.le_of_ble_eq_true rfl⟩ rfl rfl h_a1 (q := (RRu, TRu, 19)) rfl rfl hl.1 rfl (Nat.le_of_ble_eq_true rfl) rfl ⟨Nat.le_refl _, Nat.le_refl _⟩ d_Ma_move_147 (fun r_7 s_8 H locs h hP hD hS => ?_)
    refine ucVv (As := [.long r_7]) (rest := []) G hP hD hS (cu_Ru_push l D g ad y _ s_8 a1 r_7 H.size h_a1 h) w9_Ru_push q1932 ⟨Nat.le_of_ble_eq_true rfl, Nat.le_of_ble_eq_true rfl⟩ rfl rfl h_a1 (q := (RRu, TRu, 19)) rfl rfl hl.1 rfl (Nat.le_of_ble_eq_true rfl) rfl ⟨Nat.le_refl _, Nat.le_refl _⟩ d_Ma_move_150 (fun s_10 H locs h hP hD hS => ?_)
    refine lv_goto (tgt := 241) G.1 G.2.1 d_Ma_move_153 (by decide) ?_
    exact J_241 s_10 H locs h hP hD hS ls (lv_sub hl [] rfl)
  replace h := h.2 e27_3
  by_cases e27_4 : x_2 = 4
  · skip
    have h := h.1 e27_4
    refine lv_tableIn (off := 117) (tgt := 144) G.1 G.2.1 d_Ma_move_27 (by rw [e27_4]; decide) (by rw [e27_4]; decide) (by rw [e27_4]; rfl) (by decide) ?_
    refine lv_aload_n G.1 G.2.1 d_Ma_move_144 rfl (lv_at hl 2 rfl) ?_
    refine lv_aload_n G.1 G.2.1 d_Ma_move_145 rfl (lv_at hl 2 rfl) ?_
    refine lv_iload_n G.1 G.2.1 d_Ma_move_146 rfl (lv_at hl 0 rfl) ?_
    refine ucVl (As := [.int x_1]) (rest := [.ref (ad a1)]) G hP hD hS (cu_Ru_local l D g ad y _ σ a1 x_1 H.size h_a1 h) w9_Ru_local q1966 ⟨Nat.le_of_ble_eq_true rfl, Nat.le_of_ble_eq_true rfl⟩ rfl rfl h_a1 (q := (RRu, TRu, 19)) rfl rfl hl.1 rfl (Nat.le_of_ble_eq_true rfl) rfl ⟨Nat.le_refl _, Nat.le_refl _⟩ d_Ma_move_147 (fun r_11 s_12 H locs h hP hD hS => ?_)
    refine ucVv (As := [.long r_11]) (rest := []) G hP hD hS (cu_Ru_push l D g ad y _ s_12 a1 r_11 H.size h_a1 h) w9_Ru_push q1932 ⟨Nat.le_of_ble_eq_true rfl, Nat.le_of_ble_eq_true rfl⟩ rfl rfl h_a1 (q := (RRu, TRu, 19)) rfl rfl hl.1 rfl (Nat.le_of_ble_eq_true rfl) rfl ⟨Nat.le_refl _, Nat.le_refl _⟩ d_Ma_move_150 (fun s_14 H locs h hP hD hS => ?_)
    refine lv_goto (tgt := 241) G.1 G.2.1 d_Ma_move_153 (by decide) ?_
    exact J_241 s_14 H locs h hP hD hS ls (lv_sub hl [] rfl)
  replace h := h.2 e27_4
  by_cases e27_5 : x_2 = 5
  · skip
    have h := h.1 e27_5
    refine lv_tableIn (off := 129) (tgt := 156) G.1 G.2.1 d_Ma_move_27 (by rw [e27_5]; decide) (by rw [e27_5]; decide) (by rw [e27_5]; rfl) (by decide) ?_
    refine lv_aload_n G.1 G.2.1 d_Ma_move_156 rfl (lv_at hl 2 rfl) ?_
    refine lv_iload_n G.1 G.2.1 d_Ma_move_157 rfl (lv_at hl 0 rfl) ?_
    refine lv_aload_n G.1 G.2.1 d_Ma_move_158 rfl (lv_at hl 2 rfl) ?_
    refine ucVl (As := []) (rest := [.int x_1, .ref (ad a1)]) G hP hD hS (cu_Ru_pop l D g ad y _ σ a1 H.size h_a1 h) w9_Ru_pop q1898 ⟨Nat.le_of_ble_eq_true rfl, Nat.le_of_ble_eq_true rfl⟩ rfl rfl h_a1 (q := (RRu, TRu, 19)) rfl rfl hl.1 rfl (Nat.le_of_ble_eq_true rfl) rfl ⟨Nat.le_refl _, Nat.le_refl _⟩ d_Ma_move_159 (fun r_15 s_16 H locs h hP hD hS => ?_)
    refine ucVv (As := [.int x_1, .long r_15]) (rest := []) G hP hD hS (cu_Ru_setLocal l D g ad y _ s_16 a1 x_1 r_15 H.size h_a1 h) w9_Ru_setLocal q1970 ⟨Nat.le_of_ble_eq_true rfl, Nat.le_of_ble_eq_true rfl⟩ rfl rfl h_a1 (q := (RRu, TRu, 19)) rfl rfl hl.1 rfl (Nat.le_of_ble_eq_true rfl) rfl ⟨Nat.le_refl _, Nat.le_refl _⟩ d_Ma_move_162 (fun s_18 H locs h hP hD hS => ?_)
    refine lv_goto (tgt := 241) G.1 G.2.1 d_Ma_move_165 (by decide) ?_
    exact J_241 s_18 H locs h hP hD hS ls (lv_sub hl [] rfl)
  replace h := h.2 e27_5
  by_cases e27_6 : x_2 = 6
  · skip
    have h := h.1 e27_6
    refine lv_tableIn (off := 129) (tgt := 156) G.1 G.2.1 d_Ma_move_27 (by rw [e27_6]; decide) (by rw [e27_6]; decide) (by rw [e27_6]; rfl) (by decide) ?_
    refine lv_aload_n G.1 G.2.1 d_Ma_move_156 rfl (lv_at hl 2 rfl) ?_
    refine lv_iload_n G.1 G.2.1 d_Ma_move_157 rfl (lv_at hl 0 rfl) ?_
    refine lv_aload_n G.1 G.2.1 d_Ma_move_158 rfl (lv_at hl 2 rfl) ?_
    refine ucVl (As := []) (rest := [.int x_1, .ref (ad a1)]) G hP hD hS (cu_Ru_pop l D g ad y _ σ a1 H.size h_a1 h) w9_Ru_pop q1898 ⟨Nat.le_of_ble_eq_true rfl, Nat.le_of_ble_eq_true rfl⟩ rfl rfl h_a1 (q := (RRu, TRu, 19)) rfl rfl hl.1 rfl (Nat.le_of_ble_eq_true rfl) rfl ⟨Nat.le_refl _, Nat.le_refl _⟩ d_Ma_move_159 (fun r_19 s_20 H locs h hP hD hS => ?_)
    refine ucVv (As := [.int x_1, .long r_19]) (rest := []) G hP hD hS (cu_Ru_setLocal l D g ad y _ s_20 a1 x_1 r_19 H.size h_a1 h) w9_Ru_setLocal q1970 ⟨Nat.le_of_ble_eq_true rfl, Nat.le_of_ble_eq_true rfl⟩ rfl rfl h_a1 (q := (RRu, TRu, 19)) rfl rfl hl.1 rfl (Nat.le_of_ble_eq_true rfl) rfl ⟨Nat.le_refl _, Nat.le_refl _⟩ d_Ma_move_162 (fun s_22 H locs h hP hD hS => ?_)
    refine lv_goto (tgt := 241) G.1 G.2.1 d_Ma_move_165 (by decide) ?_
    exact J_241 s_22 H locs h hP hD hS ls (lv_sub hl [] rfl)
  replace h := h.2 e27_6
  by_cases e27_7 : x_2 = 7
  · skip
    have h := h.1 e27_7
    refine lv_tableIn (off := 141) (tgt := 168) G.1 G.2.1 d_Ma_move_27 (by rw [e27_7]; decide) (by rw [e27_7]; decide) (by rw [e27_7]; rfl) (by decide) ?_
    refine lv_aload_n G.1 G.2.1 d_Ma_move_168 rfl (lv_at hl 2 rfl) ?_
    refine lv_iload_n G.1 G.2.1 d_Ma_move_169 rfl (lv_at hl 0 rfl) ?_
    refine lv_aload_n G.1 G.2.1 d_Ma_move_170 rfl (lv_at hl 2 rfl) ?_
    refine lv_iload_n G.1 G.2.1 d_Ma_move_171 rfl (lv_at hl 0 rfl) ?_
    refine ucVl (As := [.int x_1]) (rest := [.int x_1, .ref (ad a1)]) G hP hD hS (cu_Ru_local l D g ad y _ σ a1 x_1 H.size h_a1 h) w9_Ru_local q1966 ⟨Nat.le_of_ble_eq_true rfl, Nat.le_of_ble_eq_true rfl⟩ rfl rfl h_a1 (q := (RRu, TRu, 19)) rfl rfl hl.1 rfl (Nat.le_of_ble_eq_true rfl) rfl ⟨Nat.le_refl _, Nat.le_refl _⟩ d_Ma_move_172 (fun r_23 s_24 H locs h hP hD hS => ?_)
    refine lv_l2i G.1 G.2.1 d_Ma_move_175 rfl ?_
    refine lv_aload_n G.1 G.2.1 d_Ma_move_176 rfl (lv_at hl 1 rfl) ?_
    refine W.eq (g2 := F0 m 177 ls [.ref (ad a0), .int r_23.toInt32, .int x_1, .ref (ad a1)]) rfl ?_
    refine ugf (v := .ref (ad (lk a0 0))) G hP h_a0 iMa rfl 0 (by decide) rfl q1065 rfl rfl d_Ma_move_177 ?_
    refine ugf (v := .ref (ad (lk (lk a0 0) 10))) G hP (lk_4_0 h_a0) iWd rfl 10 (by decide) rfl q845 rfl rfl d_Ma_move_180 ?_
    refine ugf (v := .ref (yP y (lk (lk a0 0) 10) 0)) G hP (lk_9_10 (lk_4_0 h_a0)) iIn rfl 0 (by decide) rfl q385 rfl rfl d_Ma_move_183 ?_
    refine lv_iload_n G.1 G.2.1 d_Ma_move_186 rfl (lv_at hl 3 rfl) ?_
    refine lv_iconst (v := 2) G.1 G.2.1 d_Ma_move_187 (by decide) ?_
    refine lv_iadd G.1 G.2.1 d_Ma_move_188 ?_
    refine uiald G hP (kdp (lk_9_10 (lk_4_0 h_a0)) rfl) (typ (lk_9_10 (lk_4_0 h_a0)) rfl) h d_Ma_move_189 (fun x_25 h => ?_)
    refine lv_iadd G.1 G.2.1 d_Ma_move_190 ?_
    refine lv_i2l G.1 G.2.1 d_Ma_move_191 rfl ?_
    refine lv_ldc2 (v := (4294967295)) G.1 G.2.1 G.2.2.2.2.2.2.1 (G.2.2.2.2.2.1 _ q1974) d_Ma_move_192 ?_
    refine lv_land G.1 G.2.1 d_Ma_move_195 ?_
    refine ucVv (As := [.int x_1, .long (((r_23.toInt32 + x_25).toInt64) &&& (4294967295))]) (rest := []) G hP hD hS (cu_Ru_setLocal l D g ad y _ s_24 a1 x_1 (((r_23.toInt32 + x_25).toInt64) &&& (4294967295)) H.size h_a1 h) w9_Ru_setLocal q1970 ⟨Nat.le_of_ble_eq_true rfl, Nat.le_of_ble_eq_true rfl⟩ rfl rfl h_a1 (q := (RRu, TRu, 19)) rfl rfl hl.1 rfl (Nat.le_of_ble_eq_true rfl) rfl ⟨Nat.le_refl _, Nat.le_refl _⟩ d_Ma_move_196 (fun s_27 H locs h hP hD hS => ?_)
    refine W.eq (g2 := F0 m 199 ls []) rfl ?_
    refine lv_goto (tgt := 241) G.1 G.2.1 d_Ma_move_199 (by decide) ?_
    exact J_241 s_27 H locs h hP hD hS ls (lv_sub hl [] rfl)
  replace h := h.2 e27_7
  by_cases e27_8 : x_2 = 8
  · skip
    have h := h.1 e27_8
    refine lv_tableIn (off := 214) (tgt := 241) G.1 G.2.1 d_Ma_move_27 (by rw [e27_8]; decide) (by rw [e27_8]; decide) (by rw [e27_8]; rfl) (by decide) ?_
    exact J_241 σ H locs h hP hD hS ls (lv_sub hl [] rfl)
  replace h := h.2 e27_8
  by_cases e27_9 : x_2 = 9
  · skip
    have h := h.1 e27_9
    refine lv_tableIn (off := 214) (tgt := 241) G.1 G.2.1 d_Ma_move_27 (by rw [e27_9]; decide) (by rw [e27_9]; decide) (by rw [e27_9]; rfl) (by decide) ?_
    exact J_241 σ H locs h hP hD hS ls (lv_sub hl [] rfl)
  replace h := h.2 e27_9
  by_cases e27_10 : x_2 = 10
  · skip
    have h := h.1 e27_10
    refine lv_tableIn (off := 214) (tgt := 241) G.1 G.2.1 d_Ma_move_27 (by rw [e27_10]; decide) (by rw [e27_10]; decide) (by rw [e27_10]; rfl) (by decide) ?_
    exact J_241 σ H locs h hP hD hS ls (lv_sub hl [] rfl)
  replace h := h.2 e27_10
  by_cases e27_11 : x_2 = 11
  · skip
    have h := h.1 e27_11
    refine lv_tableIn (off := 214) (tgt := 241) G.1 G.2.1 d_Ma_move_27 (by rw [e27_11]; decide) (by rw [e27_11]; decide) (by rw [e27_11]; rfl) (by decide) ?_
    exact J_241 σ H locs h hP hD hS ls (lv_sub hl [] rfl)
  replace h := h.2 e27_11
  by_cases e27_12 : x_2 = 12
  · skip
    have h := h.1 e27_12
    refine lv_tableIn (off := 214) (tgt := 241) G.1 G.2.1 d_Ma_move_27 (by rw [e27_12]; decide) (by rw [e27_12]; decide) (by rw [e27_12]; rfl) (by decide) ?_
    exact J_241 σ H locs h hP hD hS ls (lv_sub hl [] rfl)
  replace h := h.2 e27_12
  by_cases e27_13 : x_2 = 13
  · skip
    have h := h.1 e27_13
    refine lv_tableIn (off := 214) (tgt := 241) G.1 G.2.1 d_Ma_move_27 (by rw [e27_13]; decide) (by rw [e27_13]; decide) (by rw [e27_13]; rfl) (by decide) ?_
    exact J_241 σ H locs h hP hD hS ls (lv_sub hl [] rfl)
  replace h := h.2 e27_13
  by_cases e27_14 : x_2 = 14
  · skip
    have h := h.1 e27_14
    refine lv_tableIn (off := 214) (tgt := 241) G.1 G.2.1 d_Ma_move_27 (by rw [e27_14]; decide) (by rw [e27_14]; decide) (by rw [e27_14]; rfl) (by decide) ?_
    exact J_241 σ H locs h hP hD hS ls (lv_sub hl [] rfl)
  replace h := h.2 e27_14
  by_cases e27_15 : x_2 = 15
  · skip
    have h := h.1 e27_15
    refine lv_tableIn (off := 214) (tgt := 241) G.1 G.2.1 d_Ma_move_27 (by rw [e27_15]; decide) (by rw [e27_15]; decide) (by rw [e27_15]; rfl) (by decide) ?_
    exact J_241 σ H locs h hP hD hS ls (lv_sub hl [] rfl)
  replace h := h.2 e27_15
  by_cases e27_16 : x_2 = 16
  · skip
    have h := h.1 e27_16
    refine lv_tableIn (off := 214) (tgt := 241) G.1 G.2.1 d_Ma_move_27 (by rw [e27_16]; decide) (by rw [e27_16]; decide) (by rw [e27_16]; rfl) (by decide) ?_
    exact J_241 σ H locs h hP hD hS ls (lv_sub hl [] rfl)
  replace h := h.2 e27_16
  by_cases e27_17 : x_2 = 17
  · skip
    have h := h.1 e27_17
    refine lv_tableIn (off := 214) (tgt := 241) G.1 G.2.1 d_Ma_move_27 (by rw [e27_17]; decide) (by rw [e27_17]; decide) (by rw [e27_17]; rfl) (by decide) ?_
    exact J_241 σ H locs h hP hD hS ls (lv_sub hl [] rfl)
  replace h := h.2 e27_17
  by_cases e27_18 : x_2 = 18
  · skip
    have h := h.1 e27_18
    refine lv_tableIn (off := 214) (tgt := 241) G.1 G.2.1 d_Ma_move_27 (by rw [e27_18]; decide) (by rw [e27_18]; decide) (by rw [e27_18]; rfl) (by decide) ?_
    exact J_241 σ H locs h hP hD hS ls (lv_sub hl [] rfl)
  replace h := h.2 e27_18
  by_cases e27_19 : x_2 = 19
  · skip
    have h := h.1 e27_19
    refine lv_tableIn (off := 175) (tgt := 202) G.1 G.2.1 d_Ma_move_27 (by rw [e27_19]; decide) (by rw [e27_19]; decide) (by rw [e27_19]; rfl) (by decide) ?_
    refine lv_aload_n G.1 G.2.1 d_Ma_move_202 rfl (lv_at hl 2 rfl) ?_
    refine ucVl (As := []) (rest := []) G hP hD hS (cu_Ru_pop l D g ad y _ σ a1 H.size h_a1 h) w9_Ru_pop q1898 ⟨Nat.le_of_ble_eq_true rfl, Nat.le_of_ble_eq_true rfl⟩ rfl rfl h_a1 (q := (RRu, TRu, 19)) rfl rfl hl.1 rfl (Nat.le_of_ble_eq_true rfl) rfl ⟨Nat.le_refl _, Nat.le_refl _⟩ d_Ma_move_203 (fun r_28 s_29 H locs h hP hD hS => ?_)
    refine lv_pop2_2 G.1 G.2.1 d_Ma_move_206 rfl ?_
    refine lv_goto (tgt := 241) G.1 G.2.1 d_Ma_move_207 (by decide) ?_
    exact J_241 s_29 H locs h hP hD hS ls (lv_sub hl [] rfl)
  replace h := h.2 e27_19
  by_cases e27_20 : x_2 = 20
  · skip
    have h := h.1 e27_20
    refine lv_tableIn (off := 183) (tgt := 210) G.1 G.2.1 d_Ma_move_27 (by rw [e27_20]; decide) (by rw [e27_20]; decide) (by rw [e27_20]; rfl) (by decide) ?_
    refine lv_aload_n G.1 G.2.1 d_Ma_move_210 rfl (lv_at hl 2 rfl) ?_
    refine lv_aload_n G.1 G.2.1 d_Ma_move_211 rfl (lv_at hl 2 rfl) ?_
    refine lv_iconst (v := 0) G.1 G.2.1 d_Ma_move_212 (by decide) ?_
    refine ucVl (As := [.int 0]) (rest := [.ref (ad a1)]) G hP hD hS (cu_Ru_fromTop l D g ad y _ σ a1 0 H.size h_a1 h) w9_Ru_fromTop q1841 ⟨Nat.le_of_ble_eq_true rfl, Nat.le_of_ble_eq_true rfl⟩ rfl rfl h_a1 (q := (RRu, TRu, 19)) rfl rfl hl.1 rfl (Nat.le_of_ble_eq_true rfl) rfl ⟨Nat.le_refl _, Nat.le_refl _⟩ d_Ma_move_213 (fun r_30 s_31 H locs h hP hD hS => ?_)
    refine ucVv (As := [.long r_30]) (rest := []) G hP hD hS (cu_Ru_push l D g ad y _ s_31 a1 r_30 H.size h_a1 h) w9_Ru_push q1932 ⟨Nat.le_of_ble_eq_true rfl, Nat.le_of_ble_eq_true rfl⟩ rfl rfl h_a1 (q := (RRu, TRu, 19)) rfl rfl hl.1 rfl (Nat.le_of_ble_eq_true rfl) rfl ⟨Nat.le_refl _, Nat.le_refl _⟩ d_Ma_move_216 (fun s_33 H locs h hP hD hS => ?_)
    refine lv_goto (tgt := 241) G.1 G.2.1 d_Ma_move_219 (by decide) ?_
    exact J_241 s_33 H locs h hP hD hS ls (lv_sub hl [] rfl)
  replace h := h.2 e27_20
  by_cases e27_21 : x_2 = 21
  · skip
    have h := h.1 e27_21
    refine lv_tableIn (off := 195) (tgt := 222) G.1 G.2.1 d_Ma_move_27 (by rw [e27_21]; decide) (by rw [e27_21]; decide) (by rw [e27_21]; rfl) (by decide) ?_
    refine lv_aload_n G.1 G.2.1 d_Ma_move_222 rfl (lv_at hl 2 rfl) ?_
    refine lv_aload_n G.1 G.2.1 d_Ma_move_223 rfl (lv_at hl 1 rfl) ?_
    refine ugf (v := .ref (ad (lk a0 0))) G hP h_a0 iMa rfl 0 (by decide) rfl q1065 rfl rfl d_Ma_move_224 ?_
    refine ugf (v := .ref (ad (lk (lk a0 0) 10))) G hP (lk_4_0 h_a0) iWd rfl 10 (by decide) rfl q845 rfl rfl d_Ma_move_227 ?_
    refine ugf (v := .ref (yP y (lk (lk a0 0) 10) 0)) G hP (lk_9_10 (lk_4_0 h_a0)) iIn rfl 0 (by decide) rfl q385 rfl rfl d_Ma_move_230 ?_
    refine lv_iload_n G.1 G.2.1 d_Ma_move_233 rfl (lv_at hl 3 rfl) ?_
    refine uiald G hP (kdp (lk_9_10 (lk_4_0 h_a0)) rfl) (typ (lk_9_10 (lk_4_0 h_a0)) rfl) h d_Ma_move_234 (fun x_34 h => ?_)
    refine W.eq (g2 := F0 m 235 ls [.int x_34, .ref (ad a1)]) rfl ?_
    refine ucSv (As := [.ref (ad a1), .int x_34]) (rest := []) G hP hD hS (cu_Ma_turn l D g ad y _ σ a1 x_34 H.size h_a1 h) w9_Ma_turn q1975 ⟨Nat.le_of_ble_eq_true rfl, Nat.le_of_ble_eq_true rfl⟩ rfl rfl hl.1 rfl (Nat.le_of_ble_eq_true rfl) rfl ⟨Nat.le_refl _, Nat.le_refl _⟩ d_Ma_move_235 (fun s_36 H locs h hP hD hS => ?_)
    refine lv_goto (tgt := 241) G.1 G.2.1 d_Ma_move_238 (by decide) ?_
    exact J_241 s_36 H locs h hP hD hS ls (lv_sub hl [] rfl)
  replace h := h.2 e27_21
  by_cases e27_22 : x_2 = 22
  · skip
    have h := h.1 e27_22
    refine lv_tableIn (off := 195) (tgt := 222) G.1 G.2.1 d_Ma_move_27 (by rw [e27_22]; decide) (by rw [e27_22]; decide) (by rw [e27_22]; rfl) (by decide) ?_
    refine lv_aload_n G.1 G.2.1 d_Ma_move_222 rfl (lv_at hl 2 rfl) ?_
    refine lv_aload_n G.1 G.2.1 d_Ma_move_223 rfl (lv_at hl 1 rfl) ?_
    refine ugf (v := .ref (ad (lk a0 0))) G hP h_a0 iMa rfl 0 (by decide) rfl q1065 rfl rfl d_Ma_move_224 ?_
    refine ugf (v := .ref (ad (lk (lk a0 0) 10))) G hP (lk_4_0 h_a0) iWd rfl 10 (by decide) rfl q845 rfl rfl d_Ma_move_227 ?_
    refine ugf (v := .ref (yP y (lk (lk a0 0) 10) 0)) G hP (lk_9_10 (lk_4_0 h_a0)) iIn rfl 0 (by decide) rfl q385 rfl rfl d_Ma_move_230 ?_
    refine lv_iload_n G.1 G.2.1 d_Ma_move_233 rfl (lv_at hl 3 rfl) ?_
    refine uiald G hP (kdp (lk_9_10 (lk_4_0 h_a0)) rfl) (typ (lk_9_10 (lk_4_0 h_a0)) rfl) h d_Ma_move_234 (fun x_37 h => ?_)
    refine W.eq (g2 := F0 m 235 ls [.int x_37, .ref (ad a1)]) rfl ?_
    refine ucSv (As := [.ref (ad a1), .int x_37]) (rest := []) G hP hD hS (cu_Ma_turn l D g ad y _ σ a1 x_37 H.size h_a1 h) w9_Ma_turn q1975 ⟨Nat.le_of_ble_eq_true rfl, Nat.le_of_ble_eq_true rfl⟩ rfl rfl hl.1 rfl (Nat.le_of_ble_eq_true rfl) rfl ⟨Nat.le_refl _, Nat.le_refl _⟩ d_Ma_move_235 (fun s_39 H locs h hP hD hS => ?_)
    refine lv_goto (tgt := 241) G.1 G.2.1 d_Ma_move_238 (by decide) ?_
    exact J_241 s_39 H locs h hP hD hS ls (lv_sub hl [] rfl)
  replace h := h.2 e27_22
  have te27_1 := lv_neT (a := 1) e27_1 (by decide)
  have te27_2 := lv_neT (a := 2) e27_2 (by decide)
  have te27_3 := lv_neT (a := 3) e27_3 (by decide)
  have te27_4 := lv_neT (a := 4) e27_4 (by decide)
  have te27_5 := lv_neT (a := 5) e27_5 (by decide)
  have te27_6 := lv_neT (a := 6) e27_6 (by decide)
  have te27_7 := lv_neT (a := 7) e27_7 (by decide)
  have te27_8 := lv_neT (a := 8) e27_8 (by decide)
  have te27_9 := lv_neT (a := 9) e27_9 (by decide)
  have te27_10 := lv_neT (a := 10) e27_10 (by decide)
  have te27_11 := lv_neT (a := 11) e27_11 (by decide)
  have te27_12 := lv_neT (a := 12) e27_12 (by decide)
  have te27_13 := lv_neT (a := 13) e27_13 (by decide)
  have te27_14 := lv_neT (a := 14) e27_14 (by decide)
  have te27_15 := lv_neT (a := 15) e27_15 (by decide)
  have te27_16 := lv_neT (a := 16) e27_16 (by decide)
  have te27_17 := lv_neT (a := 17) e27_17 (by decide)
  have te27_18 := lv_neT (a := 18) e27_18 (by decide)
  have te27_19 := lv_neT (a := 19) e27_19 (by decide)
  have te27_20 := lv_neT (a := 20) e27_20 (by decide)
  have te27_21 := lv_neT (a := 21) e27_21 (by decide)
  have te27_22 := lv_neT (a := 22) e27_22 (by decide)
  refine lv_tableOut (tgt := 241) G.1 G.2.1 d_Ma_move_27 (by omega) (by decide) ?_
  exact J_241 σ H locs h hP hD hS ls (lv_sub hl [] rfl)
def y_Ma_reckoned : MethodName := ⟨"ClassWorks$Machine", "reckoned", "(III)I"⟩
abbrev b_Ma_reckoned : ByteArray := prog_6_method_33_code
theorem d_Ma_reckoned_0 : decode b_Ma_reckoned 0 = .ok (.iload_n 0, 1) := by decide +kernel
theorem d_Ma_reckoned_1 : decode b_Ma_reckoned 1 = .ok (.tableswitch 110 8 17 #[55, 59, 63, 67, 79, 59, 91, 95, 99, 103], 55) := by decide +kernel
theorem d_Ma_reckoned_56 : decode b_Ma_reckoned 56 = .ok (.iload_n 1, 1) := by decide +kernel
theorem d_Ma_reckoned_57 : decode b_Ma_reckoned 57 = .ok (.iload_n 2, 1) := by decide +kernel
theorem d_Ma_reckoned_58 : decode b_Ma_reckoned 58 = .ok (.iadd, 1) := by decide +kernel
theorem d_Ma_reckoned_59 : decode b_Ma_reckoned 59 = .ok (.ireturn, 1) := by decide +kernel
theorem d_Ma_reckoned_60 : decode b_Ma_reckoned 60 = .ok (.iload_n 1, 1) := by decide +kernel
theorem d_Ma_reckoned_61 : decode b_Ma_reckoned 61 = .ok (.iload_n 2, 1) := by decide +kernel
theorem d_Ma_reckoned_62 : decode b_Ma_reckoned 62 = .ok (.isub, 1) := by decide +kernel
theorem d_Ma_reckoned_63 : decode b_Ma_reckoned 63 = .ok (.ireturn, 1) := by decide +kernel
theorem d_Ma_reckoned_64 : decode b_Ma_reckoned 64 = .ok (.iload_n 1, 1) := by decide +kernel
theorem d_Ma_reckoned_65 : decode b_Ma_reckoned 65 = .ok (.iload_n 2, 1) := by decide +kernel
theorem d_Ma_reckoned_66 : decode b_Ma_reckoned 66 = .ok (.imul, 1) := by decide +kernel
theorem d_Ma_reckoned_67 : decode b_Ma_reckoned 67 = .ok (.ireturn, 1) := by decide +kernel
theorem d_Ma_reckoned_68 : decode b_Ma_reckoned 68 = .ok (.iload_n 2, 1) := by decide +kernel
theorem d_Ma_reckoned_69 : decode b_Ma_reckoned 69 = .ok (.ifCond .ne 7, 3) := by decide +kernel
theorem d_Ma_reckoned_72 : decode b_Ma_reckoned 72 = .ok (.iconst 0, 1) := by decide +kernel
theorem d_Ma_reckoned_73 : decode b_Ma_reckoned 73 = .ok (.goto 6, 3) := by decide +kernel
theorem d_Ma_reckoned_76 : decode b_Ma_reckoned 76 = .ok (.iload_n 1, 1) := by decide +kernel
theorem d_Ma_reckoned_77 : decode b_Ma_reckoned 77 = .ok (.iload_n 2, 1) := by decide +kernel
theorem d_Ma_reckoned_78 : decode b_Ma_reckoned 78 = .ok (.idiv, 1) := by decide +kernel
theorem d_Ma_reckoned_79 : decode b_Ma_reckoned 79 = .ok (.ireturn, 1) := by decide +kernel
theorem d_Ma_reckoned_80 : decode b_Ma_reckoned 80 = .ok (.iload_n 2, 1) := by decide +kernel
theorem d_Ma_reckoned_81 : decode b_Ma_reckoned 81 = .ok (.ifCond .ne 7, 3) := by decide +kernel
theorem d_Ma_reckoned_84 : decode b_Ma_reckoned 84 = .ok (.iconst 0, 1) := by decide +kernel
theorem d_Ma_reckoned_85 : decode b_Ma_reckoned 85 = .ok (.goto 6, 3) := by decide +kernel
theorem d_Ma_reckoned_88 : decode b_Ma_reckoned 88 = .ok (.iload_n 1, 1) := by decide +kernel
theorem d_Ma_reckoned_89 : decode b_Ma_reckoned 89 = .ok (.iload_n 2, 1) := by decide +kernel
theorem d_Ma_reckoned_90 : decode b_Ma_reckoned 90 = .ok (.irem, 1) := by decide +kernel
theorem d_Ma_reckoned_91 : decode b_Ma_reckoned 91 = .ok (.ireturn, 1) := by decide +kernel
theorem d_Ma_reckoned_92 : decode b_Ma_reckoned 92 = .ok (.iload_n 1, 1) := by decide +kernel
theorem d_Ma_reckoned_93 : decode b_Ma_reckoned 93 = .ok (.iload_n 2, 1) := by decide +kernel
theorem d_Ma_reckoned_94 : decode b_Ma_reckoned 94 = .ok (.iand, 1) := by decide +kernel
theorem d_Ma_reckoned_95 : decode b_Ma_reckoned 95 = .ok (.ireturn, 1) := by decide +kernel
theorem d_Ma_reckoned_96 : decode b_Ma_reckoned 96 = .ok (.iload_n 1, 1) := by decide +kernel
theorem d_Ma_reckoned_97 : decode b_Ma_reckoned 97 = .ok (.iload_n 2, 1) := by decide +kernel
theorem d_Ma_reckoned_98 : decode b_Ma_reckoned 98 = .ok (.ior, 1) := by decide +kernel
theorem d_Ma_reckoned_99 : decode b_Ma_reckoned 99 = .ok (.ireturn, 1) := by decide +kernel
theorem d_Ma_reckoned_100 : decode b_Ma_reckoned 100 = .ok (.iload_n 1, 1) := by decide +kernel
theorem d_Ma_reckoned_101 : decode b_Ma_reckoned 101 = .ok (.iload_n 2, 1) := by decide +kernel
theorem d_Ma_reckoned_102 : decode b_Ma_reckoned 102 = .ok (.ixor, 1) := by decide +kernel
theorem d_Ma_reckoned_103 : decode b_Ma_reckoned 103 = .ok (.ireturn, 1) := by decide +kernel
theorem d_Ma_reckoned_104 : decode b_Ma_reckoned 104 = .ok (.iload_n 1, 1) := by decide +kernel
theorem d_Ma_reckoned_105 : decode b_Ma_reckoned 105 = .ok (.iload_n 2, 1) := by decide +kernel
theorem d_Ma_reckoned_106 : decode b_Ma_reckoned 106 = .ok (.bipush 31, 2) := by decide +kernel
theorem d_Ma_reckoned_108 : decode b_Ma_reckoned 108 = .ok (.iand, 1) := by decide +kernel
theorem d_Ma_reckoned_109 : decode b_Ma_reckoned 109 = .ok (.ishl, 1) := by decide +kernel
theorem d_Ma_reckoned_110 : decode b_Ma_reckoned 110 = .ok (.ireturn, 1) := by decide +kernel
theorem d_Ma_reckoned_111 : decode b_Ma_reckoned 111 = .ok (.iload_n 1, 1) := by decide +kernel
theorem d_Ma_reckoned_112 : decode b_Ma_reckoned 112 = .ok (.iload_n 2, 1) := by decide +kernel
theorem d_Ma_reckoned_113 : decode b_Ma_reckoned 113 = .ok (.bipush 31, 2) := by decide +kernel
theorem d_Ma_reckoned_115 : decode b_Ma_reckoned 115 = .ok (.iand, 1) := by decide +kernel
theorem d_Ma_reckoned_116 : decode b_Ma_reckoned 116 = .ok (.ishr, 1) := by decide +kernel
theorem d_Ma_reckoned_117 : decode b_Ma_reckoned 117 = .ok (.ireturn, 1) := by decide +kernel
abbrev ru_Ma_reckoned : Room := { frames := 0, cells := 0, slots := 0, locals := 0 }
def wj_Ma_reckoned_79 (y : Ly) (Post : St → Int32 → Prop) (s_j79 : St) (z0j79 : Int32) : Prop := Post s_j79 z0j79
def wj_Ma_reckoned_91 (y : Ly) (Post : St → Int32 → Prop) (s_j91 : St) (z0j91 : Int32) : Prop := Post s_j91 z0j91
def wu_Ma_reckoned (y : Ly) (Post : St → Int32 → Prop) (σ : St) (v0 : Int32) (v1 : Int32) (v2 : Int32) : Prop := ((v0 = 8 → Post σ (v1 + v2)) ∧ (¬ (v0 = 8) → ((v0 = 9 → Post σ (v1 - v2)) ∧ (¬ (v0 = 9) → ((v0 = 10 → Post σ (v1 * v2)) ∧ (¬ (v0 = 10) → ((v0 = 11 → ((¬ v2 = 0 → ¬ v2 = 0 ∧ wj_Ma_reckoned_79 y Post σ (v1 / v2)) ∧ (v2 = 0 → wj_Ma_reckoned_79 y Post σ 0))) ∧ (¬ (v0 = 11) → ((v0 = 12 → ((¬ v2 = 0 → ¬ v2 = 0 ∧ wj_Ma_reckoned_91 y Post σ (v1 - v1 / v2 * v2)) ∧ (v2 = 0 → wj_Ma_reckoned_91 y Post σ 0))) ∧ (¬ (v0 = 12) → ((v0 = 13 → Post σ (v1 - v2)) ∧ (¬ (v0 = 13) → ((v0 = 14 → Post σ (v1 &&& v2)) ∧ (¬ (v0 = 14) → ((v0 = 15 → Post σ (v1 ||| v2)) ∧ (¬ (v0 = 15) → ((v0 = 16 → Post σ (v1 ^^^ v2)) ∧ (¬ (v0 = 16) → ((v0 = 17 → Post σ (v1 <<< ((v2 &&& 31) &&& 31))) ∧ (¬ (v0 = 17) → Post σ (v1 >>> ((v2 &&& 31) &&& 31))))))))))))))))))))))
set_option maxHeartbeats 4000000 in
set_option maxRecDepth 100000 in
theorem cu_Ma_reckoned (l : Launch) (D : va_G) (g : Nat → ClassId) (ad : Nat → Nat) (y : Ly) (Post : St → Int32 → Prop) (σ : St) (v0 : Int32) (v1 : Int32) (v2 : Int32) (sz : Nat) (h : wu_Ma_reckoned y Post σ v0 v1 v2) : Met l y_Ma_reckoned (mw y_Ma_reckoned b_Ma_reckoned 3 (some .int)) ru_Ma_reckoned (PC g D [] [.int v0, .int v1, .int v2] sz (ws g ad y σ)) (va_Qi (fun (r : Int32) (u : St) => Post u r) (QW D (va_A (ws g ad y σ) sz) (fun u => ws g ad y u)) (va_A (ws g ad y σ) sz)) 0 0 (va_A (ws g ad y σ) sz) := by
  refine ofI (by decide +kernel) (Nat.le_of_ble_eq_true rfl) ?_
  intro p e s m args below meth c A Q ls H locs G hsz hP hD hS hl hret
  subst hsz
  have hl : lv_has ls 3 [(0, .int v0), (1, .int v1), (2, .int v2)] := hl
  unfold wu_Ma_reckoned at h
  refine lv_iload_n G.1 G.2.1 d_Ma_reckoned_0 rfl (lv_at hl 0 rfl) ?_
  by_cases e1_8 : v0 = 8
  · skip
    have h := h.1 e1_8
    refine lv_tableIn (off := 55) (tgt := 56) G.1 G.2.1 d_Ma_reckoned_1 (by rw [e1_8]; decide) (by rw [e1_8]; decide) (by rw [e1_8]; rfl) (by decide) ?_
    refine lv_iload_n G.1 G.2.1 d_Ma_reckoned_56 rfl (lv_at hl 1 rfl) ?_
    refine lv_iload_n G.1 G.2.1 d_Ma_reckoned_57 rfl (lv_at hl 2 rfl) ?_
    refine lv_iadd G.1 G.2.1 d_Ma_reckoned_58 ?_
    exact hret _ _ _ _ _ _ _ ls h hP hD hS (Nat.le_refl _) (Nat.le_refl _) d_Ma_reckoned_59
  replace h := h.2 e1_8
  by_cases e1_9 : v0 = 9
  · skip
    have h := h.1 e1_9
    refine lv_tableIn (off := 59) (tgt := 60) G.1 G.2.1 d_Ma_reckoned_1 (by rw [e1_9]; decide) (by rw [e1_9]; decide) (by rw [e1_9]; rfl) (by decide) ?_
    refine lv_iload_n G.1 G.2.1 d_Ma_reckoned_60 rfl (lv_at hl 1 rfl) ?_
    refine lv_iload_n G.1 G.2.1 d_Ma_reckoned_61 rfl (lv_at hl 2 rfl) ?_
    refine lv_isub G.1 G.2.1 d_Ma_reckoned_62 ?_
    exact hret _ _ _ _ _ _ _ ls h hP hD hS (Nat.le_refl _) (Nat.le_refl _) d_Ma_reckoned_63
  replace h := h.2 e1_9
  by_cases e1_10 : v0 = 10
  · skip
    have h := h.1 e1_10
    refine lv_tableIn (off := 63) (tgt := 64) G.1 G.2.1 d_Ma_reckoned_1 (by rw [e1_10]; decide) (by rw [e1_10]; decide) (by rw [e1_10]; rfl) (by decide) ?_
    refine lv_iload_n G.1 G.2.1 d_Ma_reckoned_64 rfl (lv_at hl 1 rfl) ?_
    refine lv_iload_n G.1 G.2.1 d_Ma_reckoned_65 rfl (lv_at hl 2 rfl) ?_
    refine lv_imul G.1 G.2.1 d_Ma_reckoned_66 ?_
    exact hret _ _ _ _ _ _ _ ls h hP hD hS (Nat.le_refl _) (Nat.le_refl _) d_Ma_reckoned_67
  replace h := h.2 e1_10
  by_cases e1_11 : v0 = 11
  · skip
    have h := h.1 e1_11
    refine lv_tableIn (off := 67) (tgt := 68) G.1 G.2.1 d_Ma_reckoned_1 (by rw [e1_11]; decide) (by rw [e1_11]; decide) (by rw [e1_11]; rfl) (by decide) ?_
    refine lv_iload_n G.1 G.2.1 d_Ma_reckoned_68 rfl (lv_at hl 2 rfl) ?_
    have J_79 : ∀ (s_j79 : St) (z0j79 : Int32) (H : Heap) (locs : List Loc), wj_Ma_reckoned_79 y Post s_j79 z0j79 → va_P D CL (ws g ad y s_j79) H → va_D A (ws g ad y s_j79) → va_S A s.heap H locs → ∀ ls, lv_has ls 3 [] → W p l e ru_Ma_reckoned s m args below meth c H locs 0 0 Q (F0 m 79 ls [.int z0j79]) := by
      intro s_j79 z0j79 H locs h hP hD hS ls hl
      unfold wj_Ma_reckoned_79 at h
      exact hret _ _ _ _ _ _ _ ls h hP hD hS (Nat.le_refl _) (Nat.le_refl _) d_Ma_reckoned_79
    refine lv_if_ne (tgt := 76) G.1 G.2.1 d_Ma_reckoned_69 (by decide) (fun c69 => ?_) (fun c69 => ?_)
    · skip
      have h := h.1 c69
      refine lv_iload_n G.1 G.2.1 d_Ma_reckoned_76 rfl (lv_at hl 1 rfl) ?_
      refine lv_iload_n G.1 G.2.1 d_Ma_reckoned_77 rfl (lv_at hl 2 rfl) ?_
      obtain ⟨n_1, h⟩ := h
      refine lv_idiv G.1 G.2.1 d_Ma_reckoned_78 n_1 ?_
      exact J_79 σ (v1 / v2) H locs h hP hD hS ls (lv_sub hl [] rfl)
    · skip
      have h := h.2 c69
      refine lv_iconst (v := 0) G.1 G.2.1 d_Ma_reckoned_72 (by decide) ?_
      refine lv_goto (tgt := 79) G.1 G.2.1 d_Ma_reckoned_73 (by decide) ?_
      exact J_79 σ 0 H locs h hP hD hS ls (lv_sub hl [] rfl)
  replace h := h.2 e1_11
  by_cases e1_12 : v0 = 12
  · skip
    have h := h.1 e1_12
    refine lv_tableIn (off := 79) (tgt := 80) G.1 G.2.1 d_Ma_reckoned_1 (by rw [e1_12]; decide) (by rw [e1_12]; decide) (by rw [e1_12]; rfl) (by decide) ?_
    refine lv_iload_n G.1 G.2.1 d_Ma_reckoned_80 rfl (lv_at hl 2 rfl) ?_
    have J_91 : ∀ (s_j91 : St) (z0j91 : Int32) (H : Heap) (locs : List Loc), wj_Ma_reckoned_91 y Post s_j91 z0j91 → va_P D CL (ws g ad y s_j91) H → va_D A (ws g ad y s_j91) → va_S A s.heap H locs → ∀ ls, lv_has ls 3 [] → W p l e ru_Ma_reckoned s m args below meth c H locs 0 0 Q (F0 m 91 ls [.int z0j91]) := by
      intro s_j91 z0j91 H locs h hP hD hS ls hl
      unfold wj_Ma_reckoned_91 at h
      exact hret _ _ _ _ _ _ _ ls h hP hD hS (Nat.le_refl _) (Nat.le_refl _) d_Ma_reckoned_91
    refine lv_if_ne (tgt := 88) G.1 G.2.1 d_Ma_reckoned_81 (by decide) (fun c81 => ?_) (fun c81 => ?_)
    · skip
      have h := h.1 c81
      refine lv_iload_n G.1 G.2.1 d_Ma_reckoned_88 rfl (lv_at hl 1 rfl) ?_
      refine lv_iload_n G.1 G.2.1 d_Ma_reckoned_89 rfl (lv_at hl 2 rfl) ?_
      obtain ⟨n_2, h⟩ := h
      refine lv_irem G.1 G.2.1 d_Ma_reckoned_90 n_2 ?_
      exact J_91 σ (v1 - v1 / v2 * v2) H locs h hP hD hS ls (lv_sub hl [] rfl)
    · skip
      have h := h.2 c81
      refine lv_iconst (v := 0) G.1 G.2.1 d_Ma_reckoned_84 (by decide) ?_
      refine lv_goto (tgt := 91) G.1 G.2.1 d_Ma_reckoned_85 (by decide) ?_
      exact J_91 σ 0 H locs h hP hD hS ls (lv_sub hl [] rfl)
  replace h := h.2 e1_12
  by_cases e1_13 : v0 = 13
  · skip
    have h := h.1 e1_13
    refine lv_tableIn (off := 59) (tgt := 60) G.1 G.2.1 d_Ma_reckoned_1 (by rw [e1_13]; decide) (by rw [e1_13]; decide) (by rw [e1_13]; rfl) (by decide) ?_
    refine lv_iload_n G.1 G.2.1 d_Ma_reckoned_60 rfl (lv_at hl 1 rfl) ?_
    refine lv_iload_n G.1 G.2.1 d_Ma_reckoned_61 rfl (lv_at hl 2 rfl) ?_
    refine lv_isub G.1 G.2.1 d_Ma_reckoned_62 ?_
    exact hret _ _ _ _ _ _ _ ls h hP hD hS (Nat.le_refl _) (Nat.le_refl _) d_Ma_reckoned_63
  replace h := h.2 e1_13
  by_cases e1_14 : v0 = 14
  · skip
    have h := h.1 e1_14
    refine lv_tableIn (off := 91) (tgt := 92) G.1 G.2.1 d_Ma_reckoned_1 (by rw [e1_14]; decide) (by rw [e1_14]; decide) (by rw [e1_14]; rfl) (by decide) ?_
    refine lv_iload_n G.1 G.2.1 d_Ma_reckoned_92 rfl (lv_at hl 1 rfl) ?_
    refine lv_iload_n G.1 G.2.1 d_Ma_reckoned_93 rfl (lv_at hl 2 rfl) ?_
    refine lv_iand G.1 G.2.1 d_Ma_reckoned_94 ?_
    exact hret _ _ _ _ _ _ _ ls h hP hD hS (Nat.le_refl _) (Nat.le_refl _) d_Ma_reckoned_95
  replace h := h.2 e1_14
  by_cases e1_15 : v0 = 15
  · skip
    have h := h.1 e1_15
    refine lv_tableIn (off := 95) (tgt := 96) G.1 G.2.1 d_Ma_reckoned_1 (by rw [e1_15]; decide) (by rw [e1_15]; decide) (by rw [e1_15]; rfl) (by decide) ?_
    refine lv_iload_n G.1 G.2.1 d_Ma_reckoned_96 rfl (lv_at hl 1 rfl) ?_
    refine lv_iload_n G.1 G.2.1 d_Ma_reckoned_97 rfl (lv_at hl 2 rfl) ?_
    refine lv_ior G.1 G.2.1 d_Ma_reckoned_98 ?_
    exact hret _ _ _ _ _ _ _ ls h hP hD hS (Nat.le_refl _) (Nat.le_refl _) d_Ma_reckoned_99
  replace h := h.2 e1_15
  by_cases e1_16 : v0 = 16
  · skip
    have h := h.1 e1_16
    refine lv_tableIn (off := 99) (tgt := 100) G.1 G.2.1 d_Ma_reckoned_1 (by rw [e1_16]; decide) (by rw [e1_16]; decide) (by rw [e1_16]; rfl) (by decide) ?_
    refine lv_iload_n G.1 G.2.1 d_Ma_reckoned_100 rfl (lv_at hl 1 rfl) ?_
    refine lv_iload_n G.1 G.2.1 d_Ma_reckoned_101 rfl (lv_at hl 2 rfl) ?_
    refine lv_ixor G.1 G.2.1 d_Ma_reckoned_102 ?_
    exact hret _ _ _ _ _ _ _ ls h hP hD hS (Nat.le_refl _) (Nat.le_refl _) d_Ma_reckoned_103
  replace h := h.2 e1_16
  by_cases e1_17 : v0 = 17
  · skip
    have h := h.1 e1_17
    refine lv_tableIn (off := 103) (tgt := 104) G.1 G.2.1 d_Ma_reckoned_1 (by rw [e1_17]; decide) (by rw [e1_17]; decide) (by rw [e1_17]; rfl) (by decide) ?_
    refine lv_iload_n G.1 G.2.1 d_Ma_reckoned_104 rfl (lv_at hl 1 rfl) ?_
    refine lv_iload_n G.1 G.2.1 d_Ma_reckoned_105 rfl (lv_at hl 2 rfl) ?_
    refine lv_bipush (v := 31) G.1 G.2.1 d_Ma_reckoned_106 (by decide) ?_
    refine lv_iand G.1 G.2.1 d_Ma_reckoned_108 ?_
    refine lv_ishl G.1 G.2.1 d_Ma_reckoned_109 ?_
    exact hret _ _ _ _ _ _ _ ls h hP hD hS (Nat.le_refl _) (Nat.le_refl _) d_Ma_reckoned_110
  replace h := h.2 e1_17
  have te1_8 := lv_neT (a := 8) e1_8 (by decide)
  have te1_9 := lv_neT (a := 9) e1_9 (by decide)
  have te1_10 := lv_neT (a := 10) e1_10 (by decide)
  have te1_11 := lv_neT (a := 11) e1_11 (by decide)
  have te1_12 := lv_neT (a := 12) e1_12 (by decide)
  have te1_13 := lv_neT (a := 13) e1_13 (by decide)
  have te1_14 := lv_neT (a := 14) e1_14 (by decide)
  have te1_15 := lv_neT (a := 15) e1_15 (by decide)
  have te1_16 := lv_neT (a := 16) e1_16 (by decide)
  have te1_17 := lv_neT (a := 17) e1_17 (by decide)
  refine lv_tableOut (tgt := 111) G.1 G.2.1 d_Ma_reckoned_1 (by omega) (by decide) ?_
  refine lv_iload_n G.1 G.2.1 d_Ma_reckoned_111 rfl (lv_at hl 1 rfl) ?_
  refine lv_iload_n G.1 G.2.1 d_Ma_reckoned_112 rfl (lv_at hl 2 rfl) ?_
  refine lv_bipush (v := 31) G.1 G.2.1 d_Ma_reckoned_113 (by decide) ?_
  refine lv_iand G.1 G.2.1 d_Ma_reckoned_115 ?_
  refine lv_ishr G.1 G.2.1 d_Ma_reckoned_116 ?_
  exact hret _ _ _ _ _ _ _ ls h hP hD hS (Nat.le_refl _) (Nat.le_refl _) d_Ma_reckoned_117
theorem q1981 : Cond.methodLink "ClassWorks$Machine" 404 y_Ma_reckoned ∈ lw_ok := lw_okmem (List.mem_of_getElem? (i := 1981) (by decide +kernel)) rfl
theorem q1983 : Cond.code y_Ma_reckoned b_Ma_reckoned 3 (some .int) ∈ lw_ok := lw_okmem (List.mem_of_getElem? (i := 1983) (by decide +kernel)) rfl
theorem q1982 : Cond.static y_Ma_reckoned ∈ lw_ok := lw_okmem (List.mem_of_getElem? (i := 1982) (by decide +kernel)) rfl
theorem w9_Ma_reckoned : CWv y_Ma_reckoned b_Ma_reckoned 3 (some .int) 3 ∧ Cond.static y_Ma_reckoned ∈ lw_ok := ⟨⟨q1983, q344, by decide +kernel, by decide +kernel, by decide +kernel⟩, q1982⟩
def y_Ma_reckon : MethodName := ⟨"ClassWorks$Machine", "reckon", "(LClassWorks$Runner;I)I"⟩
abbrev b_Ma_reckon : ByteArray := prog_6_method_32_code
theorem d_Ma_reckon_0 : decode b_Ma_reckon 0 = .ok (.aload_n 0, 1) := by decide +kernel
theorem d_Ma_reckon_1 : decode b_Ma_reckon 1 = .ok (.invokevirtual 401, 3) := by decide +kernel
theorem d_Ma_reckon_4 : decode b_Ma_reckon 4 = .ok (.istore_n 2, 1) := by decide +kernel
theorem d_Ma_reckon_5 : decode b_Ma_reckon 5 = .ok (.iload_n 1, 1) := by decide +kernel
theorem d_Ma_reckon_6 : decode b_Ma_reckon 6 = .ok (.bipush 13, 2) := by decide +kernel
theorem d_Ma_reckon_8 : decode b_Ma_reckon 8 = .ok (.if_icmp .ne 7, 3) := by decide +kernel
theorem d_Ma_reckon_11 : decode b_Ma_reckon 11 = .ok (.iconst 0, 1) := by decide +kernel
theorem d_Ma_reckon_12 : decode b_Ma_reckon 12 = .ok (.goto 7, 3) := by decide +kernel
theorem d_Ma_reckon_15 : decode b_Ma_reckon 15 = .ok (.aload_n 0, 1) := by decide +kernel
theorem d_Ma_reckon_16 : decode b_Ma_reckon 16 = .ok (.invokevirtual 401, 3) := by decide +kernel
theorem d_Ma_reckon_19 : decode b_Ma_reckon 19 = .ok (.istore_n 3, 1) := by decide +kernel
theorem d_Ma_reckon_20 : decode b_Ma_reckon 20 = .ok (.iload_n 1, 1) := by decide +kernel
theorem d_Ma_reckon_21 : decode b_Ma_reckon 21 = .ok (.bipush 11, 2) := by decide +kernel
theorem d_Ma_reckon_23 : decode b_Ma_reckon 23 = .ok (.if_icmp .eq 9, 3) := by decide +kernel
theorem d_Ma_reckon_26 : decode b_Ma_reckon 26 = .ok (.iload_n 1, 1) := by decide +kernel
theorem d_Ma_reckon_27 : decode b_Ma_reckon 27 = .ok (.bipush 12, 2) := by decide +kernel
theorem d_Ma_reckon_29 : decode b_Ma_reckon 29 = .ok (.if_icmp .ne 9, 3) := by decide +kernel
theorem d_Ma_reckon_32 : decode b_Ma_reckon 32 = .ok (.iload_n 2, 1) := by decide +kernel
theorem d_Ma_reckon_33 : decode b_Ma_reckon 33 = .ok (.ifCond .ne 5, 3) := by decide +kernel
theorem d_Ma_reckon_36 : decode b_Ma_reckon 36 = .ok (.iconst 3, 1) := by decide +kernel
theorem d_Ma_reckon_37 : decode b_Ma_reckon 37 = .ok (.ireturn, 1) := by decide +kernel
theorem d_Ma_reckon_38 : decode b_Ma_reckon 38 = .ok (.aload_n 0, 1) := by decide +kernel
theorem d_Ma_reckon_39 : decode b_Ma_reckon 39 = .ok (.iload_n 1, 1) := by decide +kernel
theorem d_Ma_reckon_40 : decode b_Ma_reckon 40 = .ok (.iload_n 3, 1) := by decide +kernel
theorem d_Ma_reckon_41 : decode b_Ma_reckon 41 = .ok (.iload_n 2, 1) := by decide +kernel
theorem d_Ma_reckon_42 : decode b_Ma_reckon 42 = .ok (.invokestatic 404, 3) := by decide +kernel
theorem d_Ma_reckon_45 : decode b_Ma_reckon 45 = .ok (.invokevirtual 384, 3) := by decide +kernel
theorem d_Ma_reckon_48 : decode b_Ma_reckon 48 = .ok (.iconst 0, 1) := by decide +kernel
theorem d_Ma_reckon_49 : decode b_Ma_reckon 49 = .ok (.ireturn, 1) := by decide +kernel
abbrev ru_Ma_reckon : Room := { frames := 2, cells := 0, slots := 0, locals := 43 }
def wj_Ma_reckon_38 (y : Ly) (Post : St → Int32 → Prop) (a0 : Nat) (s_j38 : St) (x1j38 : Int32) (x2j38 : Int32) (x3j38 : Int32) : Prop := wu_Ma_reckoned y (fun (s_4 : St) (r_3 : Int32) => wu_Ru_pushNumber y (fun (s_6 : St) => Post s_6 0) s_4 a0 r_3) s_j38 x1j38 x3j38 x2j38
def wj_Ma_reckon_32 (y : Ly) (Post : St → Int32 → Prop) (a0 : Nat) (s_j32 : St) (x1j32 : Int32) (x2j32 : Int32) (x3j32 : Int32) : Prop := ((¬ x2j32 = 0 → wj_Ma_reckon_38 y Post a0 s_j32 x1j32 x2j32 x3j32) ∧ (x2j32 = 0 → Post s_j32 3))
def wj_Ma_reckon_19 (y : Ly) (Post : St → Int32 → Prop) (a0 : Nat) (s_j19 : St) (x1j19 : Int32) (x2j19 : Int32) (z0j19 : Int32) : Prop := ((x1j19 = 11 → wj_Ma_reckon_32 y Post a0 s_j19 x1j19 x2j19 z0j19) ∧ (¬ (x1j19 = 11) → ((¬ x1j19 = 12 → wj_Ma_reckon_38 y Post a0 s_j19 x1j19 x2j19 z0j19) ∧ (x1j19 = 12 → wj_Ma_reckon_32 y Post a0 s_j19 x1j19 x2j19 z0j19))))
def wu_Ma_reckon (y : Ly) (Post : St → Int32 → Prop) (σ : St) (a0 : Nat) (v1 : Int32) : Prop := wu_Ru_popNumber y (fun (s_2 : St) (r_1 : Int32) => ((¬ v1 = 13 → wu_Ru_popNumber y (fun (s_8 : St) (r_7 : Int32) => wj_Ma_reckon_19 y Post a0 s_8 v1 r_1 r_7) s_2 a0) ∧ (v1 = 13 → wj_Ma_reckon_19 y Post a0 s_2 v1 r_1 0))) σ a0
set_option maxHeartbeats 4000000 in
set_option maxRecDepth 100000 in
theorem cu_Ma_reckon (l : Launch) (D : va_G) (g : Nat → ClassId) (ad : Nat → Nat) (y : Ly) (Post : St → Int32 → Prop) (σ : St) (a0 : Nat) (v1 : Int32) (sz : Nat) (h_a0 : cl a0 = 7) (h : wu_Ma_reckon y Post σ a0 v1) : Met l y_Ma_reckon (mw y_Ma_reckon b_Ma_reckon 4 (some .int)) ru_Ma_reckon (PC g D [] [.ref (ad a0), .int v1] sz (ws g ad y σ)) (va_Qi (fun (r : Int32) (u : St) => Post u r) (QW D (va_A (ws g ad y σ) sz) (fun u => ws g ad y u)) (va_A (ws g ad y σ) sz)) 0 0 (va_A (ws g ad y σ) sz) := by
  refine ofI (by decide +kernel) (Nat.le_of_ble_eq_true rfl) ?_
  intro p e s m args below meth c A Q ls H locs G hsz hP hD hS hl hret
  subst hsz
  have hl : lv_has ls 4 [(0, .ref (ad a0)), (1, .int v1)] := hl
  unfold wu_Ma_reckon at h
  refine lv_aload_n G.1 G.2.1 d_Ma_reckon_0 rfl (lv_at hl 0 rfl) ?_
  refine ucVi (As := []) (rest := []) G hP hD hS (cu_Ru_popNumber l D g ad y _ σ a0 H.size h_a0 h) w9_Ru_popNumber q1940 ⟨Nat.le_of_ble_eq_true rfl, Nat.le_of_ble_eq_true rfl⟩ rfl rfl h_a0 (q := (RRu, TRu, 19)) rfl rfl hl.1 rfl (Nat.le_of_ble_eq_true rfl) rfl ⟨Nat.le_refl _, Nat.le_refl _⟩ d_Ma_reckon_1 (fun r_1 s_2 H locs h hP hD hS => ?_)
  refine lv_istore_n (lv' := [(2, .int r_1), (0, .ref (ad a0)), (1, .int v1)]) G.1 G.2.1 d_Ma_reckon_4 rfl hl (by decide) rfl (fun ls hl => ?_)
  refine lv_iload_n G.1 G.2.1 d_Ma_reckon_5 rfl (lv_at hl 2 rfl) ?_
  refine lv_bipush (v := 13) G.1 G.2.1 d_Ma_reckon_6 (by decide) ?_
  have J_19 : ∀ (s_j19 : St) (x1j19 : Int32) (x2j19 : Int32) (z0j19 : Int32) (H : Heap) (locs : List Loc), wj_Ma_reckon_19 y Post a0 s_j19 x1j19 x2j19 z0j19 → va_P D CL (ws g ad y s_j19) H → va_D A (ws g ad y s_j19) → va_S A s.heap H locs → ∀ ls, lv_has ls 4 [(0, .ref (ad a0)), (1, .int x1j19), (2, .int x2j19)] → W p l e ru_Ma_reckon s m args below meth c H locs 0 0 Q (F0 m 19 ls [.int z0j19]) := by
    intro s_j19 x1j19 x2j19 z0j19 H locs h hP hD hS ls hl
    unfold wj_Ma_reckon_19 at h
    refine lv_istore_n (lv' := [(3, .int z0j19), (0, .ref (ad a0)), (1, .int x1j19), (2, .int x2j19)]) G.1 G.2.1 d_Ma_reckon_19 rfl hl (by decide) rfl (fun ls hl => ?_)
    refine lv_iload_n G.1 G.2.1 d_Ma_reckon_20 rfl (lv_at hl 2 rfl) ?_
    refine lv_bipush (v := 11) G.1 G.2.1 d_Ma_reckon_21 (by decide) ?_
    have J_38 : ∀ (s_j38 : St) (x1j38 : Int32) (x2j38 : Int32) (x3j38 : Int32) (H : Heap) (locs : List Loc), wj_Ma_reckon_38 y Post a0 s_j38 x1j38 x2j38 x3j38 → va_P D CL (ws g ad y s_j38) H → va_D A (ws g ad y s_j38) → va_S A s.heap H locs → ∀ ls, lv_has ls 4 [(0, .ref (ad a0)), (1, .int x1j38), (2, .int x2j38), (3, .int x3j38)] → W p l e ru_Ma_reckon s m args below meth c H locs 0 0 Q (F0 m 38 ls []) := by
      intro s_j38 x1j38 x2j38 x3j38 H locs h hP hD hS ls hl
      unfold wj_Ma_reckon_38 at h
      refine lv_aload_n G.1 G.2.1 d_Ma_reckon_38 rfl (lv_at hl 0 rfl) ?_
      refine lv_iload_n G.1 G.2.1 d_Ma_reckon_39 rfl (lv_at hl 1 rfl) ?_
      refine lv_iload_n G.1 G.2.1 d_Ma_reckon_40 rfl (lv_at hl 3 rfl) ?_
      refine lv_iload_n G.1 G.2.1 d_Ma_reckon_41 rfl (lv_at hl 2 rfl) ?_
      refine ucSi (As := [.int x1j38, .int x3j38, .int x2j38]) (rest := [.ref (ad a0)]) G hP hD hS (cu_Ma_reckoned l D g ad y _ s_j38 x1j38 x3j38 x2j38 H.size  h) w9_Ma_reckoned q1981 ⟨Nat.le_of_ble_eq_true rfl, Nat.le_of_ble_eq_true rfl⟩ rfl rfl hl.1 rfl (Nat.le_of_ble_eq_true rfl) rfl ⟨Nat.le_refl _, Nat.le_refl _⟩ d_Ma_reckon_42 (fun r_3 s_4 H locs h hP hD hS => ?_)
      refine ucVv (As := [.int r_3]) (rest := []) G hP hD hS (cu_Ru_pushNumber l D g ad y _ s_4 a0 r_3 H.size h_a0 h) w9_Ru_pushNumber q1955 ⟨Nat.le_of_ble_eq_true rfl, Nat.le_of_ble_eq_true rfl⟩ rfl rfl h_a0 (q := (RRu, TRu, 19)) rfl rfl hl.1 rfl (Nat.le_of_ble_eq_true rfl) rfl ⟨Nat.le_refl _, Nat.le_refl _⟩ d_Ma_reckon_45 (fun s_6 H locs h hP hD hS => ?_)
      refine lv_iconst (v := 0) G.1 G.2.1 d_Ma_reckon_48 (by decide) ?_
      exact hret _ _ _ _ _ _ _ ls h hP hD hS (Nat.le_refl _) (Nat.le_refl _) d_Ma_reckon_49
    have J_32 : ∀ (s_j32 : St) (x1j32 : Int32) (x2j32 : Int32) (x3j32 : Int32) (H : Heap) (locs : List Loc), wj_Ma_reckon_32 y Post a0 s_j32 x1j32 x2j32 x3j32 → va_P D CL (ws g ad y s_j32) H → va_D A (ws g ad y s_j32) → va_S A s.heap H locs → ∀ ls, lv_has ls 4 [(0, .ref (ad a0)), (1, .int x1j32), (2, .int x2j32), (3, .int x3j32)] → W p l e ru_Ma_reckon s m args below meth c H locs 0 0 Q (F0 m 32 ls []) := by
      intro s_j32 x1j32 x2j32 x3j32 H locs h hP hD hS ls hl
      unfold wj_Ma_reckon_32 at h
      refine lv_iload_n G.1 G.2.1 d_Ma_reckon_32 rfl (lv_at hl 2 rfl) ?_
      refine lv_if_ne (tgt := 38) G.1 G.2.1 d_Ma_reckon_33 (by decide) (fun c33 => ?_) (fun c33 => ?_)
      · skip
        have h := h.1 c33
        exact J_38 s_j32 x1j32 x2j32 x3j32 H locs h hP hD hS ls (lv_sub hl [0, 1, 2, 3] rfl)
      · skip
        have h := h.2 c33
        refine lv_iconst (v := 3) G.1 G.2.1 d_Ma_reckon_36 (by decide) ?_
        exact hret _ _ _ _ _ _ _ ls h hP hD hS (Nat.le_refl _) (Nat.le_refl _) d_Ma_reckon_37
    refine lv_icmp_eq (tgt := 32) G.1 G.2.1 d_Ma_reckon_23 (by decide) (fun c23 => ?_) (fun c23 => ?_)
    · skip
      have h := h.1 c23
      exact J_32 s_j19 x1j19 x2j19 z0j19 H locs h hP hD hS ls (lv_sub hl [1, 2, 3, 0] rfl)
    · skip
      have h := h.2 c23
      refine lv_iload_n G.1 G.2.1 d_Ma_reckon_26 rfl (lv_at hl 2 rfl) ?_
      refine lv_bipush (v := 12) G.1 G.2.1 d_Ma_reckon_27 (by decide) ?_
      refine lv_icmp_ne (tgt := 38) G.1 G.2.1 d_Ma_reckon_29 (by decide) (fun c29 => ?_) (fun c29 => ?_)
      · skip
        have h := h.1 c29
        exact J_38 s_j19 x1j19 x2j19 z0j19 H locs h hP hD hS ls (lv_sub hl [1, 2, 3, 0] rfl)
      · skip
        have h := h.2 c29
        exact J_32 s_j19 x1j19 x2j19 z0j19 H locs h hP hD hS ls (lv_sub hl [1, 2, 3, 0] rfl)
  refine lv_icmp_ne (tgt := 15) G.1 G.2.1 d_Ma_reckon_8 (by decide) (fun c8 => ?_) (fun c8 => ?_)
  · skip
    have h := h.1 c8
    refine lv_aload_n G.1 G.2.1 d_Ma_reckon_15 rfl (lv_at hl 1 rfl) ?_
    refine ucVi (As := []) (rest := []) G hP hD hS (cu_Ru_popNumber l D g ad y _ s_2 a0 H.size h_a0 h) w9_Ru_popNumber q1940 ⟨Nat.le_of_ble_eq_true rfl, Nat.le_of_ble_eq_true rfl⟩ rfl rfl h_a0 (q := (RRu, TRu, 19)) rfl rfl hl.1 rfl (Nat.le_of_ble_eq_true rfl) rfl ⟨Nat.le_refl _, Nat.le_refl _⟩ d_Ma_reckon_16 (fun r_7 s_8 H locs h hP hD hS => ?_)
    exact J_19 s_8 v1 r_1 r_7 H locs h hP hD hS ls (lv_sub hl [1, 2, 0] rfl)
  · skip
    have h := h.2 c8
    refine lv_iconst (v := 0) G.1 G.2.1 d_Ma_reckon_11 (by decide) ?_
    refine lv_goto (tgt := 19) G.1 G.2.1 d_Ma_reckon_12 (by decide) ?_
    exact J_19 s_2 v1 r_1 0 H locs h hP hD hS ls (lv_sub hl [1, 2, 0] rfl)
def y_Ma_setFixed : MethodName := ⟨"ClassWorks$Machine", "setFixed", "(III)V"⟩
abbrev b_Ma_setFixed : ByteArray := prog_6_method_19_code
theorem q838 : Cond.fieldLink "ClassWorks$Machine" 289 "ClassWorks$World" "fields" "LClassWorks$Ints;" ∈ lw_ok := lw_okmem (List.mem_of_getElem? (i := 838) (by decide +kernel)) rfl
theorem q1993 : Cond.methodLink "ClassWorks$Machine" 292 y_In_put ∈ lw_ok := lw_okmem (List.mem_of_getElem? (i := 1993) (by decide +kernel)) rfl
theorem d_Ma_setFixed_0 : decode b_Ma_setFixed 0 = .ok (.aload_n 0, 1) := by decide +kernel
theorem d_Ma_setFixed_1 : decode b_Ma_setFixed 1 = .ok (.getfield 69, 3) := by decide +kernel
theorem d_Ma_setFixed_4 : decode b_Ma_setFixed 4 = .ok (.getfield 289, 3) := by decide +kernel
theorem d_Ma_setFixed_7 : decode b_Ma_setFixed 7 = .ok (.aload_n 0, 1) := by decide +kernel
theorem d_Ma_setFixed_8 : decode b_Ma_setFixed 8 = .ok (.getfield 69, 3) := by decide +kernel
theorem d_Ma_setFixed_11 : decode b_Ma_setFixed 11 = .ok (.iload_n 1, 1) := by decide +kernel
theorem d_Ma_setFixed_12 : decode b_Ma_setFixed 12 = .ok (.bipush 8, 2) := by decide +kernel
theorem d_Ma_setFixed_14 : decode b_Ma_setFixed 14 = .ok (.invokevirtual 192, 3) := by decide +kernel
theorem d_Ma_setFixed_17 : decode b_Ma_setFixed 17 = .ok (.iload_n 2, 1) := by decide +kernel
theorem d_Ma_setFixed_18 : decode b_Ma_setFixed 18 = .ok (.bipush 7, 2) := by decide +kernel
theorem d_Ma_setFixed_20 : decode b_Ma_setFixed 20 = .ok (.imul, 1) := by decide +kernel
theorem d_Ma_setFixed_21 : decode b_Ma_setFixed 21 = .ok (.iadd, 1) := by decide +kernel
theorem d_Ma_setFixed_22 : decode b_Ma_setFixed 22 = .ok (.bipush 6, 2) := by decide +kernel
theorem d_Ma_setFixed_24 : decode b_Ma_setFixed 24 = .ok (.iadd, 1) := by decide +kernel
theorem d_Ma_setFixed_25 : decode b_Ma_setFixed 25 = .ok (.iload_n 3, 1) := by decide +kernel
theorem d_Ma_setFixed_26 : decode b_Ma_setFixed 26 = .ok (.invokevirtual 292, 3) := by decide +kernel
theorem d_Ma_setFixed_29 : decode b_Ma_setFixed 29 = .ok (.return_, 1) := by decide +kernel
abbrev ru_Ma_setFixed : Room := { frames := 1, cells := 0, slots := 0, locals := 22 }
def wu_Ma_setFixed (y : Ly) (Post : St → Prop) (σ : St) (a0 : Nat) (v1 : Int32) (v2 : Int32) (v3 : Int32) : Prop := wu_Wd_of y (fun (s_2 : St) (r_1 : Int32) => wu_In_put y (fun (s_4 : St) => Post s_4) s_2 (lk (lk a0 0) 8) ((r_1 + (v2 * 7)) + 6) v3) σ (lk a0 0) v1 8
set_option maxHeartbeats 4000000 in
set_option maxRecDepth 100000 in
theorem cu_Ma_setFixed (l : Launch) (D : va_G) (g : Nat → ClassId) (ad : Nat → Nat) (y : Ly) (Post : St → Prop) (σ : St) (a0 : Nat) (v1 : Int32) (v2 : Int32) (v3 : Int32) (sz : Nat) (h_a0 : cl a0 = 4) (h : wu_Ma_setFixed y Post σ a0 v1 v2 v3) : Met l y_Ma_setFixed (mw y_Ma_setFixed b_Ma_setFixed 4 (none)) ru_Ma_setFixed (PC g D [] [.ref (ad a0), .int v1, .int v2, .int v3] sz (ws g ad y σ)) (va_Qv (fun u : St => Post u) (QW D (va_A (ws g ad y σ) sz) (fun u => ws g ad y u)) (va_A (ws g ad y σ) sz)) 0 0 (va_A (ws g ad y σ) sz) := by
  refine ofV (by decide +kernel) (Nat.le_of_ble_eq_true rfl) ?_
  intro p e s m args below meth c A Q ls H locs G hsz hP hD hS hl hret
  subst hsz
  have hl : lv_has ls 4 [(0, .ref (ad a0)), (1, .int v1), (2, .int v2), (3, .int v3)] := hl
  unfold wu_Ma_setFixed at h
  refine lv_aload_n G.1 G.2.1 d_Ma_setFixed_0 rfl (lv_at hl 0 rfl) ?_
  refine ugf (v := .ref (ad (lk a0 0))) G hP h_a0 iMa rfl 0 (by decide) rfl q1065 rfl rfl d_Ma_setFixed_1 ?_
  refine ugf (v := .ref (ad (lk (lk a0 0) 8))) G hP (lk_4_0 h_a0) iWd rfl 8 (by decide) rfl q838 rfl rfl d_Ma_setFixed_4 ?_
  refine lv_aload_n G.1 G.2.1 d_Ma_setFixed_7 rfl (lv_at hl 0 rfl) ?_
  refine ugf (v := .ref (ad (lk a0 0))) G hP h_a0 iMa rfl 0 (by decide) rfl q1065 rfl rfl d_Ma_setFixed_8 ?_
  refine lv_iload_n G.1 G.2.1 d_Ma_setFixed_11 rfl (lv_at hl 1 rfl) ?_
  refine lv_bipush (v := 8) G.1 G.2.1 d_Ma_setFixed_12 (by decide) ?_
  refine ucVi (As := [.int v1, .int 8]) (rest := [.ref (ad (lk (lk a0 0) 8))]) G hP hD hS (cu_Wd_of l D g ad y _ σ (lk a0 0) v1 8 H.size (lk_4_0 h_a0) h) w9_Wd_of q1810 ⟨Nat.le_of_ble_eq_true rfl, Nat.le_of_ble_eq_true rfl⟩ rfl rfl (lk_4_0 h_a0) (q := (RWd, TWd, 17)) rfl rfl hl.1 rfl (Nat.le_of_ble_eq_true rfl) rfl ⟨Nat.le_refl _, Nat.le_refl _⟩ d_Ma_setFixed_14 (fun r_1 s_2 H locs h hP hD hS => ?_)
  refine lv_iload_n G.1 G.2.1 d_Ma_setFixed_17 rfl (lv_at hl 2 rfl) ?_
  refine lv_bipush (v := 7) G.1 G.2.1 d_Ma_setFixed_18 (by decide) ?_
  refine lv_imul G.1 G.2.1 d_Ma_setFixed_20 ?_
  refine W.eq (g2 := F0 m 21 ls [.int (v2 * 7), .int r_1, .ref (ad (lk (lk a0 0) 8))]) rfl ?_
  refine lv_iadd G.1 G.2.1 d_Ma_setFixed_21 ?_
  refine lv_bipush (v := 6) G.1 G.2.1 d_Ma_setFixed_22 (by decide) ?_
  refine lv_iadd G.1 G.2.1 d_Ma_setFixed_24 ?_
  refine lv_iload_n G.1 G.2.1 d_Ma_setFixed_25 rfl (lv_at hl 3 rfl) ?_
  refine ucVv (As := [.int ((r_1 + (v2 * 7)) + 6), .int v3]) (rest := []) G hP hD hS (cu_In_put l D g ad y _ s_2 (lk (lk a0 0) 8) ((r_1 + (v2 * 7)) + 6) v3 H.size (lk_9_8 (lk_4_0 h_a0)) h) w9_In_put q1993 ⟨Nat.le_of_ble_eq_true rfl, Nat.le_of_ble_eq_true rfl⟩ rfl rfl (lk_9_8 (lk_4_0 h_a0)) (q := (RIn, TIn, 2)) rfl rfl hl.1 rfl (Nat.le_of_ble_eq_true rfl) rfl ⟨Nat.le_refl _, Nat.le_refl _⟩ d_Ma_setFixed_26 (fun s_4 H locs h hP hD hS => ?_)
  exact hret _ _ _ _ _ _ ls h hP hD hS (Nat.le_refl _) (Nat.le_refl _) d_Ma_setFixed_29
def y_Hp_isElement : MethodName := ⟨"ClassWorks$Heap", "isElement", "(II)Z"⟩
abbrev b_Hp_isElement : ByteArray := prog_4_method_15_code
theorem q918 : Cond.fieldLink "ClassWorks$Heap" 18 "ClassWorks$Heap" "length" "[I" ∈ lw_ok := lw_okmem (List.mem_of_getElem? (i := 918) (by decide +kernel)) rfl
theorem d_Hp_isElement_0 : decode b_Hp_isElement 0 = .ok (.iload_n 1, 1) := by decide +kernel
theorem d_Hp_isElement_1 : decode b_Hp_isElement 1 = .ok (.iconst 1, 1) := by decide +kernel
theorem d_Hp_isElement_2 : decode b_Hp_isElement 2 = .ok (.if_icmp .lt 39, 3) := by decide +kernel
theorem d_Hp_isElement_5 : decode b_Hp_isElement 5 = .ok (.iload_n 1, 1) := by decide +kernel
theorem d_Hp_isElement_6 : decode b_Hp_isElement 6 = .ok (.sipush 800, 3) := by decide +kernel
theorem d_Hp_isElement_9 : decode b_Hp_isElement 9 = .ok (.if_icmp .gt 32, 3) := by decide +kernel
theorem d_Hp_isElement_12 : decode b_Hp_isElement 12 = .ok (.aload_n 0, 1) := by decide +kernel
theorem d_Hp_isElement_13 : decode b_Hp_isElement 13 = .ok (.getfield 9, 3) := by decide +kernel
theorem d_Hp_isElement_16 : decode b_Hp_isElement 16 = .ok (.iload_n 1, 1) := by decide +kernel
theorem d_Hp_isElement_17 : decode b_Hp_isElement 17 = .ok (.iaload, 1) := by decide +kernel
theorem d_Hp_isElement_18 : decode b_Hp_isElement 18 = .ok (.bipush (-2), 2) := by decide +kernel
theorem d_Hp_isElement_20 : decode b_Hp_isElement 20 = .ok (.if_icmp .eq 21, 3) := by decide +kernel
theorem d_Hp_isElement_23 : decode b_Hp_isElement 23 = .ok (.iload_n 2, 1) := by decide +kernel
theorem d_Hp_isElement_24 : decode b_Hp_isElement 24 = .ok (.ifCond .lt 17, 3) := by decide +kernel
theorem d_Hp_isElement_27 : decode b_Hp_isElement 27 = .ok (.iload_n 2, 1) := by decide +kernel
theorem d_Hp_isElement_28 : decode b_Hp_isElement 28 = .ok (.aload_n 0, 1) := by decide +kernel
theorem d_Hp_isElement_29 : decode b_Hp_isElement 29 = .ok (.getfield 18, 3) := by decide +kernel
theorem d_Hp_isElement_32 : decode b_Hp_isElement 32 = .ok (.iload_n 1, 1) := by decide +kernel
theorem d_Hp_isElement_33 : decode b_Hp_isElement 33 = .ok (.iaload, 1) := by decide +kernel
theorem d_Hp_isElement_34 : decode b_Hp_isElement 34 = .ok (.if_icmp .ge 7, 3) := by decide +kernel
theorem d_Hp_isElement_37 : decode b_Hp_isElement 37 = .ok (.iconst 1, 1) := by decide +kernel
theorem d_Hp_isElement_38 : decode b_Hp_isElement 38 = .ok (.goto 4, 3) := by decide +kernel
theorem d_Hp_isElement_41 : decode b_Hp_isElement 41 = .ok (.iconst 0, 1) := by decide +kernel
theorem d_Hp_isElement_42 : decode b_Hp_isElement 42 = .ok (.ireturn, 1) := by decide +kernel
abbrev ru_Hp_isElement : Room := { frames := 0, cells := 0, slots := 0, locals := 0 }
def wj_Hp_isElement_42 (y : Ly) (Post : St → Int32 → Prop) (a0 : Nat) (s_j42 : St) (z0j42 : Int32) : Prop := (nb z0j42 ∧ Post s_j42 z0j42)
def wj_Hp_isElement_41 (y : Ly) (Post : St → Int32 → Prop) (a0 : Nat) (s_j41 : St) : Prop := wj_Hp_isElement_42 y Post a0 s_j41 0
def wu_Hp_isElement (y : Ly) (Post : St → Int32 → Prop) (σ : St) (a0 : Nat) (v1 : Int32) (v2 : Int32) : Prop := ((v1 < 1 → wj_Hp_isElement_41 y Post a0 σ) ∧ (¬ (v1 < 1) → ((800 < v1 → wj_Hp_isElement_41 y Post a0 σ) ∧ (¬ (800 < v1) → xA y σ a0 0 v1 (fun x_1 : Int32 => ((x_1 = (-2) → wj_Hp_isElement_41 y Post a0 σ) ∧ (¬ (x_1 = (-2)) → ((v2 < 0 → wj_Hp_isElement_41 y Post a0 σ) ∧ (¬ (v2 < 0) → xA y σ a0 2 v1 (fun x_2 : Int32 => ((x_2 ≤ v2 → wj_Hp_isElement_41 y Post a0 σ) ∧ (¬ (x_2 ≤ v2) → wj_Hp_isElement_42 y Post a0 σ 1))))))))))))
set_option maxHeartbeats 4000000 in
set_option maxRecDepth 100000 in
theorem cu_Hp_isElement (l : Launch) (D : va_G) (g : Nat → ClassId) (ad : Nat → Nat) (y : Ly) (Post : St → Int32 → Prop) (σ : St) (a0 : Nat) (v1 : Int32) (v2 : Int32) (sz : Nat) (h_a0 : cl a0 = 2) (h : wu_Hp_isElement y Post σ a0 v1 v2) : Met l y_Hp_isElement (mw y_Hp_isElement b_Hp_isElement 3 (some (.boolean))) ru_Hp_isElement (PC g D [] [.ref (ad a0), .int v1, .int v2] sz (ws g ad y σ)) (va_Qi (fun (r : Int32) (u : St) => Post u r) (QW D (va_A (ws g ad y σ) sz) (fun u => ws g ad y u)) (va_A (ws g ad y σ) sz)) 0 0 (va_A (ws g ad y σ) sz) := by
  refine ofZ (by decide +kernel) (Nat.le_of_ble_eq_true rfl) ?_
  intro p e s m args below meth c A Q ls H locs G hsz hP hD hS hl hret
  subst hsz
  have hl : lv_has ls 3 [(0, .ref (ad a0)), (1, .int v1), (2, .int v2)] := hl
  unfold wu_Hp_isElement at h
  refine lv_iload_n G.1 G.2.1 d_Hp_isElement_0 rfl (lv_at hl 1 rfl) ?_
  refine lv_iconst (v := 1) G.1 G.2.1 d_Hp_isElement_1 (by decide) ?_
  have J_42 : ∀ (s_j42 : St) (z0j42 : Int32) (H : Heap) (locs : List Loc), wj_Hp_isElement_42 y Post a0 s_j42 z0j42 → va_P D CL (ws g ad y s_j42) H → va_D A (ws g ad y s_j42) → va_S A s.heap H locs → ∀ ls, lv_has ls 3 [] → W p l e ru_Hp_isElement s m args below meth c H locs 0 0 Q (F0 m 42 ls [.int z0j42]) := by
    intro s_j42 z0j42 H locs h hP hD hS ls hl
    unfold wj_Hp_isElement_42 at h
    exact hret _ _ _ _ _ _ _ ls (nb_n h.1) h.2 hP hD hS (Nat.le_refl _) (Nat.le_refl _) d_Hp_isElement_42
  have J_41 : ∀ (s_j41 : St) (H : Heap) (locs : List Loc), wj_Hp_isElement_41 y Post a0 s_j41 → va_P D CL (ws g ad y s_j41) H → va_D A (ws g ad y s_j41) → va_S A s.heap H locs → ∀ ls, lv_has ls 3 [] → W p l e ru_Hp_isElement s m args below meth c H locs 0 0 Q (F0 m 41 ls []) := by
    intro s_j41 H locs h hP hD hS ls hl
    unfold wj_Hp_isElement_41 at h
    refine lv_iconst (v := 0) G.1 G.2.1 d_Hp_isElement_41 (by decide) ?_
    exact J_42 s_j41 0 H locs h hP hD hS ls (lv_sub hl [] rfl)
  refine lv_icmp_lt (tgt := 41) G.1 G.2.1 d_Hp_isElement_2 (by decide) (fun c2 => ?_) (fun c2 => ?_)
  · skip
    have h := h.1 c2
    exact J_41 σ H locs h hP hD hS ls (lv_sub hl [] rfl)
  · skip
    have h := h.2 c2
    refine lv_iload_n G.1 G.2.1 d_Hp_isElement_5 rfl (lv_at hl 1 rfl) ?_
    refine lv_sipush (v := 800) G.1 G.2.1 d_Hp_isElement_6 (by decide) ?_
    refine lv_icmp_gt (tgt := 41) G.1 G.2.1 d_Hp_isElement_9 (by decide) (fun c9 => ?_) (fun c9 => ?_)
    · skip
      have h := h.1 c9
      exact J_41 σ H locs h hP hD hS ls (lv_sub hl [] rfl)
    · skip
      have h := h.2 c9
      refine lv_aload_n G.1 G.2.1 d_Hp_isElement_12 rfl (lv_at hl 0 rfl) ?_
      refine ugf (v := .ref (yP y a0 0)) G hP h_a0 iHp rfl 0 (by decide) rfl q913 rfl rfl d_Hp_isElement_13 ?_
      refine lv_iload_n G.1 G.2.1 d_Hp_isElement_16 rfl (lv_at hl 1 rfl) ?_
      refine uiald G hP (kdp h_a0 rfl) (typ h_a0 rfl) h d_Hp_isElement_17 (fun x_1 h => ?_)
      refine lv_bipush (v := (-2)) G.1 G.2.1 d_Hp_isElement_18 (by decide) ?_
      refine W.eq (g2 := F0 m 20 ls [.int (-2), .int x_1]) rfl ?_
      refine lv_icmp_eq (tgt := 41) G.1 G.2.1 d_Hp_isElement_20 (by decide) (fun c20 => ?_) (fun c20 => ?_)
      · skip
        have h := h.1 c20
        exact J_41 σ H locs h hP hD hS ls (lv_sub hl [] rfl)
      · skip
        have h := h.2 c20
        refine lv_iload_n G.1 G.2.1 d_Hp_isElement_23 rfl (lv_at hl 2 rfl) ?_
        refine lv_if_lt (tgt := 41) G.1 G.2.1 d_Hp_isElement_24 (by decide) (fun c24 => ?_) (fun c24 => ?_)
        · skip
          have h := h.1 c24
          exact J_41 σ H locs h hP hD hS ls (lv_sub hl [] rfl)
        · skip
          have h := h.2 c24
          refine lv_iload_n G.1 G.2.1 d_Hp_isElement_27 rfl (lv_at hl 2 rfl) ?_
          refine lv_aload_n G.1 G.2.1 d_Hp_isElement_28 rfl (lv_at hl 0 rfl) ?_
          refine ugf (v := .ref (yP y a0 2)) G hP h_a0 iHp rfl 2 (by decide) rfl q918 rfl rfl d_Hp_isElement_29 ?_
          refine lv_iload_n G.1 G.2.1 d_Hp_isElement_32 rfl (lv_at hl 1 rfl) ?_
          refine uiald G hP (kdp h_a0 rfl) (typ h_a0 rfl) h d_Hp_isElement_33 (fun x_2 h => ?_)
          refine lv_icmp_ge (tgt := 41) G.1 G.2.1 d_Hp_isElement_34 (by decide) (fun c34 => ?_) (fun c34 => ?_)
          · skip
            have h := h.1 c34
            exact J_41 σ H locs h hP hD hS ls (lv_sub hl [] rfl)
          · skip
            have h := h.2 c34
            refine lv_iconst (v := 1) G.1 G.2.1 d_Hp_isElement_37 (by decide) ?_
            refine lv_goto (tgt := 42) G.1 G.2.1 d_Hp_isElement_38 (by decide) ?_
            exact J_42 σ 1 H locs h hP hD hS ls (lv_sub hl [] rfl)
theorem q1998 : Cond.methodLink "ClassWorks$Heap" 94 y_Hp_isElement ∈ lw_ok := lw_okmem (List.mem_of_getElem? (i := 1998) (by decide +kernel)) rfl
theorem q2001 : Cond.code y_Hp_isElement b_Hp_isElement 3 (some (.boolean)) ∈ lw_ok := lw_okmem (List.mem_of_getElem? (i := 2001) (by decide +kernel)) rfl
theorem q1999 : Cond.instanceMethod y_Hp_isElement ∈ lw_ok := lw_okmem (List.mem_of_getElem? (i := 1999) (by decide +kernel)) rfl
theorem q2000 : Cond.selects y_Hp_isElement.cls y_Hp_isElement y_Hp_isElement ∈ lw_ok := lw_okmem (List.mem_of_getElem? (i := 2000) (by decide +kernel)) rfl
theorem w9_Hp_isElement : CWv y_Hp_isElement b_Hp_isElement 3 (some (.boolean)) 2 ∧ Cond.instanceMethod y_Hp_isElement ∈ lw_ok ∧ Cond.selects y_Hp_isElement.cls y_Hp_isElement y_Hp_isElement ∈ lw_ok := ⟨⟨q2001, q346, by decide +kernel, by decide +kernel, by decide +kernel⟩, q1999, q2000⟩
def y_Hp_put : MethodName := ⟨"ClassWorks$Heap", "put", "(III)V"⟩
abbrev b_Hp_put : ByteArray := prog_4_method_17_code
theorem q921 : Cond.fieldLink "ClassWorks$Heap" 21 "ClassWorks$Heap" "data" "[I" ∈ lw_ok := lw_okmem (List.mem_of_getElem? (i := 921) (by decide +kernel)) rfl
theorem q916 : Cond.fieldLink "ClassWorks$Heap" 15 "ClassWorks$Heap" "base" "[I" ∈ lw_ok := lw_okmem (List.mem_of_getElem? (i := 916) (by decide +kernel)) rfl
theorem d_Hp_put_0 : decode b_Hp_put 0 = .ok (.aload_n 0, 1) := by decide +kernel
theorem d_Hp_put_1 : decode b_Hp_put 1 = .ok (.iload_n 1, 1) := by decide +kernel
theorem d_Hp_put_2 : decode b_Hp_put 2 = .ok (.iload_n 2, 1) := by decide +kernel
theorem d_Hp_put_3 : decode b_Hp_put 3 = .ok (.invokevirtual 94, 3) := by decide +kernel
theorem d_Hp_put_6 : decode b_Hp_put 6 = .ok (.ifCond .eq 17, 3) := by decide +kernel
theorem d_Hp_put_9 : decode b_Hp_put 9 = .ok (.aload_n 0, 1) := by decide +kernel
theorem d_Hp_put_10 : decode b_Hp_put 10 = .ok (.getfield 21, 3) := by decide +kernel
theorem d_Hp_put_13 : decode b_Hp_put 13 = .ok (.aload_n 0, 1) := by decide +kernel
theorem d_Hp_put_14 : decode b_Hp_put 14 = .ok (.getfield 15, 3) := by decide +kernel
theorem d_Hp_put_17 : decode b_Hp_put 17 = .ok (.iload_n 1, 1) := by decide +kernel
theorem d_Hp_put_18 : decode b_Hp_put 18 = .ok (.iaload, 1) := by decide +kernel
theorem d_Hp_put_19 : decode b_Hp_put 19 = .ok (.iload_n 2, 1) := by decide +kernel
theorem d_Hp_put_20 : decode b_Hp_put 20 = .ok (.iadd, 1) := by decide +kernel
theorem d_Hp_put_21 : decode b_Hp_put 21 = .ok (.iload_n 3, 1) := by decide +kernel
theorem d_Hp_put_22 : decode b_Hp_put 22 = .ok (.iastore, 1) := by decide +kernel
theorem d_Hp_put_23 : decode b_Hp_put 23 = .ok (.return_, 1) := by decide +kernel
abbrev ru_Hp_put : Room := { frames := 1, cells := 0, slots := 0, locals := 22 }
def wj_Hp_put_23 (y : Ly) (Post : St → Prop) (a0 : Nat) (s_j23 : St) : Prop := Post s_j23
def wu_Hp_put (y : Ly) (Post : St → Prop) (σ : St) (a0 : Nat) (v1 : Int32) (v2 : Int32) (v3 : Int32) : Prop := wu_Hp_isElement y (fun (s_2 : St) (r_1 : Int32) => ((r_1 = 0 → wj_Hp_put_23 y Post a0 s_2) ∧ (¬ (r_1 = 0) → xA y s_2 a0 1 v1 (fun x_3 : Int32 => xS y s_2 a0 3 (x_3 + v2) v3 (fun s_4 : St => wj_Hp_put_23 y Post a0 s_4))))) σ a0 v1 v2
set_option maxHeartbeats 4000000 in
set_option maxRecDepth 100000 in
theorem cu_Hp_put (l : Launch) (D : va_G) (g : Nat → ClassId) (ad : Nat → Nat) (y : Ly) (Post : St → Prop) (σ : St) (a0 : Nat) (v1 : Int32) (v2 : Int32) (v3 : Int32) (sz : Nat) (h_a0 : cl a0 = 2) (h : wu_Hp_put y Post σ a0 v1 v2 v3) : Met l y_Hp_put (mw y_Hp_put b_Hp_put 4 (none)) ru_Hp_put (PC g D [] [.ref (ad a0), .int v1, .int v2, .int v3] sz (ws g ad y σ)) (va_Qv (fun u : St => Post u) (QW D (va_A (ws g ad y σ) sz) (fun u => ws g ad y u)) (va_A (ws g ad y σ) sz)) 0 0 (va_A (ws g ad y σ) sz) := by
  refine ofV (by decide +kernel) (Nat.le_of_ble_eq_true rfl) ?_
  intro p e s m args below meth c A Q ls H locs G hsz hP hD hS hl hret
  subst hsz
  have hl : lv_has ls 4 [(0, .ref (ad a0)), (1, .int v1), (2, .int v2), (3, .int v3)] := hl
  unfold wu_Hp_put at h
  refine lv_aload_n G.1 G.2.1 d_Hp_put_0 rfl (lv_at hl 0 rfl) ?_
  refine lv_iload_n G.1 G.2.1 d_Hp_put_1 rfl (lv_at hl 1 rfl) ?_
  refine lv_iload_n G.1 G.2.1 d_Hp_put_2 rfl (lv_at hl 2 rfl) ?_
  refine ucVi (As := [.int v1, .int v2]) (rest := []) G hP hD hS (cu_Hp_isElement l D g ad y _ σ a0 v1 v2 H.size h_a0 h) w9_Hp_isElement q1998 ⟨Nat.le_of_ble_eq_true rfl, Nat.le_of_ble_eq_true rfl⟩ rfl rfl h_a0 (q := (RHp, THp, 15)) rfl rfl hl.1 rfl (Nat.le_of_ble_eq_true rfl) rfl ⟨Nat.le_refl _, Nat.le_refl _⟩ d_Hp_put_3 (fun r_1 s_2 H locs h hP hD hS => ?_)
  have J_23 : ∀ (s_j23 : St) (H : Heap) (locs : List Loc), wj_Hp_put_23 y Post a0 s_j23 → va_P D CL (ws g ad y s_j23) H → va_D A (ws g ad y s_j23) → va_S A s.heap H locs → ∀ ls, lv_has ls 4 [] → W p l e ru_Hp_put s m args below meth c H locs 0 0 Q (F0 m 23 ls []) := by
    intro s_j23 H locs h hP hD hS ls hl
    unfold wj_Hp_put_23 at h
    exact hret _ _ _ _ _ _ ls h hP hD hS (Nat.le_refl _) (Nat.le_refl _) d_Hp_put_23
  refine lv_if_eq (tgt := 23) G.1 G.2.1 d_Hp_put_6 (by decide) (fun c6 => ?_) (fun c6 => ?_)
  · skip
    have h := h.1 c6
    exact J_23 s_2 H locs h hP hD hS ls (lv_sub hl [] rfl)
  · skip
    have h := h.2 c6
    refine lv_aload_n G.1 G.2.1 d_Hp_put_9 rfl (lv_at hl 0 rfl) ?_
    refine ugf (v := .ref (yP y a0 3)) G hP h_a0 iHp rfl 3 (by decide) rfl q921 rfl rfl d_Hp_put_10 ?_
    refine lv_aload_n G.1 G.2.1 d_Hp_put_13 rfl (lv_at hl 0 rfl) ?_
    refine ugf (v := .ref (yP y a0 1)) G hP h_a0 iHp rfl 1 (by decide) rfl q916 rfl rfl d_Hp_put_14 ?_
    refine lv_iload_n G.1 G.2.1 d_Hp_put_17 rfl (lv_at hl 1 rfl) ?_
    refine uiald G hP (kdp h_a0 rfl) (typ h_a0 rfl) h d_Hp_put_18 (fun x_3 h => ?_)
    refine W.eq (g2 := F0 m 19 ls [.int x_3, .ref (yP y a0 3)]) rfl ?_
    refine lv_iload_n G.1 G.2.1 d_Hp_put_19 rfl (lv_at hl 2 rfl) ?_
    refine lv_iadd G.1 G.2.1 d_Hp_put_20 ?_
    refine lv_iload_n G.1 G.2.1 d_Hp_put_21 rfl (lv_at hl 3 rfl) ?_
    refine uiast G hP hD hS (kdp h_a0 rfl) (typ h_a0 rfl) h d_Hp_put_22 (fun s_4 H locs h hP hD hS => ?_)
    exact J_23 s_4 H locs h hP hD hS ls (lv_sub hl [] rfl)
def y_Hp_get : MethodName := ⟨"ClassWorks$Heap", "get", "(II)I"⟩
abbrev b_Hp_get : ByteArray := prog_4_method_16_code
theorem d_Hp_get_0 : decode b_Hp_get 0 = .ok (.aload_n 0, 1) := by decide +kernel
theorem d_Hp_get_1 : decode b_Hp_get 1 = .ok (.iload_n 1, 1) := by decide +kernel
theorem d_Hp_get_2 : decode b_Hp_get 2 = .ok (.iload_n 2, 1) := by decide +kernel
theorem d_Hp_get_3 : decode b_Hp_get 3 = .ok (.invokevirtual 94, 3) := by decide +kernel
theorem d_Hp_get_6 : decode b_Hp_get 6 = .ok (.ifCond .eq 19, 3) := by decide +kernel
theorem d_Hp_get_9 : decode b_Hp_get 9 = .ok (.aload_n 0, 1) := by decide +kernel
theorem d_Hp_get_10 : decode b_Hp_get 10 = .ok (.getfield 21, 3) := by decide +kernel
theorem d_Hp_get_13 : decode b_Hp_get 13 = .ok (.aload_n 0, 1) := by decide +kernel
theorem d_Hp_get_14 : decode b_Hp_get 14 = .ok (.getfield 15, 3) := by decide +kernel
theorem d_Hp_get_17 : decode b_Hp_get 17 = .ok (.iload_n 1, 1) := by decide +kernel
theorem d_Hp_get_18 : decode b_Hp_get 18 = .ok (.iaload, 1) := by decide +kernel
theorem d_Hp_get_19 : decode b_Hp_get 19 = .ok (.iload_n 2, 1) := by decide +kernel
theorem d_Hp_get_20 : decode b_Hp_get 20 = .ok (.iadd, 1) := by decide +kernel
theorem d_Hp_get_21 : decode b_Hp_get 21 = .ok (.iaload, 1) := by decide +kernel
theorem d_Hp_get_22 : decode b_Hp_get 22 = .ok (.goto 4, 3) := by decide +kernel
theorem d_Hp_get_25 : decode b_Hp_get 25 = .ok (.iconst 0, 1) := by decide +kernel
theorem d_Hp_get_26 : decode b_Hp_get 26 = .ok (.ireturn, 1) := by decide +kernel
abbrev ru_Hp_get : Room := { frames := 1, cells := 0, slots := 0, locals := 22 }
def wj_Hp_get_26 (y : Ly) (Post : St → Int32 → Prop) (a0 : Nat) (s_j26 : St) (z0j26 : Int32) : Prop := Post s_j26 z0j26
def wu_Hp_get (y : Ly) (Post : St → Int32 → Prop) (σ : St) (a0 : Nat) (v1 : Int32) (v2 : Int32) : Prop := wu_Hp_isElement y (fun (s_2 : St) (r_1 : Int32) => ((r_1 = 0 → wj_Hp_get_26 y Post a0 s_2 0) ∧ (¬ (r_1 = 0) → xA y s_2 a0 1 v1 (fun x_3 : Int32 => xA y s_2 a0 3 (x_3 + v2) (fun x_4 : Int32 => wj_Hp_get_26 y Post a0 s_2 x_4))))) σ a0 v1 v2
set_option maxHeartbeats 4000000 in
set_option maxRecDepth 100000 in
theorem cu_Hp_get (l : Launch) (D : va_G) (g : Nat → ClassId) (ad : Nat → Nat) (y : Ly) (Post : St → Int32 → Prop) (σ : St) (a0 : Nat) (v1 : Int32) (v2 : Int32) (sz : Nat) (h_a0 : cl a0 = 2) (h : wu_Hp_get y Post σ a0 v1 v2) : Met l y_Hp_get (mw y_Hp_get b_Hp_get 3 (some .int)) ru_Hp_get (PC g D [] [.ref (ad a0), .int v1, .int v2] sz (ws g ad y σ)) (va_Qi (fun (r : Int32) (u : St) => Post u r) (QW D (va_A (ws g ad y σ) sz) (fun u => ws g ad y u)) (va_A (ws g ad y σ) sz)) 0 0 (va_A (ws g ad y σ) sz) := by
  refine ofI (by decide +kernel) (Nat.le_of_ble_eq_true rfl) ?_
  intro p e s m args below meth c A Q ls H locs G hsz hP hD hS hl hret
  subst hsz
  have hl : lv_has ls 3 [(0, .ref (ad a0)), (1, .int v1), (2, .int v2)] := hl
  unfold wu_Hp_get at h
  refine lv_aload_n G.1 G.2.1 d_Hp_get_0 rfl (lv_at hl 0 rfl) ?_
  refine lv_iload_n G.1 G.2.1 d_Hp_get_1 rfl (lv_at hl 1 rfl) ?_
  refine lv_iload_n G.1 G.2.1 d_Hp_get_2 rfl (lv_at hl 2 rfl) ?_
  refine ucVi (As := [.int v1, .int v2]) (rest := []) G hP hD hS (cu_Hp_isElement l D g ad y _ σ a0 v1 v2 H.size h_a0 h) w9_Hp_isElement q1998 ⟨Nat.le_of_ble_eq_true rfl, Nat.le_of_ble_eq_true rfl⟩ rfl rfl h_a0 (q := (RHp, THp, 15)) rfl rfl hl.1 rfl (Nat.le_of_ble_eq_true rfl) rfl ⟨Nat.le_refl _, Nat.le_refl _⟩ d_Hp_get_3 (fun r_1 s_2 H locs h hP hD hS => ?_)
  have J_26 : ∀ (s_j26 : St) (z0j26 : Int32) (H : Heap) (locs : List Loc), wj_Hp_get_26 y Post a0 s_j26 z0j26 → va_P D CL (ws g ad y s_j26) H → va_D A (ws g ad y s_j26) → va_S A s.heap H locs → ∀ ls, lv_has ls 3 [] → W p l e ru_Hp_get s m args below meth c H locs 0 0 Q (F0 m 26 ls [.int z0j26]) := by
    intro s_j26 z0j26 H locs h hP hD hS ls hl
    unfold wj_Hp_get_26 at h
    exact hret _ _ _ _ _ _ _ ls h hP hD hS (Nat.le_refl _) (Nat.le_refl _) d_Hp_get_26
  refine lv_if_eq (tgt := 25) G.1 G.2.1 d_Hp_get_6 (by decide) (fun c6 => ?_) (fun c6 => ?_)
  · skip
    have h := h.1 c6
    refine lv_iconst (v := 0) G.1 G.2.1 d_Hp_get_25 (by decide) ?_
    exact J_26 s_2 0 H locs h hP hD hS ls (lv_sub hl [] rfl)
  · skip
    have h := h.2 c6
    refine lv_aload_n G.1 G.2.1 d_Hp_get_9 rfl (lv_at hl 0 rfl) ?_
    refine ugf (v := .ref (yP y a0 3)) G hP h_a0 iHp rfl 3 (by decide) rfl q921 rfl rfl d_Hp_get_10 ?_
    refine lv_aload_n G.1 G.2.1 d_Hp_get_13 rfl (lv_at hl 0 rfl) ?_
    refine ugf (v := .ref (yP y a0 1)) G hP h_a0 iHp rfl 1 (by decide) rfl q916 rfl rfl d_Hp_get_14 ?_
    refine lv_iload_n G.1 G.2.1 d_Hp_get_17 rfl (lv_at hl 1 rfl) ?_
    refine uiald G hP (kdp h_a0 rfl) (typ h_a0 rfl) h d_Hp_get_18 (fun x_3 h => ?_)
    refine W.eq (g2 := F0 m 19 ls [.int x_3, .ref (yP y a0 3)]) rfl ?_
    refine lv_iload_n G.1 G.2.1 d_Hp_get_19 rfl (lv_at hl 2 rfl) ?_
    refine lv_iadd G.1 G.2.1 d_Hp_get_20 ?_
    refine uiald G hP (kdp h_a0 rfl) (typ h_a0 rfl) h d_Hp_get_21 (fun x_4 h => ?_)
    refine lv_goto (tgt := 26) G.1 G.2.1 d_Hp_get_22 (by decide) ?_
    exact J_26 s_2 x_4 H locs h hP hD hS ls (lv_sub hl [] rfl)
theorem q730 : Cond.fieldLink "ClassWorks$Machine" 304 "ClassWorks$Finder" "member" "I" ∈ lw_ok := lw_okmem (List.mem_of_getElem? (i := 730) (by decide +kernel)) rfl
theorem q1988 : Cond.methodLink "ClassWorks$Machine" 280 y_Wd_field ∈ lw_ok := lw_okmem (List.mem_of_getElem? (i := 1988) (by decide +kernel)) rfl
theorem q2002 : Cond.methodLink "ClassWorks$Machine" 426 y_Hp_get ∈ lw_ok := lw_okmem (List.mem_of_getElem? (i := 2002) (by decide +kernel)) rfl
theorem q2005 : Cond.code y_Hp_get b_Hp_get 3 (some .int) ∈ lw_ok := lw_okmem (List.mem_of_getElem? (i := 2005) (by decide +kernel)) rfl
theorem q2003 : Cond.instanceMethod y_Hp_get ∈ lw_ok := lw_okmem (List.mem_of_getElem? (i := 2003) (by decide +kernel)) rfl
theorem q2004 : Cond.selects y_Hp_get.cls y_Hp_get y_Hp_get ∈ lw_ok := lw_okmem (List.mem_of_getElem? (i := 2004) (by decide +kernel)) rfl
theorem w9_Hp_get : CWv y_Hp_get b_Hp_get 3 (some .int) 2 ∧ Cond.instanceMethod y_Hp_get ∈ lw_ok ∧ Cond.selects y_Hp_get.cls y_Hp_get y_Hp_get ∈ lw_ok := ⟨⟨q2005, q346, by decide +kernel, by decide +kernel, by decide +kernel⟩, q2003, q2004⟩
theorem q1994 : Cond.methodLink "ClassWorks$Machine" 429 y_Hp_put ∈ lw_ok := lw_okmem (List.mem_of_getElem? (i := 1994) (by decide +kernel)) rfl
theorem q1997 : Cond.code y_Hp_put b_Hp_put 4 (none) ∈ lw_ok := lw_okmem (List.mem_of_getElem? (i := 1997) (by decide +kernel)) rfl
theorem q1995 : Cond.instanceMethod y_Hp_put ∈ lw_ok := lw_okmem (List.mem_of_getElem? (i := 1995) (by decide +kernel)) rfl
theorem q1996 : Cond.selects y_Hp_put.cls y_Hp_put y_Hp_put ∈ lw_ok := lw_okmem (List.mem_of_getElem? (i := 1996) (by decide +kernel)) rfl
theorem w9_Hp_put : CWv y_Hp_put b_Hp_put 4 (none) 3 ∧ Cond.instanceMethod y_Hp_put ∈ lw_ok ∧ Cond.selects y_Hp_put.cls y_Hp_put y_Hp_put ∈ lw_ok := ⟨⟨q1997, q346, by decide +kernel, by decide +kernel, by decide +kernel⟩, q1995, q1996⟩
theorem q1989 : Cond.methodLink "ClassWorks$Machine" 283 y_Ma_setFixed ∈ lw_ok := lw_okmem (List.mem_of_getElem? (i := 1989) (by decide +kernel)) rfl
theorem q1992 : Cond.code y_Ma_setFixed b_Ma_setFixed 4 (none) ∈ lw_ok := lw_okmem (List.mem_of_getElem? (i := 1992) (by decide +kernel)) rfl
theorem q1991 : Cond.instanceMethod y_Ma_setFixed ∈ lw_ok := lw_okmem (List.mem_of_getElem? (i := 1991) (by decide +kernel)) rfl
theorem q100 : Cond.selects y_Ma_setFixed.cls y_Ma_setFixed y_Ma_setFixed ∈ lw_ok := lw_okmem (List.mem_of_getElem? (i := 100) (by decide +kernel)) rfl
theorem w9_Ma_setFixed : CWv y_Ma_setFixed b_Ma_setFixed 4 (none) 3 ∧ Cond.instanceMethod y_Ma_setFixed ∈ lw_ok ∧ Cond.selects y_Ma_setFixed.cls y_Ma_setFixed y_Ma_setFixed ∈ lw_ok := ⟨⟨q1992, q344, by decide +kernel, by decide +kernel, by decide +kernel⟩, q1991, q100⟩
def y_Ma_useField : MethodName := ⟨"ClassWorks$Machine", "useField", "(LClassWorks$Runner;I)I"⟩
abbrev b_Ma_useField : ByteArray := prog_6_method_38_code
theorem d_Ma_useField_0 : decode b_Ma_useField 0 = .ok (.aload_n 0, 1) := by decide +kernel
theorem d_Ma_useField_1 : decode b_Ma_useField 1 = .ok (.getfield 73, 3) := by decide +kernel
theorem d_Ma_useField_4 : decode b_Ma_useField 4 = .ok (.getfield 208, 3) := by decide +kernel
theorem d_Ma_useField_7 : decode b_Ma_useField 7 = .ok (.istore_n 3, 1) := by decide +kernel
theorem d_Ma_useField_8 : decode b_Ma_useField 8 = .ok (.aload_n 0, 1) := by decide +kernel
theorem d_Ma_useField_9 : decode b_Ma_useField 9 = .ok (.getfield 73, 3) := by decide +kernel
theorem d_Ma_useField_12 : decode b_Ma_useField 12 = .ok (.getfield 304, 3) := by decide +kernel
theorem d_Ma_useField_15 : decode b_Ma_useField 15 = .ok (.istore 4, 2) := by decide +kernel
theorem d_Ma_useField_17 : decode b_Ma_useField 17 = .ok (.iload_n 2, 1) := by decide +kernel
theorem d_Ma_useField_18 : decode b_Ma_useField 18 = .ok (.bipush 47, 2) := by decide +kernel
theorem d_Ma_useField_20 : decode b_Ma_useField 20 = .ok (.if_icmp .eq 9, 3) := by decide +kernel
theorem d_Ma_useField_23 : decode b_Ma_useField 23 = .ok (.iload_n 2, 1) := by decide +kernel
theorem d_Ma_useField_24 : decode b_Ma_useField 24 = .ok (.bipush 49, 2) := by decide +kernel
theorem d_Ma_useField_26 : decode b_Ma_useField 26 = .ok (.if_icmp .ne 10, 3) := by decide +kernel
theorem d_Ma_useField_29 : decode b_Ma_useField 29 = .ok (.aload_n 1, 1) := by decide +kernel
theorem d_Ma_useField_30 : decode b_Ma_useField 30 = .ok (.invokevirtual 401, 3) := by decide +kernel
theorem d_Ma_useField_33 : decode b_Ma_useField 33 = .ok (.goto 4, 3) := by decide +kernel
theorem d_Ma_useField_36 : decode b_Ma_useField 36 = .ok (.iconst 0, 1) := by decide +kernel
theorem d_Ma_useField_37 : decode b_Ma_useField 37 = .ok (.istore 5, 2) := by decide +kernel
theorem d_Ma_useField_39 : decode b_Ma_useField 39 = .ok (.aload_n 0, 1) := by decide +kernel
theorem d_Ma_useField_40 : decode b_Ma_useField 40 = .ok (.getfield 69, 3) := by decide +kernel
theorem d_Ma_useField_43 : decode b_Ma_useField 43 = .ok (.iload_n 3, 1) := by decide +kernel
theorem d_Ma_useField_44 : decode b_Ma_useField 44 = .ok (.iload 4, 2) := by decide +kernel
theorem d_Ma_useField_46 : decode b_Ma_useField 46 = .ok (.iconst 5, 1) := by decide +kernel
theorem d_Ma_useField_47 : decode b_Ma_useField 47 = .ok (.invokevirtual 280, 3) := by decide +kernel
theorem d_Ma_useField_50 : decode b_Ma_useField 50 = .ok (.istore 6, 2) := by decide +kernel
theorem d_Ma_useField_52 : decode b_Ma_useField 52 = .ok (.aload_n 0, 1) := by decide +kernel
theorem d_Ma_useField_53 : decode b_Ma_useField 53 = .ok (.getfield 69, 3) := by decide +kernel
theorem d_Ma_useField_56 : decode b_Ma_useField 56 = .ok (.iload_n 3, 1) := by decide +kernel
theorem d_Ma_useField_57 : decode b_Ma_useField 57 = .ok (.iload 4, 2) := by decide +kernel
theorem d_Ma_useField_59 : decode b_Ma_useField 59 = .ok (.iconst 1, 1) := by decide +kernel
theorem d_Ma_useField_60 : decode b_Ma_useField 60 = .ok (.invokevirtual 280, 3) := by decide +kernel
theorem d_Ma_useField_63 : decode b_Ma_useField 63 = .ok (.ifCond .ne 7, 3) := by decide +kernel
theorem d_Ma_useField_66 : decode b_Ma_useField 66 = .ok (.iconst 1, 1) := by decide +kernel
theorem d_Ma_useField_67 : decode b_Ma_useField 67 = .ok (.goto 4, 3) := by decide +kernel
theorem d_Ma_useField_70 : decode b_Ma_useField 70 = .ok (.iconst 0, 1) := by decide +kernel
theorem d_Ma_useField_71 : decode b_Ma_useField 71 = .ok (.istore 7, 2) := by decide +kernel
theorem d_Ma_useField_73 : decode b_Ma_useField 73 = .ok (.iload_n 2, 1) := by decide +kernel
theorem d_Ma_useField_74 : decode b_Ma_useField 74 = .ok (.bipush 49, 2) := by decide +kernel
theorem d_Ma_useField_76 : decode b_Ma_useField 76 = .ok (.if_icmp .ne 14, 3) := by decide +kernel
theorem d_Ma_useField_79 : decode b_Ma_useField 79 = .ok (.aload_n 0, 1) := by decide +kernel
theorem d_Ma_useField_80 : decode b_Ma_useField 80 = .ok (.iload_n 3, 1) := by decide +kernel
theorem d_Ma_useField_81 : decode b_Ma_useField 81 = .ok (.iload 4, 2) := by decide +kernel
theorem d_Ma_useField_83 : decode b_Ma_useField 83 = .ok (.iload 5, 2) := by decide +kernel
theorem d_Ma_useField_85 : decode b_Ma_useField 85 = .ok (.invokevirtual 283, 3) := by decide +kernel
theorem d_Ma_useField_88 : decode b_Ma_useField 88 = .ok (.iconst 0, 1) := by decide +kernel
theorem d_Ma_useField_89 : decode b_Ma_useField 89 = .ok (.ireturn, 1) := by decide +kernel
theorem d_Ma_useField_90 : decode b_Ma_useField 90 = .ok (.iload_n 2, 1) := by decide +kernel
theorem d_Ma_useField_91 : decode b_Ma_useField 91 = .ok (.bipush 48, 2) := by decide +kernel
theorem d_Ma_useField_93 : decode b_Ma_useField 93 = .ok (.if_icmp .ne 20, 3) := by decide +kernel
theorem d_Ma_useField_96 : decode b_Ma_useField 96 = .ok (.aload_n 0, 1) := by decide +kernel
theorem d_Ma_useField_97 : decode b_Ma_useField 97 = .ok (.getfield 69, 3) := by decide +kernel
theorem d_Ma_useField_100 : decode b_Ma_useField 100 = .ok (.iload_n 3, 1) := by decide +kernel
theorem d_Ma_useField_101 : decode b_Ma_useField 101 = .ok (.iload 4, 2) := by decide +kernel
theorem d_Ma_useField_103 : decode b_Ma_useField 103 = .ok (.bipush 6, 2) := by decide +kernel
theorem d_Ma_useField_105 : decode b_Ma_useField 105 = .ok (.invokevirtual 280, 3) := by decide +kernel
theorem d_Ma_useField_108 : decode b_Ma_useField 108 = .ok (.istore 5, 2) := by decide +kernel
theorem d_Ma_useField_110 : decode b_Ma_useField 110 = .ok (.goto 50, 3) := by decide +kernel
theorem d_Ma_useField_113 : decode b_Ma_useField 113 = .ok (.aload_n 1, 1) := by decide +kernel
theorem d_Ma_useField_114 : decode b_Ma_useField 114 = .ok (.invokevirtual 401, 3) := by decide +kernel
theorem d_Ma_useField_117 : decode b_Ma_useField 117 = .ok (.istore 8, 2) := by decide +kernel
theorem d_Ma_useField_119 : decode b_Ma_useField 119 = .ok (.iload 8, 2) := by decide +kernel
theorem d_Ma_useField_121 : decode b_Ma_useField 121 = .ok (.ifCond .ne 5, 3) := by decide +kernel
theorem d_Ma_useField_124 : decode b_Ma_useField 124 = .ok (.iconst 2, 1) := by decide +kernel
theorem d_Ma_useField_125 : decode b_Ma_useField 125 = .ok (.ireturn, 1) := by decide +kernel
theorem d_Ma_useField_126 : decode b_Ma_useField 126 = .ok (.iload_n 2, 1) := by decide +kernel
theorem d_Ma_useField_127 : decode b_Ma_useField 127 = .ok (.bipush 47, 2) := by decide +kernel
theorem d_Ma_useField_129 : decode b_Ma_useField 129 = .ok (.if_icmp .ne 18, 3) := by decide +kernel
theorem d_Ma_useField_132 : decode b_Ma_useField 132 = .ok (.aload_n 0, 1) := by decide +kernel
theorem d_Ma_useField_133 : decode b_Ma_useField 133 = .ok (.getfield 12, 3) := by decide +kernel
theorem d_Ma_useField_136 : decode b_Ma_useField 136 = .ok (.iload 8, 2) := by decide +kernel
theorem d_Ma_useField_138 : decode b_Ma_useField 138 = .ok (.iload 6, 2) := by decide +kernel
theorem d_Ma_useField_140 : decode b_Ma_useField 140 = .ok (.iload 5, 2) := by decide +kernel
theorem d_Ma_useField_142 : decode b_Ma_useField 142 = .ok (.invokevirtual 429, 3) := by decide +kernel
theorem d_Ma_useField_145 : decode b_Ma_useField 145 = .ok (.iconst 0, 1) := by decide +kernel
theorem d_Ma_useField_146 : decode b_Ma_useField 146 = .ok (.ireturn, 1) := by decide +kernel
theorem d_Ma_useField_147 : decode b_Ma_useField 147 = .ok (.aload_n 0, 1) := by decide +kernel
theorem d_Ma_useField_148 : decode b_Ma_useField 148 = .ok (.getfield 12, 3) := by decide +kernel
theorem d_Ma_useField_151 : decode b_Ma_useField 151 = .ok (.iload 8, 2) := by decide +kernel
theorem d_Ma_useField_153 : decode b_Ma_useField 153 = .ok (.iload 6, 2) := by decide +kernel
theorem d_Ma_useField_155 : decode b_Ma_useField 155 = .ok (.invokevirtual 426, 3) := by decide +kernel
theorem d_Ma_useField_158 : decode b_Ma_useField 158 = .ok (.istore 5, 2) := by decide +kernel
theorem d_Ma_useField_160 : decode b_Ma_useField 160 = .ok (.iload 7, 2) := by decide +kernel
theorem d_Ma_useField_162 : decode b_Ma_useField 162 = .ok (.ifCond .eq 12, 3) := by decide +kernel
theorem d_Ma_useField_165 : decode b_Ma_useField 165 = .ok (.aload_n 1, 1) := by decide +kernel
theorem d_Ma_useField_166 : decode b_Ma_useField 166 = .ok (.iload 5, 2) := by decide +kernel
theorem d_Ma_useField_168 : decode b_Ma_useField 168 = .ok (.invokevirtual 384, 3) := by decide +kernel
theorem d_Ma_useField_171 : decode b_Ma_useField 171 = .ok (.goto 9, 3) := by decide +kernel
theorem d_Ma_useField_174 : decode b_Ma_useField 174 = .ok (.aload_n 1, 1) := by decide +kernel
theorem d_Ma_useField_175 : decode b_Ma_useField 175 = .ok (.iload 5, 2) := by decide +kernel
theorem d_Ma_useField_177 : decode b_Ma_useField 177 = .ok (.invokevirtual 336, 3) := by decide +kernel
theorem d_Ma_useField_180 : decode b_Ma_useField 180 = .ok (.iconst 0, 1) := by decide +kernel
theorem d_Ma_useField_181 : decode b_Ma_useField 181 = .ok (.ireturn, 1) := by decide +kernel
abbrev ru_Ma_useField : Room := { frames := 2, cells := 0, slots := 0, locals := 45 }
def wj_Ma_useField_180 (y : Ly) (Post : St → Int32 → Prop) (a0 : Nat) (a1 : Nat) (s_j180 : St) : Prop := Post s_j180 0
def wj_Ma_useField_160 (y : Ly) (Post : St → Int32 → Prop) (a0 : Nat) (a1 : Nat) (s_j160 : St) (x5j160 : Int32) (x7j160 : Int32) : Prop := ((x7j160 = 0 → wu_Ru_pushReference y (fun (s_6 : St) => wj_Ma_useField_180 y Post a0 a1 s_6) s_j160 a1 x5j160) ∧ (¬ (x7j160 = 0) → wu_Ru_pushNumber y (fun (s_8 : St) => wj_Ma_useField_180 y Post a0 a1 s_8) s_j160 a1 x5j160))
def wj_Ma_useField_71 (y : Ly) (Post : St → Int32 → Prop) (a0 : Nat) (a1 : Nat) (s_j71 : St) (x2j71 : Int32) (x3j71 : Int32) (x4j71 : Int32) (x5j71 : Int32) (x6j71 : Int32) (z0j71 : Int32) : Prop := ((¬ x2j71 = 49 → ((¬ x2j71 = 48 → wu_Ru_popNumber y (fun (s_10 : St) (r_9 : Int32) => ((¬ r_9 = 0 → ((¬ x2j71 = 47 → wu_Hp_get y (fun (s_12 : St) (r_11 : Int32) => wj_Ma_useField_160 y Post a0 a1 s_12 r_11 z0j71) s_10 (lk a0 1) r_9 x6j71) ∧ (x2j71 = 47 → wu_Hp_put y (fun (s_14 : St) => Post s_14 0) s_10 (lk a0 1) r_9 x6j71 x5j71))) ∧ (r_9 = 0 → Post s_10 2))) s_j71 a1) ∧ (x2j71 = 48 → wu_Wd_field y (fun (s_16 : St) (r_15 : Int32) => wj_Ma_useField_160 y Post a0 a1 s_16 r_15 z0j71) s_j71 (lk a0 0) x3j71 x4j71 6))) ∧ (x2j71 = 49 → wu_Ma_setFixed y (fun (s_18 : St) => Post s_18 0) s_j71 a0 x3j71 x4j71 x5j71))
def wj_Ma_useField_37 (y : Ly) (Post : St → Int32 → Prop) (a0 : Nat) (a1 : Nat) (s_j37 : St) (x2j37 : Int32) (x3j37 : Int32) (x4j37 : Int32) (z0j37 : Int32) : Prop := wu_Wd_field y (fun (s_2 : St) (r_1 : Int32) => wu_Wd_field y (fun (s_4 : St) (r_3 : Int32) => ((¬ r_3 = 0 → wj_Ma_useField_71 y Post a0 a1 s_4 x2j37 x3j37 x4j37 z0j37 r_1 0) ∧ (r_3 = 0 → wj_Ma_useField_71 y Post a0 a1 s_4 x2j37 x3j37 x4j37 z0j37 r_1 1))) s_2 (lk a0 0) x3j37 x4j37 1) s_j37 (lk a0 0) x3j37 x4j37 5
def wj_Ma_useField_29 (y : Ly) (Post : St → Int32 → Prop) (a0 : Nat) (a1 : Nat) (s_j29 : St) (x2j29 : Int32) (x3j29 : Int32) (x4j29 : Int32) : Prop := wu_Ru_popNumber y (fun (s_20 : St) (r_19 : Int32) => wj_Ma_useField_37 y Post a0 a1 s_20 x2j29 x3j29 x4j29 r_19) s_j29 a1
def wu_Ma_useField (y : Ly) (Post : St → Int32 → Prop) (σ : St) (a0 : Nat) (a1 : Nat) (v2 : Int32) : Prop := ((v2 = 47 → wj_Ma_useField_29 y Post a0 a1 σ v2 (sV σ (lk a0 14) 0) (sV σ (lk a0 14) 1)) ∧ (¬ (v2 = 47) → ((¬ v2 = 49 → wj_Ma_useField_37 y Post a0 a1 σ v2 (sV σ (lk a0 14) 0) (sV σ (lk a0 14) 1) 0) ∧ (v2 = 49 → wj_Ma_useField_29 y Post a0 a1 σ v2 (sV σ (lk a0 14) 0) (sV σ (lk a0 14) 1)))))
set_option maxHeartbeats 4000000 in
set_option maxRecDepth 100000 in
theorem cu_Ma_useField (l : Launch) (D : va_G) (g : Nat → ClassId) (ad : Nat → Nat) (y : Ly) (Post : St → Int32 → Prop) (σ : St) (a0 : Nat) (a1 : Nat) (v2 : Int32) (sz : Nat) (h_a0 : cl a0 = 4) (h_a1 : cl a1 = 7) (h : wu_Ma_useField y Post σ a0 a1 v2) : Met l y_Ma_useField (mw y_Ma_useField b_Ma_useField 9 (some .int)) ru_Ma_useField (PC g D [] [.ref (ad a0), .ref (ad a1), .int v2] sz (ws g ad y σ)) (va_Qi (fun (r : Int32) (u : St) => Post u r) (QW D (va_A (ws g ad y σ) sz) (fun u => ws g ad y u)) (va_A (ws g ad y σ) sz)) 0 0 (va_A (ws g ad y σ) sz) := by
  refine ofI (by decide +kernel) (Nat.le_of_ble_eq_true rfl) ?_
  intro p e s m args below meth c A Q ls H locs G hsz hP hD hS hl hret
  subst hsz
  have hl : lv_has ls 9 [(0, .ref (ad a0)), (1, .ref (ad a1)), (2, .int v2)] := hl
  unfold wu_Ma_useField at h
  refine lv_aload_n G.1 G.2.1 d_Ma_useField_0 rfl (lv_at hl 0 rfl) ?_
  refine ugf (v := .ref (ad (lk a0 14))) G hP h_a0 iMa rfl 14 (by decide) rfl q1090 rfl rfl d_Ma_useField_1 ?_
  refine ugf (v := .int (sV σ (lk a0 14) 0)) G hP (lk_4_14 h_a0) iFi rfl 0 (by decide) rfl q727 rfl rfl d_Ma_useField_4 ?_
  refine lv_istore_n (lv' := [(3, .int (sV σ (lk a0 14) 0)), (0, .ref (ad a0)), (1, .ref (ad a1)), (2, .int v2)]) G.1 G.2.1 d_Ma_useField_7 rfl hl (by decide) rfl (fun ls hl => ?_)
  refine lv_aload_n G.1 G.2.1 d_Ma_useField_8 rfl (lv_at hl 1 rfl) ?_
  refine ugf (v := .ref (ad (lk a0 14))) G hP h_a0 iMa rfl 14 (by decide) rfl q1090 rfl rfl d_Ma_useField_9 ?_
  refine ugf (v := .int (sV σ (lk a0 14) 1)) G hP (lk_4_14 h_a0) iFi rfl 1 (by decide) rfl q730 rfl rfl d_Ma_useField_12 ?_
  refine lv_istore (lv' := [(4, .int (sV σ (lk a0 14) 1)), (3, .int (sV σ (lk a0 14) 0)), (0, .ref (ad a0)), (1, .ref (ad a1)), (2, .int v2)]) G.1 G.2.1 d_Ma_useField_15 hl (by decide) rfl (fun ls hl => ?_)
  refine lv_iload_n G.1 G.2.1 d_Ma_useField_17 rfl (lv_at hl 4 rfl) ?_
  refine lv_bipush (v := 47) G.1 G.2.1 d_Ma_useField_18 (by decide) ?_
  have J_37 : ∀ (s_j37 : St) (x2j37 : Int32) (x3j37 : Int32) (x4j37 : Int32) (z0j37 : Int32) (H : Heap) (locs : List Loc), wj_Ma_useField_37 y Post a0 a1 s_j37 x2j37 x3j37 x4j37 z0j37 → va_P D CL (ws g ad y s_j37) H → va_D A (ws g ad y s_j37) → va_S A s.heap H locs → ∀ ls, lv_has ls 9 [(0, .ref (ad a0)), (1, .ref (ad a1)), (2, .int x2j37), (3, .int x3j37), (4, .int x4j37)] → W p l e ru_Ma_useField s m args below meth c H locs 0 0 Q (F0 m 37 ls [.int z0j37]) := by
    intro s_j37 x2j37 x3j37 x4j37 z0j37 H locs h hP hD hS ls hl
    unfold wj_Ma_useField_37 at h
    refine lv_istore (lv' := [(5, .int z0j37), (0, .ref (ad a0)), (1, .ref (ad a1)), (2, .int x2j37), (3, .int x3j37), (4, .int x4j37)]) G.1 G.2.1 d_Ma_useField_37 hl (by decide) rfl (fun ls hl => ?_)
    refine lv_aload_n G.1 G.2.1 d_Ma_useField_39 rfl (lv_at hl 1 rfl) ?_
    refine ugf (v := .ref (ad (lk a0 0))) G hP h_a0 iMa rfl 0 (by decide) rfl q1065 rfl rfl d_Ma_useField_40 ?_
    refine lv_iload_n G.1 G.2.1 d_Ma_useField_43 rfl (lv_at hl 4 rfl) ?_
    refine lv_iload G.1 G.2.1 d_Ma_useField_44 (lv_at hl 5 rfl) ?_
    refine lv_iconst (v := 5) G.1 G.2.1 d_Ma_useField_46 (by decide) ?_
    refine ucVi (As := [.int x3j37, .int x4j37, .int 5]) (rest := []) G hP hD hS (cu_Wd_field l D g ad y _ s_j37 (lk a0 0) x3j37 x4j37 5 H.size (lk_4_0 h_a0) h) w9_Wd_field q1988 ⟨Nat.le_of_ble_eq_true rfl, Nat.le_of_ble_eq_true rfl⟩ rfl rfl (lk_4_0 h_a0) (q := (RWd, TWd, 17)) rfl rfl hl.1 rfl (Nat.le_of_ble_eq_true rfl) rfl ⟨Nat.le_refl _, Nat.le_refl _⟩ d_Ma_useField_47 (fun r_1 s_2 H locs h hP hD hS => ?_)
    refine lv_istore (lv' := [(6, .int r_1), (5, .int z0j37), (0, .ref (ad a0)), (1, .ref (ad a1)), (2, .int x2j37), (3, .int x3j37), (4, .int x4j37)]) G.1 G.2.1 d_Ma_useField_50 hl (by decide) rfl (fun ls hl => ?_)
    refine lv_aload_n G.1 G.2.1 d_Ma_useField_52 rfl (lv_at hl 2 rfl) ?_
    refine ugf (v := .ref (ad (lk a0 0))) G hP h_a0 iMa rfl 0 (by decide) rfl q1065 rfl rfl d_Ma_useField_53 ?_
    refine lv_iload_n G.1 G.2.1 d_Ma_useField_56 rfl (lv_at hl 5 rfl) ?_
    refine W.eq (g2 := F0 m 57 ls [.int x3j37, .ref (ad (lk a0 0))]) rfl ?_
    refine lv_iload G.1 G.2.1 d_Ma_useField_57 (lv_at hl 6 rfl) ?_
    refine lv_iconst (v := 1) G.1 G.2.1 d_Ma_useField_59 (by decide) ?_
    refine ucVi (As := [.int x3j37, .int x4j37, .int 1]) (rest := []) G hP hD hS (cu_Wd_field l D g ad y _ s_2 (lk a0 0) x3j37 x4j37 1 H.size (lk_4_0 h_a0) h) w9_Wd_field q1988 ⟨Nat.le_of_ble_eq_true rfl, Nat.le_of_ble_eq_true rfl⟩ rfl rfl (lk_4_0 h_a0) (q := (RWd, TWd, 17)) rfl rfl hl.1 rfl (Nat.le_of_ble_eq_true rfl) rfl ⟨Nat.le_refl _, Nat.le_refl _⟩ d_Ma_useField_60 (fun r_3 s_4 H locs h hP hD hS => ?_)
    have J_71 : ∀ (s_j71 : St) (x2j71 : Int32) (x3j71 : Int32) (x4j71 : Int32) (x5j71 : Int32) (x6j71 : Int32) (z0j71 : Int32) (H : Heap) (locs : List Loc), wj_Ma_useField_71 y Post a0 a1 s_j71 x2j71 x3j71 x4j71 x5j71 x6j71 z0j71 → va_P D CL (ws g ad y s_j71) H → va_D A (ws g ad y s_j71) → va_S A s.heap H locs → ∀ ls, lv_has ls 9 [(0, .ref (ad a0)), (1, .ref (ad a1)), (2, .int x2j71), (3, .int x3j71), (4, .int x4j71), (5, .int x5j71), (6, .int x6j71)] → W p l e ru_Ma_useField s m args below meth c H locs 0 0 Q (F0 m 71 ls [.int z0j71]) := by
      intro s_j71 x2j71 x3j71 x4j71 x5j71 x6j71 z0j71 H locs h hP hD hS ls hl
      unfold wj_Ma_useField_71 at h
      refine lv_istore (lv' := [(7, .int z0j71), (0, .ref (ad a0)), (1, .ref (ad a1)), (2, .int x2j71), (3, .int x3j71), (4, .int x4j71), (5, .int x5j71), (6, .int x6j71)]) G.1 G.2.1 d_Ma_useField_71 hl (by decide) rfl (fun ls hl => ?_)
      refine lv_iload_n G.1 G.2.1 d_Ma_useField_73 rfl (lv_at hl 3 rfl) ?_
      refine lv_bipush (v := 49) G.1 G.2.1 d_Ma_useField_74 (by decide) ?_
      refine lv_icmp_ne (tgt := 90) G.1 G.2.1 d_Ma_useField_76 (by decide) (fun c76 => ?_) (fun c76 => ?_)
      · skip
        have h := h.1 c76
        refine lv_iload_n G.1 G.2.1 d_Ma_useField_90 rfl (lv_at hl 3 rfl) ?_
        refine lv_bipush (v := 48) G.1 G.2.1 d_Ma_useField_91 (by decide) ?_
        have J_160 : ∀ (s_j160 : St) (x5j160 : Int32) (x7j160 : Int32) (H : Heap) (locs : List Loc), wj_Ma_useField_160 y Post a0 a1 s_j160 x5j160 x7j160 → va_P D CL (ws g ad y s_j160) H → va_D A (ws g ad y s_j160) → va_S A s.heap H locs → ∀ ls, lv_has ls 9 [(1, .ref (ad a1)), (5, .int x5j160), (7, .int x7j160)] → W p l e ru_Ma_useField s m args below meth c H locs 0 0 Q (F0 m 160 ls []) := by
          intro s_j160 x5j160 x7j160 H locs h hP hD hS ls hl
          unfold wj_Ma_useField_160 at h
          refine lv_iload G.1 G.2.1 d_Ma_useField_160 (lv_at hl 2 rfl) ?_
          have J_180 : ∀ (s_j180 : St) (H : Heap) (locs : List Loc), wj_Ma_useField_180 y Post a0 a1 s_j180 → va_P D CL (ws g ad y s_j180) H → va_D A (ws g ad y s_j180) → va_S A s.heap H locs → ∀ ls, lv_has ls 9 [] → W p l e ru_Ma_useField s m args below meth c H locs 0 0 Q (F0 m 180 ls []) := by
            intro s_j180 H locs h hP hD hS ls hl
            unfold wj_Ma_useField_180 at h
            refine lv_iconst (v := 0) G.1 G.2.1 d_Ma_useField_180 (by decide) ?_
            exact hret _ _ _ _ _ _ _ ls h hP hD hS (Nat.le_refl _) (Nat.le_refl _) d_Ma_useField_181
          refine lv_if_eq (tgt := 174) G.1 G.2.1 d_Ma_useField_162 (by decide) (fun c162 => ?_) (fun c162 => ?_)
          · skip
            have h := h.1 c162
            refine lv_aload_n G.1 G.2.1 d_Ma_useField_174 rfl (lv_at hl 0 rfl) ?_
            refine lv_iload G.1 G.2.1 d_Ma_useField_175 (lv_at hl 1 rfl) ?_
            refine ucVv (As := [.int x5j160]) (rest := []) G hP hD hS (cu_Ru_pushReference l D g ad y _ s_j160 a1 x5j160 H.size h_a1 h) w9_Ru_pushReference q1961 ⟨Nat.le_of_ble_eq_true rfl, Nat.le_of_ble_eq_true rfl⟩ rfl rfl h_a1 (q := (RRu, TRu, 19)) rfl rfl hl.1 rfl (Nat.le_of_ble_eq_true rfl) rfl ⟨Nat.le_refl _, Nat.le_refl _⟩ d_Ma_useField_177 (fun s_6 H locs h hP hD hS => ?_)
            exact J_180 s_6 H locs h hP hD hS ls (lv_sub hl [] rfl)
          · skip
            have h := h.2 c162
            refine lv_aload_n G.1 G.2.1 d_Ma_useField_165 rfl (lv_at hl 0 rfl) ?_
            refine lv_iload G.1 G.2.1 d_Ma_useField_166 (lv_at hl 1 rfl) ?_
            refine ucVv (As := [.int x5j160]) (rest := []) G hP hD hS (cu_Ru_pushNumber l D g ad y _ s_j160 a1 x5j160 H.size h_a1 h) w9_Ru_pushNumber q1955 ⟨Nat.le_of_ble_eq_true rfl, Nat.le_of_ble_eq_true rfl⟩ rfl rfl h_a1 (q := (RRu, TRu, 19)) rfl rfl hl.1 rfl (Nat.le_of_ble_eq_true rfl) rfl ⟨Nat.le_refl _, Nat.le_refl _⟩ d_Ma_useField_168 (fun s_8 H locs h hP hD hS => ?_)
            refine lv_goto (tgt := 180) G.1 G.2.1 d_Ma_useField_171 (by decide) ?_
            exact J_180 s_8 H locs h hP hD hS ls (lv_sub hl [] rfl)
        refine lv_icmp_ne (tgt := 113) G.1 G.2.1 d_Ma_useField_93 (by decide) (fun c93 => ?_) (fun c93 => ?_)
        · skip
          have h := h.1 c93
          refine lv_aload_n G.1 G.2.1 d_Ma_useField_113 rfl (lv_at hl 2 rfl) ?_
          refine ucVi (As := []) (rest := []) G hP hD hS (cu_Ru_popNumber l D g ad y _ s_j71 a1 H.size h_a1 h) w9_Ru_popNumber q1940 ⟨Nat.le_of_ble_eq_true rfl, Nat.le_of_ble_eq_true rfl⟩ rfl rfl h_a1 (q := (RRu, TRu, 19)) rfl rfl hl.1 rfl (Nat.le_of_ble_eq_true rfl) rfl ⟨Nat.le_refl _, Nat.le_refl _⟩ d_Ma_useField_114 (fun r_9 s_10 H locs h hP hD hS => ?_)
          refine lv_istore (lv' := [(8, .int r_9), (7, .int z0j71), (0, .ref (ad a0)), (1, .ref (ad a1)), (2, .int x2j71), (3, .int x3j71), (4, .int x4j71), (5, .int x5j71), (6, .int x6j71)]) G.1 G.2.1 d_Ma_useField_117 hl (by decide) rfl (fun ls hl => ?_)
          refine lv_iload G.1 G.2.1 d_Ma_useField_119 (lv_at hl 0 rfl) ?_
          refine W.eq (g2 := F0 m 121 ls [.int r_9]) rfl ?_
          refine lv_if_ne (tgt := 126) G.1 G.2.1 d_Ma_useField_121 (by decide) (fun c121 => ?_) (fun c121 => ?_)
          · skip
            have h := h.1 c121
            refine lv_iload_n G.1 G.2.1 d_Ma_useField_126 rfl (lv_at hl 4 rfl) ?_
            refine lv_bipush (v := 47) G.1 G.2.1 d_Ma_useField_127 (by decide) ?_
            refine lv_icmp_ne (tgt := 147) G.1 G.2.1 d_Ma_useField_129 (by decide) (fun c129 => ?_) (fun c129 => ?_)
            · skip
              have h := h.1 c129
              refine lv_aload_n G.1 G.2.1 d_Ma_useField_147 rfl (lv_at hl 2 rfl) ?_
              refine ugf (v := .ref (ad (lk a0 1))) G hP h_a0 iMa rfl 1 (by decide) rfl q1067 rfl rfl d_Ma_useField_148 ?_
              refine lv_iload G.1 G.2.1 d_Ma_useField_151 (lv_at hl 0 rfl) ?_
              refine lv_iload G.1 G.2.1 d_Ma_useField_153 (lv_at hl 8 rfl) ?_
              refine ucVi (As := [.int r_9, .int x6j71]) (rest := []) G hP hD hS (cu_Hp_get l D g ad y _ s_10 (lk a0 1) r_9 x6j71 H.size (lk_4_1 h_a0) h) w9_Hp_get q2002 ⟨Nat.le_of_ble_eq_true rfl, Nat.le_of_ble_eq_true rfl⟩ rfl rfl (lk_4_1 h_a0) (q := (RHp, THp, 15)) rfl rfl hl.1 rfl (Nat.le_of_ble_eq_true rfl) rfl ⟨Nat.le_refl _, Nat.le_refl _⟩ d_Ma_useField_155 (fun r_11 s_12 H locs h hP hD hS => ?_)
              refine lv_istore (lv' := [(5, .int r_11), (8, .int r_9), (7, .int z0j71), (0, .ref (ad a0)), (1, .ref (ad a1)), (2, .int x2j71), (3, .int x3j71), (4, .int x4j71), (6, .int x6j71)]) G.1 G.2.1 d_Ma_useField_158 hl (by decide) rfl (fun ls hl => ?_)
              exact J_160 s_12 r_11 z0j71 H locs h hP hD hS ls (lv_sub hl [4, 0, 2] rfl)
            · skip
              have h := h.2 c129
              refine lv_aload_n G.1 G.2.1 d_Ma_useField_132 rfl (lv_at hl 2 rfl) ?_
              refine ugf (v := .ref (ad (lk a0 1))) G hP h_a0 iMa rfl 1 (by decide) rfl q1067 rfl rfl d_Ma_useField_133 ?_
              refine lv_iload G.1 G.2.1 d_Ma_useField_136 (lv_at hl 0 rfl) ?_
              refine lv_iload G.1 G.2.1 d_Ma_useField_138 (lv_at hl 8 rfl) ?_
              refine lv_iload G.1 G.2.1 d_Ma_useField_140 (lv_at hl 7 rfl) ?_
              refine ucVv (As := [.int r_9, .int x6j71, .int x5j71]) (rest := []) G hP hD hS (cu_Hp_put l D g ad y _ s_10 (lk a0 1) r_9 x6j71 x5j71 H.size (lk_4_1 h_a0) h) w9_Hp_put q1994 ⟨Nat.le_of_ble_eq_true rfl, Nat.le_of_ble_eq_true rfl⟩ rfl rfl (lk_4_1 h_a0) (q := (RHp, THp, 15)) rfl rfl hl.1 rfl (Nat.le_of_ble_eq_true rfl) rfl ⟨Nat.le_refl _, Nat.le_refl _⟩ d_Ma_useField_142 (fun s_14 H locs h hP hD hS => ?_)
              refine lv_iconst (v := 0) G.1 G.2.1 d_Ma_useField_145 (by decide) ?_
              exact hret _ _ _ _ _ _ _ ls h hP hD hS (Nat.le_refl _) (Nat.le_refl _) d_Ma_useField_146
          · skip
            have h := h.2 c121
            refine lv_iconst (v := 2) G.1 G.2.1 d_Ma_useField_124 (by decide) ?_
            exact hret _ _ _ _ _ _ _ ls h hP hD hS (Nat.le_refl _) (Nat.le_refl _) d_Ma_useField_125
        · skip
          have h := h.2 c93
          refine lv_aload_n G.1 G.2.1 d_Ma_useField_96 rfl (lv_at hl 1 rfl) ?_
          refine ugf (v := .ref (ad (lk a0 0))) G hP h_a0 iMa rfl 0 (by decide) rfl q1065 rfl rfl d_Ma_useField_97 ?_
          refine lv_iload_n G.1 G.2.1 d_Ma_useField_100 rfl (lv_at hl 4 rfl) ?_
          refine lv_iload G.1 G.2.1 d_Ma_useField_101 (lv_at hl 5 rfl) ?_
          refine W.eq (g2 := F0 m 103 ls [.int x4j71, .int x3j71, .ref (ad (lk a0 0))]) rfl ?_
          refine lv_bipush (v := 6) G.1 G.2.1 d_Ma_useField_103 (by decide) ?_
          refine ucVi (As := [.int x3j71, .int x4j71, .int 6]) (rest := []) G hP hD hS (cu_Wd_field l D g ad y _ s_j71 (lk a0 0) x3j71 x4j71 6 H.size (lk_4_0 h_a0) h) w9_Wd_field q1988 ⟨Nat.le_of_ble_eq_true rfl, Nat.le_of_ble_eq_true rfl⟩ rfl rfl (lk_4_0 h_a0) (q := (RWd, TWd, 17)) rfl rfl hl.1 rfl (Nat.le_of_ble_eq_true rfl) rfl ⟨Nat.le_refl _, Nat.le_refl _⟩ d_Ma_useField_105 (fun r_15 s_16 H locs h hP hD hS => ?_)
          refine lv_istore (lv' := [(5, .int r_15), (7, .int z0j71), (0, .ref (ad a0)), (1, .ref (ad a1)), (2, .int x2j71), (3, .int x3j71), (4, .int x4j71), (6, .int x6j71)]) G.1 G.2.1 d_Ma_useField_108 hl (by decide) rfl (fun ls hl => ?_)
          refine lv_goto (tgt := 160) G.1 G.2.1 d_Ma_useField_110 (by decide) ?_
          exact J_160 s_16 r_15 z0j71 H locs h hP hD hS ls (lv_sub hl [3, 0, 1] rfl)
      · skip
        have h := h.2 c76
        refine lv_aload_n G.1 G.2.1 d_Ma_useField_79 rfl (lv_at hl 1 rfl) ?_
        refine lv_iload_n G.1 G.2.1 d_Ma_useField_80 rfl (lv_at hl 4 rfl) ?_
        refine lv_iload G.1 G.2.1 d_Ma_useField_81 (lv_at hl 5 rfl) ?_
        refine lv_iload G.1 G.2.1 d_Ma_useField_83 (lv_at hl 6 rfl) ?_
        refine ucVv (As := [.int x3j71, .int x4j71, .int x5j71]) (rest := []) G hP hD hS (cu_Ma_setFixed l D g ad y _ s_j71 a0 x3j71 x4j71 x5j71 H.size h_a0 h) w9_Ma_setFixed q1989 ⟨Nat.le_of_ble_eq_true rfl, Nat.le_of_ble_eq_true rfl⟩ rfl rfl h_a0 (q := (RMa, TMa, 19)) rfl rfl hl.1 rfl (Nat.le_of_ble_eq_true rfl) rfl ⟨Nat.le_refl _, Nat.le_refl _⟩ d_Ma_useField_85 (fun s_18 H locs h hP hD hS => ?_)
        refine lv_iconst (v := 0) G.1 G.2.1 d_Ma_useField_88 (by decide) ?_
        exact hret _ _ _ _ _ _ _ ls h hP hD hS (Nat.le_refl _) (Nat.le_refl _) d_Ma_useField_89
    refine lv_if_ne (tgt := 70) G.1 G.2.1 d_Ma_useField_63 (by decide) (fun c63 => ?_) (fun c63 => ?_)
    · skip
      have h := h.1 c63
      refine lv_iconst (v := 0) G.1 G.2.1 d_Ma_useField_70 (by decide) ?_
      exact J_71 s_4 x2j37 x3j37 x4j37 z0j37 r_1 0 H locs h hP hD hS ls (lv_sub hl [2, 3, 4, 5, 6, 1, 0] rfl)
    · skip
      have h := h.2 c63
      refine lv_iconst (v := 1) G.1 G.2.1 d_Ma_useField_66 (by decide) ?_
      refine lv_goto (tgt := 71) G.1 G.2.1 d_Ma_useField_67 (by decide) ?_
      exact J_71 s_4 x2j37 x3j37 x4j37 z0j37 r_1 1 H locs h hP hD hS ls (lv_sub hl [2, 3, 4, 5, 6, 1, 0] rfl)
  have J_29 : ∀ (s_j29 : St) (x2j29 : Int32) (x3j29 : Int32) (x4j29 : Int32) (H : Heap) (locs : List Loc), wj_Ma_useField_29 y Post a0 a1 s_j29 x2j29 x3j29 x4j29 → va_P D CL (ws g ad y s_j29) H → va_D A (ws g ad y s_j29) → va_S A s.heap H locs → ∀ ls, lv_has ls 9 [(0, .ref (ad a0)), (1, .ref (ad a1)), (2, .int x2j29), (3, .int x3j29), (4, .int x4j29)] → W p l e ru_Ma_useField s m args below meth c H locs 0 0 Q (F0 m 29 ls []) := by
    intro s_j29 x2j29 x3j29 x4j29 H locs h hP hD hS ls hl
    unfold wj_Ma_useField_29 at h
    refine lv_aload_n G.1 G.2.1 d_Ma_useField_29 rfl (lv_at hl 1 rfl) ?_
    refine ucVi (As := []) (rest := []) G hP hD hS (cu_Ru_popNumber l D g ad y _ s_j29 a1 H.size h_a1 h) w9_Ru_popNumber q1940 ⟨Nat.le_of_ble_eq_true rfl, Nat.le_of_ble_eq_true rfl⟩ rfl rfl h_a1 (q := (RRu, TRu, 19)) rfl rfl hl.1 rfl (Nat.le_of_ble_eq_true rfl) rfl ⟨Nat.le_refl _, Nat.le_refl _⟩ d_Ma_useField_30 (fun r_19 s_20 H locs h hP hD hS => ?_)
    refine lv_goto (tgt := 37) G.1 G.2.1 d_Ma_useField_33 (by decide) ?_
    exact J_37 s_20 x2j29 x3j29 x4j29 r_19 H locs h hP hD hS ls (lv_sub hl [0, 1, 2, 3, 4] rfl)
  refine lv_icmp_eq (tgt := 29) G.1 G.2.1 d_Ma_useField_20 (by decide) (fun c20 => ?_) (fun c20 => ?_)
  · skip
    have h := h.1 c20
    exact J_29 σ v2 (sV σ (lk a0 14) 0) (sV σ (lk a0 14) 1) H locs h hP hD hS ls (lv_sub hl [2, 3, 4, 1, 0] rfl)
  · skip
    have h := h.2 c20
    refine W.eq (g2 := F0 m 23 ls []) rfl ?_
    refine lv_iload_n G.1 G.2.1 d_Ma_useField_23 rfl (lv_at hl 4 rfl) ?_
    refine lv_bipush (v := 49) G.1 G.2.1 d_Ma_useField_24 (by decide) ?_
    refine lv_icmp_ne (tgt := 36) G.1 G.2.1 d_Ma_useField_26 (by decide) (fun c26 => ?_) (fun c26 => ?_)
    · skip
      have h := h.1 c26
      refine lv_iconst (v := 0) G.1 G.2.1 d_Ma_useField_36 (by decide) ?_
      exact J_37 σ v2 (sV σ (lk a0 14) 0) (sV σ (lk a0 14) 1) 0 H locs h hP hD hS ls (lv_sub hl [2, 3, 4, 1, 0] rfl)
    · skip
      have h := h.2 c26
      exact J_29 σ v2 (sV σ (lk a0 14) 0) (sV σ (lk a0 14) 1) H locs h hP hD hS ls (lv_sub hl [2, 3, 4, 1, 0] rfl)
def y_Hp_make : MethodName := ⟨"ClassWorks$Heap", "make", "(II)I"⟩
abbrev b_Hp_make : ByteArray := prog_4_method_4_code
theorem q2014 : Cond.methodLink "ClassWorks$Heap" 74 Lib.Math.max.name ∈ lw_ok := lw_okmem (List.mem_of_getElem? (i := 2014) (by decide +kernel)) rfl
theorem d_Hp_make_0 : decode b_Hp_make 0 = .ok (.aload_n 0, 1) := by decide +kernel
theorem d_Hp_make_1 : decode b_Hp_make 1 = .ok (.getfield 24, 3) := by decide +kernel
theorem d_Hp_make_4 : decode b_Hp_make 4 = .ok (.sipush 800, 3) := by decide +kernel
theorem d_Hp_make_7 : decode b_Hp_make 7 = .ok (.if_icmp .eq 15, 3) := by decide +kernel
theorem d_Hp_make_10 : decode b_Hp_make 10 = .ok (.aload_n 0, 1) := by decide +kernel
theorem d_Hp_make_11 : decode b_Hp_make 11 = .ok (.getfield 28, 3) := by decide +kernel
theorem d_Hp_make_14 : decode b_Hp_make 14 = .ok (.iload_n 2, 1) := by decide +kernel
theorem d_Hp_make_15 : decode b_Hp_make 15 = .ok (.iadd, 1) := by decide +kernel
theorem d_Hp_make_16 : decode b_Hp_make 16 = .ok (.sipush 4000, 3) := by decide +kernel
theorem d_Hp_make_19 : decode b_Hp_make 19 = .ok (.if_icmp .le 5, 3) := by decide +kernel
theorem d_Hp_make_22 : decode b_Hp_make 22 = .ok (.iconst 0, 1) := by decide +kernel
theorem d_Hp_make_23 : decode b_Hp_make 23 = .ok (.ireturn, 1) := by decide +kernel
theorem d_Hp_make_24 : decode b_Hp_make 24 = .ok (.aload_n 0, 1) := by decide +kernel
theorem d_Hp_make_25 : decode b_Hp_make 25 = .ok (.getfield 37, 3) := by decide +kernel
theorem d_Hp_make_28 : decode b_Hp_make 28 = .ok (.sipush 800, 3) := by decide +kernel
theorem d_Hp_make_31 : decode b_Hp_make 31 = .ok (.if_icmp .ge 30, 3) := by decide +kernel
theorem d_Hp_make_34 : decode b_Hp_make 34 = .ok (.aload_n 0, 1) := by decide +kernel
theorem d_Hp_make_35 : decode b_Hp_make 35 = .ok (.getfield 9, 3) := by decide +kernel
theorem d_Hp_make_38 : decode b_Hp_make 38 = .ok (.aload_n 0, 1) := by decide +kernel
theorem d_Hp_make_39 : decode b_Hp_make 39 = .ok (.getfield 37, 3) := by decide +kernel
theorem d_Hp_make_42 : decode b_Hp_make 42 = .ok (.iaload, 1) := by decide +kernel
theorem d_Hp_make_43 : decode b_Hp_make 43 = .ok (.bipush (-2), 2) := by decide +kernel
theorem d_Hp_make_45 : decode b_Hp_make 45 = .ok (.if_icmp .eq 16, 3) := by decide +kernel
theorem d_Hp_make_48 : decode b_Hp_make 48 = .ok (.aload_n 0, 1) := by decide +kernel
theorem d_Hp_make_49 : decode b_Hp_make 49 = .ok (.dup, 1) := by decide +kernel
theorem d_Hp_make_50 : decode b_Hp_make 50 = .ok (.getfield 37, 3) := by decide +kernel
theorem d_Hp_make_53 : decode b_Hp_make 53 = .ok (.iconst 1, 1) := by decide +kernel
theorem d_Hp_make_54 : decode b_Hp_make 54 = .ok (.iadd, 1) := by decide +kernel
theorem d_Hp_make_55 : decode b_Hp_make 55 = .ok (.putfield 37, 3) := by decide +kernel
theorem d_Hp_make_58 : decode b_Hp_make 58 = .ok (.goto (-34), 3) := by decide +kernel
theorem d_Hp_make_61 : decode b_Hp_make 61 = .ok (.aload_n 0, 1) := by decide +kernel
theorem d_Hp_make_62 : decode b_Hp_make 62 = .ok (.getfield 37, 3) := by decide +kernel
theorem d_Hp_make_65 : decode b_Hp_make 65 = .ok (.istore_n 3, 1) := by decide +kernel
theorem d_Hp_make_66 : decode b_Hp_make 66 = .ok (.aload_n 0, 1) := by decide +kernel
theorem d_Hp_make_67 : decode b_Hp_make 67 = .ok (.getfield 9, 3) := by decide +kernel
theorem d_Hp_make_70 : decode b_Hp_make 70 = .ok (.iload_n 3, 1) := by decide +kernel
theorem d_Hp_make_71 : decode b_Hp_make 71 = .ok (.iload_n 1, 1) := by decide +kernel
theorem d_Hp_make_72 : decode b_Hp_make 72 = .ok (.iastore, 1) := by decide +kernel
theorem d_Hp_make_73 : decode b_Hp_make 73 = .ok (.aload_n 0, 1) := by decide +kernel
theorem d_Hp_make_74 : decode b_Hp_make 74 = .ok (.getfield 15, 3) := by decide +kernel
theorem d_Hp_make_77 : decode b_Hp_make 77 = .ok (.iload_n 3, 1) := by decide +kernel
theorem d_Hp_make_78 : decode b_Hp_make 78 = .ok (.aload_n 0, 1) := by decide +kernel
theorem d_Hp_make_79 : decode b_Hp_make 79 = .ok (.getfield 28, 3) := by decide +kernel
theorem d_Hp_make_82 : decode b_Hp_make 82 = .ok (.iastore, 1) := by decide +kernel
theorem d_Hp_make_83 : decode b_Hp_make 83 = .ok (.aload_n 0, 1) := by decide +kernel
theorem d_Hp_make_84 : decode b_Hp_make 84 = .ok (.getfield 18, 3) := by decide +kernel
theorem d_Hp_make_87 : decode b_Hp_make 87 = .ok (.iload_n 3, 1) := by decide +kernel
theorem d_Hp_make_88 : decode b_Hp_make 88 = .ok (.iload_n 2, 1) := by decide +kernel
theorem d_Hp_make_89 : decode b_Hp_make 89 = .ok (.iastore, 1) := by decide +kernel
theorem d_Hp_make_90 : decode b_Hp_make 90 = .ok (.aload_n 0, 1) := by decide +kernel
theorem d_Hp_make_91 : decode b_Hp_make 91 = .ok (.getfield 31, 3) := by decide +kernel
theorem d_Hp_make_94 : decode b_Hp_make 94 = .ok (.iload_n 3, 1) := by decide +kernel
theorem d_Hp_make_95 : decode b_Hp_make 95 = .ok (.iconst 0, 1) := by decide +kernel
theorem d_Hp_make_96 : decode b_Hp_make 96 = .ok (.iastore, 1) := by decide +kernel
theorem d_Hp_make_97 : decode b_Hp_make 97 = .ok (.iconst 0, 1) := by decide +kernel
theorem d_Hp_make_98 : decode b_Hp_make 98 = .ok (.istore 4, 2) := by decide +kernel
theorem d_Hp_make_100 : decode b_Hp_make 100 = .ok (.iload 4, 2) := by decide +kernel
theorem d_Hp_make_102 : decode b_Hp_make 102 = .ok (.iload_n 2, 1) := by decide +kernel
theorem d_Hp_make_103 : decode b_Hp_make 103 = .ok (.if_icmp .ge 29, 3) := by decide +kernel
theorem d_Hp_make_106 : decode b_Hp_make 106 = .ok (.aload_n 0, 1) := by decide +kernel
theorem d_Hp_make_107 : decode b_Hp_make 107 = .ok (.getfield 21, 3) := by decide +kernel
theorem d_Hp_make_110 : decode b_Hp_make 110 = .ok (.aload_n 0, 1) := by decide +kernel
theorem d_Hp_make_111 : decode b_Hp_make 111 = .ok (.getfield 28, 3) := by decide +kernel
theorem d_Hp_make_114 : decode b_Hp_make 114 = .ok (.iconst 0, 1) := by decide +kernel
theorem d_Hp_make_115 : decode b_Hp_make 115 = .ok (.iastore, 1) := by decide +kernel
theorem d_Hp_make_116 : decode b_Hp_make 116 = .ok (.aload_n 0, 1) := by decide +kernel
theorem d_Hp_make_117 : decode b_Hp_make 117 = .ok (.dup, 1) := by decide +kernel
theorem d_Hp_make_118 : decode b_Hp_make 118 = .ok (.getfield 28, 3) := by decide +kernel
theorem d_Hp_make_121 : decode b_Hp_make 121 = .ok (.iconst 1, 1) := by decide +kernel
theorem d_Hp_make_122 : decode b_Hp_make 122 = .ok (.iadd, 1) := by decide +kernel
theorem d_Hp_make_123 : decode b_Hp_make 123 = .ok (.putfield 28, 3) := by decide +kernel
theorem d_Hp_make_126 : decode b_Hp_make 126 = .ok (.iinc 4 1, 3) := by decide +kernel
theorem d_Hp_make_129 : decode b_Hp_make 129 = .ok (.goto (-29), 3) := by decide +kernel
theorem d_Hp_make_132 : decode b_Hp_make 132 = .ok (.aload_n 0, 1) := by decide +kernel
theorem d_Hp_make_133 : decode b_Hp_make 133 = .ok (.dup, 1) := by decide +kernel
theorem d_Hp_make_134 : decode b_Hp_make 134 = .ok (.getfield 24, 3) := by decide +kernel
theorem d_Hp_make_137 : decode b_Hp_make 137 = .ok (.iconst 1, 1) := by decide +kernel
theorem d_Hp_make_138 : decode b_Hp_make 138 = .ok (.iadd, 1) := by decide +kernel
theorem d_Hp_make_139 : decode b_Hp_make 139 = .ok (.putfield 24, 3) := by decide +kernel
theorem d_Hp_make_142 : decode b_Hp_make 142 = .ok (.aload_n 0, 1) := by decide +kernel
theorem d_Hp_make_143 : decode b_Hp_make 143 = .ok (.aload_n 0, 1) := by decide +kernel
theorem d_Hp_make_144 : decode b_Hp_make 144 = .ok (.getfield 40, 3) := by decide +kernel
theorem d_Hp_make_147 : decode b_Hp_make 147 = .ok (.iload_n 3, 1) := by decide +kernel
theorem d_Hp_make_148 : decode b_Hp_make 148 = .ok (.invokestatic 74, 3) := by decide +kernel
theorem d_Hp_make_151 : decode b_Hp_make 151 = .ok (.putfield 40, 3) := by decide +kernel
theorem d_Hp_make_154 : decode b_Hp_make 154 = .ok (.iload_n 3, 1) := by decide +kernel
theorem d_Hp_make_155 : decode b_Hp_make 155 = .ok (.ireturn, 1) := by decide +kernel
abbrev ru_Hp_make : Room := { frames := 1, cells := 0, slots := 0, locals := 30 }
def wj_Hp_make_22 (y : Ly) (Post : St → Int32 → Prop) (a0 : Nat) (s_j22 : St) : Prop := Post s_j22 0
def wb_Hp_make_100 (y : Ly) (Post : St → Int32 → Prop) (K_100 : St → Int32 → Int32 → Int32 → Prop) (a0 : Nat) (s_h100 : St) (x2h100 : Int32) (x3h100 : Int32) (x4h100 : Int32) : Prop := ((x2h100 ≤ x4h100 → xP (uV s_h100 a0 4 ((sV s_h100 a0 4) + 1)) (fun s_5 : St => xP (uV s_5 a0 9 (if (sV s_5 a0 9) < x3h100 then x3h100 else (sV s_5 a0 9))) (fun s_6 : St => Post s_6 x3h100))) ∧ (¬ (x2h100 ≤ x4h100) → xS y s_h100 a0 3 (sV s_h100 a0 5) 0 (fun s_7 : St => xP (uV s_7 a0 5 ((sV s_7 a0 5) + 1)) (fun s_8 : St => K_100 s_8 x2h100 x3h100 (x4h100 + 1)))))
def wl_Hp_make_100 (y : Ly) (Post : St → Int32 → Prop) (a0 : Nat) (s_h100 : St) (x2h100 : Int32) (x3h100 : Int32) (x4h100 : Int32) : Prop := ∃ (I : St → Int32 → Int32 → Int32 → Prop) (μ : St → Int32 → Int32 → Int32 → Nat), I s_h100 x2h100 x3h100 x4h100 ∧ ∀ (u : St) (t0 : Int32) (t1 : Int32) (t2 : Int32), I u t0 t1 t2 → wb_Hp_make_100 y Post (fun z t0q t1q t2q => I z t0q t1q t2q ∧ μ z t0q t1q t2q < μ u t0 t1 t2) a0 u t0 t1 t2
def wj_Hp_make_61 (y : Ly) (Post : St → Int32 → Prop) (a0 : Nat) (s_j61 : St) (x1j61 : Int32) (x2j61 : Int32) : Prop := xS y s_j61 a0 0 (sV s_j61 a0 8) x1j61 (fun s_1 : St => xS y s_1 a0 1 (sV s_j61 a0 8) (sV s_1 a0 5) (fun s_2 : St => xS y s_2 a0 2 (sV s_j61 a0 8) x2j61 (fun s_3 : St => xS y s_3 a0 6 (sV s_j61 a0 8) 0 (fun s_4 : St => wl_Hp_make_100 y Post a0 s_4 x2j61 (sV s_j61 a0 8) 0))))
def wb_Hp_make_24 (y : Ly) (Post : St → Int32 → Prop) (K_24 : St → Int32 → Int32 → Prop) (a0 : Nat) (s_h24 : St) (x1h24 : Int32) (x2h24 : Int32) : Prop := ((800 ≤ (sV s_h24 a0 8) → wj_Hp_make_61 y Post a0 s_h24 x1h24 x2h24) ∧ (¬ (800 ≤ (sV s_h24 a0 8)) → xA y s_h24 a0 0 (sV s_h24 a0 8) (fun x_9 : Int32 => ((x_9 = (-2) → wj_Hp_make_61 y Post a0 s_h24 x1h24 x2h24) ∧ (¬ (x_9 = (-2)) → xP (uV s_h24 a0 8 ((sV s_h24 a0 8) + 1)) (fun s_10 : St => K_24 s_10 x1h24 x2h24))))))
def wl_Hp_make_24 (y : Ly) (Post : St → Int32 → Prop) (a0 : Nat) (s_h24 : St) (x1h24 : Int32) (x2h24 : Int32) : Prop := ∃ (I : St → Int32 → Int32 → Prop) (μ : St → Int32 → Int32 → Nat), I s_h24 x1h24 x2h24 ∧ ∀ (u : St) (t0 : Int32) (t1 : Int32), I u t0 t1 → wb_Hp_make_24 y Post (fun z t0q t1q => I z t0q t1q ∧ μ z t0q t1q < μ u t0 t1) a0 u t0 t1
def wu_Hp_make (y : Ly) (Post : St → Int32 → Prop) (σ : St) (a0 : Nat) (v1 : Int32) (v2 : Int32) : Prop := (((sV σ a0 4) = 800 → wj_Hp_make_22 y Post a0 σ) ∧ (¬ ((sV σ a0 4) = 800) → ((((sV σ a0 5) + v2) ≤ 4000 → wl_Hp_make_24 y Post a0 σ v1 v2) ∧ (¬ (((sV σ a0 5) + v2) ≤ 4000) → wj_Hp_make_22 y Post a0 σ))))
set_option maxHeartbeats 4000000 in
set_option maxRecDepth 100000 in
theorem cu_Hp_make (l : Launch) (D : va_G) (g : Nat → ClassId) (ad : Nat → Nat) (y : Ly) (Post : St → Int32 → Prop) (σ : St) (a0 : Nat) (v1 : Int32) (v2 : Int32) (sz : Nat) (h_a0 : cl a0 = 2) (h : wu_Hp_make y Post σ a0 v1 v2) : Met l y_Hp_make (mw y_Hp_make b_Hp_make 5 (some .int)) ru_Hp_make (PC g D [] [.ref (ad a0), .int v1, .int v2] sz (ws g ad y σ)) (va_Qi (fun (r : Int32) (u : St) => Post u r) (QW D (va_A (ws g ad y σ) sz) (fun u => ws g ad y u)) (va_A (ws g ad y σ) sz)) 0 0 (va_A (ws g ad y σ) sz) := by
  refine ofI (by decide +kernel) (Nat.le_of_ble_eq_true rfl) ?_
  intro p e s m args below meth c A Q ls H locs G hsz hP hD hS hl hret
  subst hsz
  have hl : lv_has ls 5 [(0, .ref (ad a0)), (1, .int v1), (2, .int v2)] := hl
  unfold wu_Hp_make at h
  refine lv_aload_n G.1 G.2.1 d_Hp_make_0 rfl (lv_at hl 0 rfl) ?_
  refine ugf (v := .int (sV σ a0 4)) G hP h_a0 iHp rfl 4 (by decide) rfl q923 rfl rfl d_Hp_make_1 ?_
  refine lv_sipush (v := 800) G.1 G.2.1 d_Hp_make_4 (by decide) ?_
  have J_22 : ∀ (s_j22 : St) (H : Heap) (locs : List Loc), wj_Hp_make_22 y Post a0 s_j22 → va_P D CL (ws g ad y s_j22) H → va_D A (ws g ad y s_j22) → va_S A s.heap H locs → ∀ ls, lv_has ls 5 [] → W p l e ru_Hp_make s m args below meth c H locs 0 0 Q (F0 m 22 ls []) := by
    intro s_j22 H locs h hP hD hS ls hl
    unfold wj_Hp_make_22 at h
    refine lv_iconst (v := 0) G.1 G.2.1 d_Hp_make_22 (by decide) ?_
    exact hret _ _ _ _ _ _ _ ls h hP hD hS (Nat.le_refl _) (Nat.le_refl _) d_Hp_make_23
  refine lv_icmp_eq (tgt := 22) G.1 G.2.1 d_Hp_make_7 (by decide) (fun c7 => ?_) (fun c7 => ?_)
  · skip
    have h := h.1 c7
    exact J_22 σ H locs h hP hD hS ls (lv_sub hl [] rfl)
  · skip
    have h := h.2 c7
    refine lv_aload_n G.1 G.2.1 d_Hp_make_10 rfl (lv_at hl 0 rfl) ?_
    refine ugf (v := .int (sV σ a0 5)) G hP h_a0 iHp rfl 5 (by decide) rfl q925 rfl rfl d_Hp_make_11 ?_
    refine lv_iload_n G.1 G.2.1 d_Hp_make_14 rfl (lv_at hl 2 rfl) ?_
    refine lv_iadd G.1 G.2.1 d_Hp_make_15 ?_
    refine lv_sipush (v := 4000) G.1 G.2.1 d_Hp_make_16 (by decide) ?_
    refine lv_icmp_le (tgt := 24) G.1 G.2.1 d_Hp_make_19 (by decide) (fun c19 => ?_) (fun c19 => ?_)
    · skip
      have h := h.1 c19
      unfold wl_Hp_make_24 at h
      obtain ⟨I_24, μ_24, hI_24, hB_24⟩ := h
      have L_24 : ∀ (n_24 : Nat) (s_h24 : St) (x1h24 : Int32) (x2h24 : Int32), μ_24 s_h24 x1h24 x2h24 < n_24 → I_24 s_h24 x1h24 x2h24 → ∀ (H : Heap) (locs : List Loc), va_P D CL (ws g ad y s_h24) H → va_D A (ws g ad y s_h24) → va_S A s.heap H locs → ∀ ls, lv_has ls 5 [(0, .ref (ad a0)), (1, .int x1h24), (2, .int x2h24)] → W p l e ru_Hp_make s m args below meth c H locs 0 0 Q (F0 m 24 ls []) := by
        intro n_24
        induction n_24 with
        | zero => intro s_h24 x1h24 x2h24 hμ; exact absurd hμ (Nat.not_lt_zero _)
        | succ n_24 ih_24 =>
          intro s_h24 x1h24 x2h24 hμ_24 hJ H locs hP hD hS ls hl
          obtain ⟨K_24, hK_24, h⟩ : ∃ K : St → Int32 → Int32 → Prop, (∀ z (t0 : Int32) (t1 : Int32), K z t0 t1 → I_24 z t0 t1 ∧ μ_24 z t0 t1 < μ_24 s_h24 x1h24 x2h24) ∧ wb_Hp_make_24 y Post K a0 s_h24 x1h24 x2h24 := ⟨_, fun _ _ _ h => h, hB_24 s_h24 x1h24 x2h24 hJ⟩
          unfold wb_Hp_make_24 at h
          refine lv_aload_n G.1 G.2.1 d_Hp_make_24 rfl (lv_at hl 0 rfl) ?_
          refine ugf (v := .int (sV s_h24 a0 8)) G hP h_a0 iHp rfl 8 (by decide) rfl q929 rfl rfl d_Hp_make_25 ?_
          refine lv_sipush (v := 800) G.1 G.2.1 d_Hp_make_28 (by decide) ?_
          have J_61 : ∀ (s_j61 : St) (x1j61 : Int32) (x2j61 : Int32) (H : Heap) (locs : List Loc), wj_Hp_make_61 y Post a0 s_j61 x1j61 x2j61 → va_P D CL (ws g ad y s_j61) H → va_D A (ws g ad y s_j61) → va_S A s.heap H locs → ∀ ls, lv_has ls 5 [(0, .ref (ad a0)), (1, .int x1j61), (2, .int x2j61)] → W p l e ru_Hp_make s m args below meth c H locs 0 0 Q (F0 m 61 ls []) := by
            intro s_j61 x1j61 x2j61 H locs h hP hD hS ls hl
            unfold wj_Hp_make_61 at h
            refine lv_aload_n G.1 G.2.1 d_Hp_make_61 rfl (lv_at hl 0 rfl) ?_
            refine ugf (v := .int (sV s_j61 a0 8)) G hP h_a0 iHp rfl 8 (by decide) rfl q929 rfl rfl d_Hp_make_62 ?_
            refine lv_istore_n (lv' := [(3, .int (sV s_j61 a0 8)), (0, .ref (ad a0)), (1, .int x1j61), (2, .int x2j61)]) G.1 G.2.1 d_Hp_make_65 rfl hl (by decide) rfl (fun ls hl => ?_)
            refine lv_aload_n G.1 G.2.1 d_Hp_make_66 rfl (lv_at hl 1 rfl) ?_
            refine ugf (v := .ref (yP y a0 0)) G hP h_a0 iHp rfl 0 (by decide) rfl q913 rfl rfl d_Hp_make_67 ?_
            refine lv_iload_n G.1 G.2.1 d_Hp_make_70 rfl (lv_at hl 0 rfl) ?_
            refine lv_iload_n G.1 G.2.1 d_Hp_make_71 rfl (lv_at hl 2 rfl) ?_
            refine uiast G hP hD hS (kdp h_a0 rfl) (typ h_a0 rfl) h d_Hp_make_72 (fun s_1 H locs h hP hD hS => ?_)
            refine lv_aload_n G.1 G.2.1 d_Hp_make_73 rfl (lv_at hl 1 rfl) ?_
            refine ugf (v := .ref (yP y a0 1)) G hP h_a0 iHp rfl 1 (by decide) rfl q916 rfl rfl d_Hp_make_74 ?_
            refine lv_iload_n G.1 G.2.1 d_Hp_make_77 rfl (lv_at hl 0 rfl) ?_
            refine W.eq (g2 := F0 m 78 ls [.int (sV s_j61 a0 8), .ref (yP y a0 1)]) rfl ?_
            refine lv_aload_n G.1 G.2.1 d_Hp_make_78 rfl (lv_at hl 1 rfl) ?_
            refine ugf (v := .int (sV s_1 a0 5)) G hP h_a0 iHp rfl 5 (by decide) rfl q925 rfl rfl d_Hp_make_79 ?_
            refine uiast G hP hD hS (kdp h_a0 rfl) (typ h_a0 rfl) h d_Hp_make_82 (fun s_2 H locs h hP hD hS => ?_)
            refine lv_aload_n G.1 G.2.1 d_Hp_make_83 rfl (lv_at hl 1 rfl) ?_
            refine ugf (v := .ref (yP y a0 2)) G hP h_a0 iHp rfl 2 (by decide) rfl q918 rfl rfl d_Hp_make_84 ?_
            refine lv_iload_n G.1 G.2.1 d_Hp_make_87 rfl (lv_at hl 0 rfl) ?_
            refine lv_iload_n G.1 G.2.1 d_Hp_make_88 rfl (lv_at hl 3 rfl) ?_
            refine uiast G hP hD hS (kdp h_a0 rfl) (typ h_a0 rfl) h d_Hp_make_89 (fun s_3 H locs h hP hD hS => ?_)
            refine lv_aload_n G.1 G.2.1 d_Hp_make_90 rfl (lv_at hl 1 rfl) ?_
            refine ugf (v := .ref (yP y a0 6)) G hP h_a0 iHp rfl 6 (by decide) rfl q927 rfl rfl d_Hp_make_91 ?_
            refine lv_iload_n G.1 G.2.1 d_Hp_make_94 rfl (lv_at hl 0 rfl) ?_
            refine lv_iconst (v := 0) G.1 G.2.1 d_Hp_make_95 (by decide) ?_
            refine W.eq (g2 := F0 m 96 ls [.int 0, .int (sV s_j61 a0 8), .ref (yP y a0 6)]) rfl ?_
            refine uiast G hP hD hS (kdp h_a0 rfl) (typ h_a0 rfl) h d_Hp_make_96 (fun s_4 H locs h hP hD hS => ?_)
            refine lv_iconst (v := 0) G.1 G.2.1 d_Hp_make_97 (by decide) ?_
            refine lv_istore (lv' := [(4, .int 0), (3, .int (sV s_j61 a0 8)), (0, .ref (ad a0)), (1, .int x1j61), (2, .int x2j61)]) G.1 G.2.1 d_Hp_make_98 hl (by decide) rfl (fun ls hl => ?_)
            unfold wl_Hp_make_100 at h
            obtain ⟨I_100, μ_100, hI_100, hB_100⟩ := h
            have L_100 : ∀ (n_100 : Nat) (s_h100 : St) (x2h100 : Int32) (x3h100 : Int32) (x4h100 : Int32), μ_100 s_h100 x2h100 x3h100 x4h100 < n_100 → I_100 s_h100 x2h100 x3h100 x4h100 → ∀ (H : Heap) (locs : List Loc), va_P D CL (ws g ad y s_h100) H → va_D A (ws g ad y s_h100) → va_S A s.heap H locs → ∀ ls, lv_has ls 5 [(0, .ref (ad a0)), (2, .int x2h100), (3, .int x3h100), (4, .int x4h100)] → W p l e ru_Hp_make s m args below meth c H locs 0 0 Q (F0 m 100 ls []) := by
              intro n_100
              induction n_100 with
              | zero => intro s_h100 x2h100 x3h100 x4h100 hμ; exact absurd hμ (Nat.not_lt_zero _)
              | succ n_100 ih_100 =>
                intro s_h100 x2h100 x3h100 x4h100 hμ_100 hJ H locs hP hD hS ls hl
                obtain ⟨K_100, hK_100, h⟩ : ∃ K : St → Int32 → Int32 → Int32 → Prop, (∀ z (t0 : Int32) (t1 : Int32) (t2 : Int32), K z t0 t1 t2 → I_100 z t0 t1 t2 ∧ μ_100 z t0 t1 t2 < μ_100 s_h100 x2h100 x3h100 x4h100) ∧ wb_Hp_make_100 y Post K a0 s_h100 x2h100 x3h100 x4h100 := ⟨_, fun _ _ _ _ h => h, hB_100 s_h100 x2h100 x3h100 x4h100 hJ⟩
                unfold wb_Hp_make_100 at h
                refine lv_iload G.1 G.2.1 d_Hp_make_100 (lv_at hl 3 rfl) ?_
                refine lv_iload_n G.1 G.2.1 d_Hp_make_102 rfl (lv_at hl 1 rfl) ?_
                refine lv_icmp_ge (tgt := 132) G.1 G.2.1 d_Hp_make_103 (by decide) (fun c103 => ?_) (fun c103 => ?_)
                · skip
                  have h := h.1 c103
                  refine lv_aload_n G.1 G.2.1 d_Hp_make_132 rfl (lv_at hl 0 rfl) ?_
                  refine lv_dup G.1 G.2.1 d_Hp_make_133 rfl ?_
                  refine ugf (v := .int (sV s_h100 a0 4)) G hP h_a0 iHp rfl 4 (by decide) rfl q923 rfl rfl d_Hp_make_134 ?_
                  refine lv_iconst (v := 1) G.1 G.2.1 d_Hp_make_137 (by decide) ?_
                  refine lv_iadd G.1 G.2.1 d_Hp_make_138 ?_
                  refine upf G hP hD hS h 4 putV h_a0 iHp tHp tHp_ok nHp rfl (by decide) rfl q923 rfl rfl fV rfl rfl d_Hp_make_139 (fun s_5 H locs h hP hD hS => ?_)
                  refine lv_aload_n G.1 G.2.1 d_Hp_make_142 rfl (lv_at hl 0 rfl) ?_
                  refine lv_aload_n G.1 G.2.1 d_Hp_make_143 rfl (lv_at hl 0 rfl) ?_
                  refine W.eq (g2 := F0 m 144 ls [.ref (ad a0), .ref (ad a0)]) rfl ?_
                  refine ugf (v := .int (sV s_5 a0 9)) G hP h_a0 iHp rfl 9 (by decide) rfl q930 rfl rfl d_Hp_make_144 ?_
                  refine lv_iload_n G.1 G.2.1 d_Hp_make_147 rfl (lv_at hl 2 rfl) ?_
                  refine va_mmax G.1 G.2.1 (G.2.2.1.trans hl.1.symm) G.2.2.2.2.2.2.1 (G.2.2.2.2.2.1 _ q2014) (G.2.2.2.2.2.1 _ q1804) (G.2.2.2.2.2.1 _ q337) (G.2.2.2.2.2.1 _ q1805) (Nat.le_of_ble_eq_true rfl) (Nat.le_of_ble_eq_true rfl) (Nat.zero_le _) (Nat.zero_le _) d_Hp_make_148 ?_
                  refine upf G hP hD hS h 9 putV h_a0 iHp tHp tHp_ok nHp rfl (by decide) rfl q930 rfl rfl fV rfl rfl d_Hp_make_151 (fun s_6 H locs h hP hD hS => ?_)
                  refine lv_iload_n G.1 G.2.1 d_Hp_make_154 rfl (lv_at hl 2 rfl) ?_
                  exact hret _ _ _ _ _ _ _ ls h hP hD hS (Nat.le_refl _) (Nat.le_refl _) d_Hp_make_155
                · skip
                  have h := h.2 c103
                  refine lv_aload_n G.1 G.2.1 d_Hp_make_106 rfl (lv_at hl 0 rfl) ?_
                  refine ugf (v := .ref (yP y a0 3)) G hP h_a0 iHp rfl 3 (by decide) rfl q921 rfl rfl d_Hp_make_107 ?_
                  refine lv_aload_n G.1 G.2.1 d_Hp_make_110 rfl (lv_at hl 0 rfl) ?_
                  refine ugf (v := .int (sV s_h100 a0 5)) G hP h_a0 iHp rfl 5 (by decide) rfl q925 rfl rfl d_Hp_make_111 ?_
                  refine lv_iconst (v := 0) G.1 G.2.1 d_Hp_make_114 (by decide) ?_
                  refine uiast G hP hD hS (kdp h_a0 rfl) (typ h_a0 rfl) h d_Hp_make_115 (fun s_7 H locs h hP hD hS => ?_)
                  refine lv_aload_n G.1 G.2.1 d_Hp_make_116 rfl (lv_at hl 0 rfl) ?_
                  refine lv_dup G.1 G.2.1 d_Hp_make_117 rfl ?_
                  refine W.eq (g2 := F0 m 118 ls [.ref (ad a0), .ref (ad a0)]) rfl ?_
                  refine ugf (v := .int (sV s_7 a0 5)) G hP h_a0 iHp rfl 5 (by decide) rfl q925 rfl rfl d_Hp_make_118 ?_
                  refine lv_iconst (v := 1) G.1 G.2.1 d_Hp_make_121 (by decide) ?_
                  refine lv_iadd G.1 G.2.1 d_Hp_make_122 ?_
                  refine upf G hP hD hS h 5 putV h_a0 iHp tHp tHp_ok nHp rfl (by decide) rfl q925 rfl rfl fV rfl rfl d_Hp_make_123 (fun s_8 H locs h hP hD hS => ?_)
                  refine lv_iinc (v := x4h100 + 1) (lv' := [(4, .int (x4h100 + 1)), (0, .ref (ad a0)), (2, .int x2h100), (3, .int x3h100)]) G.1 G.2.1 d_Hp_make_126 hl (k := 3) rfl rfl (by decide) rfl (fun ls hl => ?_)
                  refine lv_goto (tgt := 100) G.1 G.2.1 d_Hp_make_129 (by decide) ?_
                  have h := hK_100 s_8 x2h100 x3h100 (x4h100 + 1) h
                  exact ih_100 s_8 x2h100 x3h100 (x4h100 + 1) (Nat.lt_of_lt_of_le h.2 (Nat.le_of_lt_succ hμ_100)) h.1 H locs hP hD hS ls (lv_sub hl [1, 2, 3, 0] rfl)
            exact L_100 _ s_4 x2j61 (sV s_j61 a0 8) 0 (Nat.lt_succ_self _) hI_100 H locs hP hD hS ls (lv_sub hl [2, 4, 1, 0] rfl)
          refine lv_icmp_ge (tgt := 61) G.1 G.2.1 d_Hp_make_31 (by decide) (fun c31 => ?_) (fun c31 => ?_)
          · skip
            have h := h.1 c31
            exact J_61 s_h24 x1h24 x2h24 H locs h hP hD hS ls (lv_sub hl [0, 1, 2] rfl)
          · skip
            have h := h.2 c31
            refine lv_aload_n G.1 G.2.1 d_Hp_make_34 rfl (lv_at hl 0 rfl) ?_
            refine ugf (v := .ref (yP y a0 0)) G hP h_a0 iHp rfl 0 (by decide) rfl q913 rfl rfl d_Hp_make_35 ?_
            refine lv_aload_n G.1 G.2.1 d_Hp_make_38 rfl (lv_at hl 0 rfl) ?_
            refine ugf (v := .int (sV s_h24 a0 8)) G hP h_a0 iHp rfl 8 (by decide) rfl q929 rfl rfl d_Hp_make_39 ?_
            refine uiald G hP (kdp h_a0 rfl) (typ h_a0 rfl) h d_Hp_make_42 (fun x_9 h => ?_)
            refine lv_bipush (v := (-2)) G.1 G.2.1 d_Hp_make_43 (by decide) ?_
            refine lv_icmp_eq (tgt := 61) G.1 G.2.1 d_Hp_make_45 (by decide) (fun c45 => ?_) (fun c45 => ?_)
            · skip
              have h := h.1 c45
              exact J_61 s_h24 x1h24 x2h24 H locs h hP hD hS ls (lv_sub hl [0, 1, 2] rfl)
            · skip
              have h := h.2 c45
              refine W.eq (g2 := F0 m 48 ls []) rfl ?_
              refine lv_aload_n G.1 G.2.1 d_Hp_make_48 rfl (lv_at hl 0 rfl) ?_
              refine lv_dup G.1 G.2.1 d_Hp_make_49 rfl ?_
              refine ugf (v := .int (sV s_h24 a0 8)) G hP h_a0 iHp rfl 8 (by decide) rfl q929 rfl rfl d_Hp_make_50 ?_
              refine lv_iconst (v := 1) G.1 G.2.1 d_Hp_make_53 (by decide) ?_
              refine lv_iadd G.1 G.2.1 d_Hp_make_54 ?_
              refine upf G hP hD hS h 8 putV h_a0 iHp tHp tHp_ok nHp rfl (by decide) rfl q929 rfl rfl fV rfl rfl d_Hp_make_55 (fun s_10 H locs h hP hD hS => ?_)
              refine lv_goto (tgt := 24) G.1 G.2.1 d_Hp_make_58 (by decide) ?_
              have h := hK_24 s_10 x1h24 x2h24 h
              exact ih_24 s_10 x1h24 x2h24 (Nat.lt_of_lt_of_le h.2 (Nat.le_of_lt_succ hμ_24)) h.1 H locs hP hD hS ls (lv_sub hl [0, 1, 2] rfl)
      exact L_24 _ σ v1 v2 (Nat.lt_succ_self _) hI_24 H locs hP hD hS ls (lv_sub hl [0, 1, 2] rfl)
    · skip
      have h := h.2 c19
      exact J_22 σ H locs h hP hD hS ls (lv_sub hl [] rfl)
def y_Hp_there : MethodName := ⟨"ClassWorks$Heap", "there", "(I)Z"⟩
abbrev b_Hp_there : ByteArray := prog_4_method_3_code
theorem d_Hp_there_0 : decode b_Hp_there 0 = .ok (.iload_n 1, 1) := by decide +kernel
theorem d_Hp_there_1 : decode b_Hp_there 1 = .ok (.iconst 1, 1) := by decide +kernel
theorem d_Hp_there_2 : decode b_Hp_there 2 = .ok (.if_icmp .lt 25, 3) := by decide +kernel
theorem d_Hp_there_5 : decode b_Hp_there 5 = .ok (.iload_n 1, 1) := by decide +kernel
theorem d_Hp_there_6 : decode b_Hp_there 6 = .ok (.sipush 800, 3) := by decide +kernel
theorem d_Hp_there_9 : decode b_Hp_there 9 = .ok (.if_icmp .gt 18, 3) := by decide +kernel
theorem d_Hp_there_12 : decode b_Hp_there 12 = .ok (.aload_n 0, 1) := by decide +kernel
theorem d_Hp_there_13 : decode b_Hp_there 13 = .ok (.getfield 9, 3) := by decide +kernel
theorem d_Hp_there_16 : decode b_Hp_there 16 = .ok (.iload_n 1, 1) := by decide +kernel
theorem d_Hp_there_17 : decode b_Hp_there 17 = .ok (.iaload, 1) := by decide +kernel
theorem d_Hp_there_18 : decode b_Hp_there 18 = .ok (.bipush (-2), 2) := by decide +kernel
theorem d_Hp_there_20 : decode b_Hp_there 20 = .ok (.if_icmp .eq 7, 3) := by decide +kernel
theorem d_Hp_there_23 : decode b_Hp_there 23 = .ok (.iconst 1, 1) := by decide +kernel
theorem d_Hp_there_24 : decode b_Hp_there 24 = .ok (.goto 4, 3) := by decide +kernel
theorem d_Hp_there_27 : decode b_Hp_there 27 = .ok (.iconst 0, 1) := by decide +kernel
theorem d_Hp_there_28 : decode b_Hp_there 28 = .ok (.ireturn, 1) := by decide +kernel
abbrev ru_Hp_there : Room := { frames := 0, cells := 0, slots := 0, locals := 0 }
def wj_Hp_there_28 (y : Ly) (Post : St → Int32 → Prop) (a0 : Nat) (s_j28 : St) (z0j28 : Int32) : Prop := (nb z0j28 ∧ Post s_j28 z0j28)
def wj_Hp_there_27 (y : Ly) (Post : St → Int32 → Prop) (a0 : Nat) (s_j27 : St) : Prop := wj_Hp_there_28 y Post a0 s_j27 0
def wu_Hp_there (y : Ly) (Post : St → Int32 → Prop) (σ : St) (a0 : Nat) (v1 : Int32) : Prop := ((v1 < 1 → wj_Hp_there_27 y Post a0 σ) ∧ (¬ (v1 < 1) → ((800 < v1 → wj_Hp_there_27 y Post a0 σ) ∧ (¬ (800 < v1) → xA y σ a0 0 v1 (fun x_1 : Int32 => ((x_1 = (-2) → wj_Hp_there_27 y Post a0 σ) ∧ (¬ (x_1 = (-2)) → wj_Hp_there_28 y Post a0 σ 1)))))))
set_option maxHeartbeats 4000000 in
set_option maxRecDepth 100000 in
theorem cu_Hp_there (l : Launch) (D : va_G) (g : Nat → ClassId) (ad : Nat → Nat) (y : Ly) (Post : St → Int32 → Prop) (σ : St) (a0 : Nat) (v1 : Int32) (sz : Nat) (h_a0 : cl a0 = 2) (h : wu_Hp_there y Post σ a0 v1) : Met l y_Hp_there (mw y_Hp_there b_Hp_there 2 (some (.boolean))) ru_Hp_there (PC g D [] [.ref (ad a0), .int v1] sz (ws g ad y σ)) (va_Qi (fun (r : Int32) (u : St) => Post u r) (QW D (va_A (ws g ad y σ) sz) (fun u => ws g ad y u)) (va_A (ws g ad y σ) sz)) 0 0 (va_A (ws g ad y σ) sz) := by
  refine ofZ (by decide +kernel) (Nat.le_of_ble_eq_true rfl) ?_
  intro p e s m args below meth c A Q ls H locs G hsz hP hD hS hl hret
  subst hsz
  have hl : lv_has ls 2 [(0, .ref (ad a0)), (1, .int v1)] := hl
  unfold wu_Hp_there at h
  refine lv_iload_n G.1 G.2.1 d_Hp_there_0 rfl (lv_at hl 1 rfl) ?_
  refine lv_iconst (v := 1) G.1 G.2.1 d_Hp_there_1 (by decide) ?_
  have J_28 : ∀ (s_j28 : St) (z0j28 : Int32) (H : Heap) (locs : List Loc), wj_Hp_there_28 y Post a0 s_j28 z0j28 → va_P D CL (ws g ad y s_j28) H → va_D A (ws g ad y s_j28) → va_S A s.heap H locs → ∀ ls, lv_has ls 2 [] → W p l e ru_Hp_there s m args below meth c H locs 0 0 Q (F0 m 28 ls [.int z0j28]) := by
    intro s_j28 z0j28 H locs h hP hD hS ls hl
    unfold wj_Hp_there_28 at h
    exact hret _ _ _ _ _ _ _ ls (nb_n h.1) h.2 hP hD hS (Nat.le_refl _) (Nat.le_refl _) d_Hp_there_28
  have J_27 : ∀ (s_j27 : St) (H : Heap) (locs : List Loc), wj_Hp_there_27 y Post a0 s_j27 → va_P D CL (ws g ad y s_j27) H → va_D A (ws g ad y s_j27) → va_S A s.heap H locs → ∀ ls, lv_has ls 2 [] → W p l e ru_Hp_there s m args below meth c H locs 0 0 Q (F0 m 27 ls []) := by
    intro s_j27 H locs h hP hD hS ls hl
    unfold wj_Hp_there_27 at h
    refine lv_iconst (v := 0) G.1 G.2.1 d_Hp_there_27 (by decide) ?_
    exact J_28 s_j27 0 H locs h hP hD hS ls (lv_sub hl [] rfl)
  refine lv_icmp_lt (tgt := 27) G.1 G.2.1 d_Hp_there_2 (by decide) (fun c2 => ?_) (fun c2 => ?_)
  · skip
    have h := h.1 c2
    exact J_27 σ H locs h hP hD hS ls (lv_sub hl [] rfl)
  · skip
    have h := h.2 c2
    refine lv_iload_n G.1 G.2.1 d_Hp_there_5 rfl (lv_at hl 1 rfl) ?_
    refine lv_sipush (v := 800) G.1 G.2.1 d_Hp_there_6 (by decide) ?_
    refine lv_icmp_gt (tgt := 27) G.1 G.2.1 d_Hp_there_9 (by decide) (fun c9 => ?_) (fun c9 => ?_)
    · skip
      have h := h.1 c9
      exact J_27 σ H locs h hP hD hS ls (lv_sub hl [] rfl)
    · skip
      have h := h.2 c9
      refine lv_aload_n G.1 G.2.1 d_Hp_there_12 rfl (lv_at hl 0 rfl) ?_
      refine ugf (v := .ref (yP y a0 0)) G hP h_a0 iHp rfl 0 (by decide) rfl q913 rfl rfl d_Hp_there_13 ?_
      refine lv_iload_n G.1 G.2.1 d_Hp_there_16 rfl (lv_at hl 1 rfl) ?_
      refine uiald G hP (kdp h_a0 rfl) (typ h_a0 rfl) h d_Hp_there_17 (fun x_1 h => ?_)
      refine lv_bipush (v := (-2)) G.1 G.2.1 d_Hp_there_18 (by decide) ?_
      refine W.eq (g2 := F0 m 20 ls [.int (-2), .int x_1]) rfl ?_
      refine lv_icmp_eq (tgt := 27) G.1 G.2.1 d_Hp_there_20 (by decide) (fun c20 => ?_) (fun c20 => ?_)
      · skip
        have h := h.1 c20
        exact J_27 σ H locs h hP hD hS ls (lv_sub hl [] rfl)
      · skip
        have h := h.2 c20
        refine lv_iconst (v := 1) G.1 G.2.1 d_Hp_there_23 (by decide) ?_
        refine lv_goto (tgt := 28) G.1 G.2.1 d_Hp_there_24 (by decide) ?_
        exact J_28 σ 1 H locs h hP hD hS ls (lv_sub hl [] rfl)
theorem q2019 : Cond.methodLink "ClassWorks$Machine" 423 y_Hp_isElement ∈ lw_ok := lw_okmem (List.mem_of_getElem? (i := 2019) (by decide +kernel)) rfl
theorem q2015 : Cond.methodLink "ClassWorks$Machine" 417 y_Hp_there ∈ lw_ok := lw_okmem (List.mem_of_getElem? (i := 2015) (by decide +kernel)) rfl
theorem q2018 : Cond.code y_Hp_there b_Hp_there 2 (some (.boolean)) ∈ lw_ok := lw_okmem (List.mem_of_getElem? (i := 2018) (by decide +kernel)) rfl
theorem q2016 : Cond.instanceMethod y_Hp_there ∈ lw_ok := lw_okmem (List.mem_of_getElem? (i := 2016) (by decide +kernel)) rfl
theorem q2017 : Cond.selects y_Hp_there.cls y_Hp_there y_Hp_there ∈ lw_ok := lw_okmem (List.mem_of_getElem? (i := 2017) (by decide +kernel)) rfl
theorem w9_Hp_there : CWv y_Hp_there b_Hp_there 2 (some (.boolean)) 1 ∧ Cond.instanceMethod y_Hp_there ∈ lw_ok ∧ Cond.selects y_Hp_there.cls y_Hp_there y_Hp_there ∈ lw_ok := ⟨⟨q2018, q346, by decide +kernel, by decide +kernel, by decide +kernel⟩, q2016, q2017⟩
theorem q920 : Cond.fieldLink "ClassWorks$Machine" 420 "ClassWorks$Heap" "length" "[I" ∈ lw_ok := lw_okmem (List.mem_of_getElem? (i := 920) (by decide +kernel)) rfl
theorem q2010 : Cond.methodLink "ClassWorks$Machine" 414 y_Hp_make ∈ lw_ok := lw_okmem (List.mem_of_getElem? (i := 2010) (by decide +kernel)) rfl
theorem q2013 : Cond.code y_Hp_make b_Hp_make 5 (some .int) ∈ lw_ok := lw_okmem (List.mem_of_getElem? (i := 2013) (by decide +kernel)) rfl
theorem q2011 : Cond.instanceMethod y_Hp_make ∈ lw_ok := lw_okmem (List.mem_of_getElem? (i := 2011) (by decide +kernel)) rfl
theorem q2012 : Cond.selects y_Hp_make.cls y_Hp_make y_Hp_make ∈ lw_ok := lw_okmem (List.mem_of_getElem? (i := 2012) (by decide +kernel)) rfl
theorem w9_Hp_make : CWv y_Hp_make b_Hp_make 5 (some .int) 2 ∧ Cond.instanceMethod y_Hp_make ∈ lw_ok ∧ Cond.selects y_Hp_make.cls y_Hp_make y_Hp_make ∈ lw_ok := ⟨⟨q2013, q346, by decide +kernel, by decide +kernel, by decide +kernel⟩, q2011, q2012⟩
def y_Ma_useRow : MethodName := ⟨"ClassWorks$Machine", "useRow", "(LClassWorks$Runner;I)I"⟩
abbrev b_Ma_useRow : ByteArray := prog_6_method_37_code
theorem d_Ma_useRow_0 : decode b_Ma_useRow 0 = .ok (.iload_n 2, 1) := by decide +kernel
theorem d_Ma_useRow_1 : decode b_Ma_useRow 1 = .ok (.bipush 44, 2) := by decide +kernel
theorem d_Ma_useRow_3 : decode b_Ma_useRow 3 = .ok (.if_icmp .ne 10, 3) := by decide +kernel
theorem d_Ma_useRow_6 : decode b_Ma_useRow 6 = .ok (.aload_n 1, 1) := by decide +kernel
theorem d_Ma_useRow_7 : decode b_Ma_useRow 7 = .ok (.invokevirtual 401, 3) := by decide +kernel
theorem d_Ma_useRow_10 : decode b_Ma_useRow 10 = .ok (.goto 4, 3) := by decide +kernel
theorem d_Ma_useRow_13 : decode b_Ma_useRow 13 = .ok (.iconst 0, 1) := by decide +kernel
theorem d_Ma_useRow_14 : decode b_Ma_useRow 14 = .ok (.istore_n 3, 1) := by decide +kernel
theorem d_Ma_useRow_15 : decode b_Ma_useRow 15 = .ok (.iload_n 2, 1) := by decide +kernel
theorem d_Ma_useRow_16 : decode b_Ma_useRow 16 = .ok (.bipush 43, 2) := by decide +kernel
theorem d_Ma_useRow_18 : decode b_Ma_useRow 18 = .ok (.if_icmp .eq 15, 3) := by decide +kernel
theorem d_Ma_useRow_21 : decode b_Ma_useRow 21 = .ok (.iload_n 2, 1) := by decide +kernel
theorem d_Ma_useRow_22 : decode b_Ma_useRow 22 = .ok (.bipush 44, 2) := by decide +kernel
theorem d_Ma_useRow_24 : decode b_Ma_useRow 24 = .ok (.if_icmp .eq 9, 3) := by decide +kernel
theorem d_Ma_useRow_27 : decode b_Ma_useRow 27 = .ok (.iload_n 2, 1) := by decide +kernel
theorem d_Ma_useRow_28 : decode b_Ma_useRow 28 = .ok (.bipush 42, 2) := by decide +kernel
theorem d_Ma_useRow_30 : decode b_Ma_useRow 30 = .ok (.if_icmp .ne 10, 3) := by decide +kernel
theorem d_Ma_useRow_33 : decode b_Ma_useRow 33 = .ok (.aload_n 1, 1) := by decide +kernel
theorem d_Ma_useRow_34 : decode b_Ma_useRow 34 = .ok (.invokevirtual 401, 3) := by decide +kernel
theorem d_Ma_useRow_37 : decode b_Ma_useRow 37 = .ok (.goto 4, 3) := by decide +kernel
theorem d_Ma_useRow_40 : decode b_Ma_useRow 40 = .ok (.iconst 0, 1) := by decide +kernel
theorem d_Ma_useRow_41 : decode b_Ma_useRow 41 = .ok (.istore 4, 2) := by decide +kernel
theorem d_Ma_useRow_43 : decode b_Ma_useRow 43 = .ok (.iload_n 2, 1) := by decide +kernel
theorem d_Ma_useRow_44 : decode b_Ma_useRow 44 = .ok (.bipush 41, 2) := by decide +kernel
theorem d_Ma_useRow_46 : decode b_Ma_useRow 46 = .ok (.if_icmp .ne 53, 3) := by decide +kernel
theorem d_Ma_useRow_49 : decode b_Ma_useRow 49 = .ok (.aload_n 0, 1) := by decide +kernel
theorem d_Ma_useRow_50 : decode b_Ma_useRow 50 = .ok (.getfield 12, 3) := by decide +kernel
theorem d_Ma_useRow_53 : decode b_Ma_useRow 53 = .ok (.aload_n 0, 1) := by decide +kernel
theorem d_Ma_useRow_54 : decode b_Ma_useRow 54 = .ok (.getfield 73, 3) := by decide +kernel
theorem d_Ma_useRow_57 : decode b_Ma_useRow 57 = .ok (.getfield 208, 3) := by decide +kernel
theorem d_Ma_useRow_60 : decode b_Ma_useRow 60 = .ok (.aload_n 0, 1) := by decide +kernel
theorem d_Ma_useRow_61 : decode b_Ma_useRow 61 = .ok (.getfield 69, 3) := by decide +kernel
theorem d_Ma_useRow_64 : decode b_Ma_useRow 64 = .ok (.aload_n 0, 1) := by decide +kernel
theorem d_Ma_useRow_65 : decode b_Ma_useRow 65 = .ok (.getfield 73, 3) := by decide +kernel
theorem d_Ma_useRow_68 : decode b_Ma_useRow 68 = .ok (.getfield 208, 3) := by decide +kernel
theorem d_Ma_useRow_71 : decode b_Ma_useRow 71 = .ok (.bipush 15, 2) := by decide +kernel
theorem d_Ma_useRow_73 : decode b_Ma_useRow 73 = .ok (.invokevirtual 192, 3) := by decide +kernel
theorem d_Ma_useRow_76 : decode b_Ma_useRow 76 = .ok (.invokevirtual 414, 3) := by decide +kernel
theorem d_Ma_useRow_79 : decode b_Ma_useRow 79 = .ok (.istore 5, 2) := by decide +kernel
theorem d_Ma_useRow_81 : decode b_Ma_useRow 81 = .ok (.aload_n 1, 1) := by decide +kernel
theorem d_Ma_useRow_82 : decode b_Ma_useRow 82 = .ok (.iload 5, 2) := by decide +kernel
theorem d_Ma_useRow_84 : decode b_Ma_useRow 84 = .ok (.invokevirtual 336, 3) := by decide +kernel
theorem d_Ma_useRow_87 : decode b_Ma_useRow 87 = .ok (.iload 5, 2) := by decide +kernel
theorem d_Ma_useRow_89 : decode b_Ma_useRow 89 = .ok (.ifCond .ne 8, 3) := by decide +kernel
theorem d_Ma_useRow_92 : decode b_Ma_useRow 92 = .ok (.bipush 9, 2) := by decide +kernel
theorem d_Ma_useRow_94 : decode b_Ma_useRow 94 = .ok (.goto 4, 3) := by decide +kernel
theorem d_Ma_useRow_97 : decode b_Ma_useRow 97 = .ok (.iconst 0, 1) := by decide +kernel
theorem d_Ma_useRow_98 : decode b_Ma_useRow 98 = .ok (.ireturn, 1) := by decide +kernel
theorem d_Ma_useRow_99 : decode b_Ma_useRow 99 = .ok (.iload_n 2, 1) := by decide +kernel
theorem d_Ma_useRow_100 : decode b_Ma_useRow 100 = .ok (.bipush 42, 2) := by decide +kernel
theorem d_Ma_useRow_102 : decode b_Ma_useRow 102 = .ok (.if_icmp .ne 59, 3) := by decide +kernel
theorem d_Ma_useRow_105 : decode b_Ma_useRow 105 = .ok (.iload 4, 2) := by decide +kernel
theorem d_Ma_useRow_107 : decode b_Ma_useRow 107 = .ok (.ifCond .lt 11, 3) := by decide +kernel
theorem d_Ma_useRow_110 : decode b_Ma_useRow 110 = .ok (.iload 4, 2) := by decide +kernel
theorem d_Ma_useRow_112 : decode b_Ma_useRow 112 = .ok (.sipush 300, 3) := by decide +kernel
theorem d_Ma_useRow_115 : decode b_Ma_useRow 115 = .ok (.if_icmp .le 7, 3) := by decide +kernel
theorem d_Ma_useRow_118 : decode b_Ma_useRow 118 = .ok (.iconst 0, 1) := by decide +kernel
theorem d_Ma_useRow_119 : decode b_Ma_useRow 119 = .ok (.goto 13, 3) := by decide +kernel
theorem d_Ma_useRow_122 : decode b_Ma_useRow 122 = .ok (.aload_n 0, 1) := by decide +kernel
theorem d_Ma_useRow_123 : decode b_Ma_useRow 123 = .ok (.getfield 12, 3) := by decide +kernel
theorem d_Ma_useRow_126 : decode b_Ma_useRow 126 = .ok (.iconst (-1), 1) := by decide +kernel
theorem d_Ma_useRow_127 : decode b_Ma_useRow 127 = .ok (.iload 4, 2) := by decide +kernel
theorem d_Ma_useRow_129 : decode b_Ma_useRow 129 = .ok (.invokevirtual 414, 3) := by decide +kernel
theorem d_Ma_useRow_132 : decode b_Ma_useRow 132 = .ok (.istore 5, 2) := by decide +kernel
theorem d_Ma_useRow_134 : decode b_Ma_useRow 134 = .ok (.aload_n 1, 1) := by decide +kernel
theorem d_Ma_useRow_135 : decode b_Ma_useRow 135 = .ok (.iload 5, 2) := by decide +kernel
theorem d_Ma_useRow_137 : decode b_Ma_useRow 137 = .ok (.invokevirtual 336, 3) := by decide +kernel
theorem d_Ma_useRow_140 : decode b_Ma_useRow 140 = .ok (.iload 4, 2) := by decide +kernel
theorem d_Ma_useRow_142 : decode b_Ma_useRow 142 = .ok (.ifCond .ge 7, 3) := by decide +kernel
theorem d_Ma_useRow_145 : decode b_Ma_useRow 145 = .ok (.iconst 5, 1) := by decide +kernel
theorem d_Ma_useRow_146 : decode b_Ma_useRow 146 = .ok (.goto 14, 3) := by decide +kernel
theorem d_Ma_useRow_149 : decode b_Ma_useRow 149 = .ok (.iload 5, 2) := by decide +kernel
theorem d_Ma_useRow_151 : decode b_Ma_useRow 151 = .ok (.ifCond .ne 8, 3) := by decide +kernel
theorem d_Ma_useRow_154 : decode b_Ma_useRow 154 = .ok (.bipush 9, 2) := by decide +kernel
theorem d_Ma_useRow_156 : decode b_Ma_useRow 156 = .ok (.goto 4, 3) := by decide +kernel
theorem d_Ma_useRow_159 : decode b_Ma_useRow 159 = .ok (.iconst 0, 1) := by decide +kernel
theorem d_Ma_useRow_160 : decode b_Ma_useRow 160 = .ok (.ireturn, 1) := by decide +kernel
theorem d_Ma_useRow_161 : decode b_Ma_useRow 161 = .ok (.aload_n 1, 1) := by decide +kernel
theorem d_Ma_useRow_162 : decode b_Ma_useRow 162 = .ok (.invokevirtual 401, 3) := by decide +kernel
theorem d_Ma_useRow_165 : decode b_Ma_useRow 165 = .ok (.istore 5, 2) := by decide +kernel
theorem d_Ma_useRow_167 : decode b_Ma_useRow 167 = .ok (.iload 5, 2) := by decide +kernel
theorem d_Ma_useRow_169 : decode b_Ma_useRow 169 = .ok (.ifCond .ne 5, 3) := by decide +kernel
theorem d_Ma_useRow_172 : decode b_Ma_useRow 172 = .ok (.iconst 2, 1) := by decide +kernel
theorem d_Ma_useRow_173 : decode b_Ma_useRow 173 = .ok (.ireturn, 1) := by decide +kernel
theorem d_Ma_useRow_174 : decode b_Ma_useRow 174 = .ok (.iload_n 2, 1) := by decide +kernel
theorem d_Ma_useRow_175 : decode b_Ma_useRow 175 = .ok (.bipush 45, 2) := by decide +kernel
theorem d_Ma_useRow_177 : decode b_Ma_useRow 177 = .ok (.if_icmp .ne 35, 3) := by decide +kernel
theorem d_Ma_useRow_180 : decode b_Ma_useRow 180 = .ok (.aload_n 1, 1) := by decide +kernel
theorem d_Ma_useRow_181 : decode b_Ma_useRow 181 = .ok (.aload_n 0, 1) := by decide +kernel
theorem d_Ma_useRow_182 : decode b_Ma_useRow 182 = .ok (.getfield 12, 3) := by decide +kernel
theorem d_Ma_useRow_185 : decode b_Ma_useRow 185 = .ok (.iload 5, 2) := by decide +kernel
theorem d_Ma_useRow_187 : decode b_Ma_useRow 187 = .ok (.invokevirtual 417, 3) := by decide +kernel
theorem d_Ma_useRow_190 : decode b_Ma_useRow 190 = .ok (.ifCond .eq 16, 3) := by decide +kernel
theorem d_Ma_useRow_193 : decode b_Ma_useRow 193 = .ok (.aload_n 0, 1) := by decide +kernel
theorem d_Ma_useRow_194 : decode b_Ma_useRow 194 = .ok (.getfield 12, 3) := by decide +kernel
theorem d_Ma_useRow_197 : decode b_Ma_useRow 197 = .ok (.getfield 420, 3) := by decide +kernel
theorem d_Ma_useRow_200 : decode b_Ma_useRow 200 = .ok (.iload 5, 2) := by decide +kernel
theorem d_Ma_useRow_202 : decode b_Ma_useRow 202 = .ok (.iaload, 1) := by decide +kernel
theorem d_Ma_useRow_203 : decode b_Ma_useRow 203 = .ok (.goto 4, 3) := by decide +kernel
theorem d_Ma_useRow_206 : decode b_Ma_useRow 206 = .ok (.iconst 0, 1) := by decide +kernel
theorem d_Ma_useRow_207 : decode b_Ma_useRow 207 = .ok (.invokevirtual 384, 3) := by decide +kernel
theorem d_Ma_useRow_210 : decode b_Ma_useRow 210 = .ok (.iconst 0, 1) := by decide +kernel
theorem d_Ma_useRow_211 : decode b_Ma_useRow 211 = .ok (.ireturn, 1) := by decide +kernel
theorem d_Ma_useRow_212 : decode b_Ma_useRow 212 = .ok (.aload_n 0, 1) := by decide +kernel
theorem d_Ma_useRow_213 : decode b_Ma_useRow 213 = .ok (.getfield 12, 3) := by decide +kernel
theorem d_Ma_useRow_216 : decode b_Ma_useRow 216 = .ok (.iload 5, 2) := by decide +kernel
theorem d_Ma_useRow_218 : decode b_Ma_useRow 218 = .ok (.iload 4, 2) := by decide +kernel
theorem d_Ma_useRow_220 : decode b_Ma_useRow 220 = .ok (.invokevirtual 423, 3) := by decide +kernel
theorem d_Ma_useRow_223 : decode b_Ma_useRow 223 = .ok (.ifCond .ne 5, 3) := by decide +kernel
theorem d_Ma_useRow_226 : decode b_Ma_useRow 226 = .ok (.iconst 4, 1) := by decide +kernel
theorem d_Ma_useRow_227 : decode b_Ma_useRow 227 = .ok (.ireturn, 1) := by decide +kernel
theorem d_Ma_useRow_228 : decode b_Ma_useRow 228 = .ok (.iload_n 2, 1) := by decide +kernel
theorem d_Ma_useRow_229 : decode b_Ma_useRow 229 = .ok (.bipush 43, 2) := by decide +kernel
theorem d_Ma_useRow_231 : decode b_Ma_useRow 231 = .ok (.if_icmp .ne 21, 3) := by decide +kernel
theorem d_Ma_useRow_234 : decode b_Ma_useRow 234 = .ok (.aload_n 1, 1) := by decide +kernel
theorem d_Ma_useRow_235 : decode b_Ma_useRow 235 = .ok (.aload_n 0, 1) := by decide +kernel
theorem d_Ma_useRow_236 : decode b_Ma_useRow 236 = .ok (.getfield 12, 3) := by decide +kernel
theorem d_Ma_useRow_239 : decode b_Ma_useRow 239 = .ok (.iload 5, 2) := by decide +kernel
theorem d_Ma_useRow_241 : decode b_Ma_useRow 241 = .ok (.iload 4, 2) := by decide +kernel
theorem d_Ma_useRow_243 : decode b_Ma_useRow 243 = .ok (.invokevirtual 426, 3) := by decide +kernel
theorem d_Ma_useRow_246 : decode b_Ma_useRow 246 = .ok (.invokevirtual 384, 3) := by decide +kernel
theorem d_Ma_useRow_249 : decode b_Ma_useRow 249 = .ok (.goto 15, 3) := by decide +kernel
theorem d_Ma_useRow_252 : decode b_Ma_useRow 252 = .ok (.aload_n 0, 1) := by decide +kernel
theorem d_Ma_useRow_253 : decode b_Ma_useRow 253 = .ok (.getfield 12, 3) := by decide +kernel
theorem d_Ma_useRow_256 : decode b_Ma_useRow 256 = .ok (.iload 5, 2) := by decide +kernel
theorem d_Ma_useRow_258 : decode b_Ma_useRow 258 = .ok (.iload 4, 2) := by decide +kernel
theorem d_Ma_useRow_260 : decode b_Ma_useRow 260 = .ok (.iload_n 3, 1) := by decide +kernel
theorem d_Ma_useRow_261 : decode b_Ma_useRow 261 = .ok (.invokevirtual 429, 3) := by decide +kernel
theorem d_Ma_useRow_264 : decode b_Ma_useRow 264 = .ok (.iconst 0, 1) := by decide +kernel
theorem d_Ma_useRow_265 : decode b_Ma_useRow 265 = .ok (.ireturn, 1) := by decide +kernel
abbrev ru_Ma_useRow : Room := { frames := 2, cells := 0, slots := 0, locals := 54 }
def wj_Ma_useRow_264 (y : Ly) (Post : St → Int32 → Prop) (a0 : Nat) (a1 : Nat) (s_j264 : St) : Prop := Post s_j264 0
def wj_Ma_useRow_207 (y : Ly) (Post : St → Int32 → Prop) (a0 : Nat) (a1 : Nat) (s_j207 : St) (z1j207 : Int32) : Prop := wu_Ru_pushNumber y (fun (s_14 : St) => Post s_14 0) s_j207 a1 z1j207
def wj_Ma_useRow_160 (y : Ly) (Post : St → Int32 → Prop) (a0 : Nat) (a1 : Nat) (s_j160 : St) (z0j160 : Int32) : Prop := Post s_j160 z0j160
def wj_Ma_useRow_132 (y : Ly) (Post : St → Int32 → Prop) (a0 : Nat) (a1 : Nat) (s_j132 : St) (x4j132 : Int32) (z0j132 : Int32) : Prop := wu_Ru_pushReference y (fun (s_17 : St) => ((0 ≤ x4j132 → ((¬ z0j132 = 0 → wj_Ma_useRow_160 y Post a0 a1 s_17 0) ∧ (z0j132 = 0 → wj_Ma_useRow_160 y Post a0 a1 s_17 9))) ∧ (¬ (0 ≤ x4j132) → wj_Ma_useRow_160 y Post a0 a1 s_17 5))) s_j132 a1 z0j132
def wj_Ma_useRow_118 (y : Ly) (Post : St → Int32 → Prop) (a0 : Nat) (a1 : Nat) (s_j118 : St) (x4j118 : Int32) : Prop := wj_Ma_useRow_132 y Post a0 a1 s_j118 x4j118 0
def wj_Ma_useRow_98 (y : Ly) (Post : St → Int32 → Prop) (a0 : Nat) (a1 : Nat) (s_j98 : St) (z0j98 : Int32) : Prop := Post s_j98 z0j98
def wj_Ma_useRow_41 (y : Ly) (Post : St → Int32 → Prop) (a0 : Nat) (a1 : Nat) (s_j41 : St) (x2j41 : Int32) (x3j41 : Int32) (z0j41 : Int32) : Prop := ((¬ x2j41 = 41 → ((¬ x2j41 = 42 → wu_Ru_popNumber y (fun (s_2 : St) (r_1 : Int32) => ((¬ r_1 = 0 → ((¬ x2j41 = 45 → wu_Hp_isElement y (fun (s_4 : St) (r_3 : Int32) => ((¬ r_3 = 0 → ((¬ x2j41 = 43 → wu_Hp_put y (fun (s_6 : St) => wj_Ma_useRow_264 y Post a0 a1 s_6) s_4 (lk a0 1) r_1 z0j41 x3j41) ∧ (x2j41 = 43 → wu_Hp_get y (fun (s_8 : St) (r_7 : Int32) => wu_Ru_pushNumber y (fun (s_10 : St) => wj_Ma_useRow_264 y Post a0 a1 s_10) s_8 a1 r_7) s_4 (lk a0 1) r_1 z0j41))) ∧ (r_3 = 0 → Post s_4 4))) s_2 (lk a0 1) r_1 z0j41) ∧ (x2j41 = 45 → wu_Hp_there y (fun (s_12 : St) (r_11 : Int32) => ((r_11 = 0 → wj_Ma_useRow_207 y Post a0 a1 s_12 0) ∧ (¬ (r_11 = 0) → xA y s_12 (lk a0 1) 2 r_1 (fun x_15 : Int32 => wj_Ma_useRow_207 y Post a0 a1 s_12 x_15)))) s_2 (lk a0 1) r_1))) ∧ (r_1 = 0 → Post s_2 2))) s_j41 a1) ∧ (x2j41 = 42 → ((z0j41 < 0 → wj_Ma_useRow_118 y Post a0 a1 s_j41 z0j41) ∧ (¬ (z0j41 < 0) → ((z0j41 ≤ 300 → wu_Hp_make y (fun (s_19 : St) (r_18 : Int32) => wj_Ma_useRow_132 y Post a0 a1 s_19 z0j41 r_18) s_j41 (lk a0 1) (-1) z0j41) ∧ (¬ (z0j41 ≤ 300) → wj_Ma_useRow_118 y Post a0 a1 s_j41 z0j41))))))) ∧ (x2j41 = 41 → wu_Wd_of y (fun (s_21 : St) (r_20 : Int32) => wu_Hp_make y (fun (s_23 : St) (r_22 : Int32) => wu_Ru_pushReference y (fun (s_25 : St) => ((¬ r_22 = 0 → wj_Ma_useRow_98 y Post a0 a1 s_25 0) ∧ (r_22 = 0 → wj_Ma_useRow_98 y Post a0 a1 s_25 9))) s_23 a1 r_22) s_21 (lk a0 1) (sV s_j41 (lk a0 14) 0) r_20) s_j41 (lk a0 0) (sV s_j41 (lk a0 14) 0) 15))
def wj_Ma_useRow_33 (y : Ly) (Post : St → Int32 → Prop) (a0 : Nat) (a1 : Nat) (s_j33 : St) (x2j33 : Int32) (x3j33 : Int32) : Prop := wu_Ru_popNumber y (fun (s_27 : St) (r_26 : Int32) => wj_Ma_useRow_41 y Post a0 a1 s_27 x2j33 x3j33 r_26) s_j33 a1
def wj_Ma_useRow_14 (y : Ly) (Post : St → Int32 → Prop) (a0 : Nat) (a1 : Nat) (s_j14 : St) (x2j14 : Int32) (z0j14 : Int32) : Prop := ((x2j14 = 43 → wj_Ma_useRow_33 y Post a0 a1 s_j14 x2j14 z0j14) ∧ (¬ (x2j14 = 43) → ((x2j14 = 44 → wj_Ma_useRow_33 y Post a0 a1 s_j14 x2j14 z0j14) ∧ (¬ (x2j14 = 44) → ((¬ x2j14 = 42 → wj_Ma_useRow_41 y Post a0 a1 s_j14 x2j14 z0j14 0) ∧ (x2j14 = 42 → wj_Ma_useRow_33 y Post a0 a1 s_j14 x2j14 z0j14))))))
def wu_Ma_useRow (y : Ly) (Post : St → Int32 → Prop) (σ : St) (a0 : Nat) (a1 : Nat) (v2 : Int32) : Prop := ((¬ v2 = 44 → wj_Ma_useRow_14 y Post a0 a1 σ v2 0) ∧ (v2 = 44 → wu_Ru_popNumber y (fun (s_29 : St) (r_28 : Int32) => wj_Ma_useRow_14 y Post a0 a1 s_29 v2 r_28) σ a1))
set_option maxHeartbeats 4000000 in
set_option maxRecDepth 100000 in
theorem cu_Ma_useRow (l : Launch) (D : va_G) (g : Nat → ClassId) (ad : Nat → Nat) (y : Ly) (Post : St → Int32 → Prop) (σ : St) (a0 : Nat) (a1 : Nat) (v2 : Int32) (sz : Nat) (h_a0 : cl a0 = 4) (h_a1 : cl a1 = 7) (h : wu_Ma_useRow y Post σ a0 a1 v2) : Met l y_Ma_useRow (mw y_Ma_useRow b_Ma_useRow 6 (some .int)) ru_Ma_useRow (PC g D [] [.ref (ad a0), .ref (ad a1), .int v2] sz (ws g ad y σ)) (va_Qi (fun (r : Int32) (u : St) => Post u r) (QW D (va_A (ws g ad y σ) sz) (fun u => ws g ad y u)) (va_A (ws g ad y σ) sz)) 0 0 (va_A (ws g ad y σ) sz) := by
  refine ofI (by decide +kernel) (Nat.le_of_ble_eq_true rfl) ?_
  intro p e s m args below meth c A Q ls H locs G hsz hP hD hS hl hret
  subst hsz
  have hl : lv_has ls 6 [(0, .ref (ad a0)), (1, .ref (ad a1)), (2, .int v2)] := hl
  unfold wu_Ma_useRow at h
  refine lv_iload_n G.1 G.2.1 d_Ma_useRow_0 rfl (lv_at hl 2 rfl) ?_
  refine lv_bipush (v := 44) G.1 G.2.1 d_Ma_useRow_1 (by decide) ?_
  have J_14 : ∀ (s_j14 : St) (x2j14 : Int32) (z0j14 : Int32) (H : Heap) (locs : List Loc), wj_Ma_useRow_14 y Post a0 a1 s_j14 x2j14 z0j14 → va_P D CL (ws g ad y s_j14) H → va_D A (ws g ad y s_j14) → va_S A s.heap H locs → ∀ ls, lv_has ls 6 [(0, .ref (ad a0)), (1, .ref (ad a1)), (2, .int x2j14)] → W p l e ru_Ma_useRow s m args below meth c H locs 0 0 Q (F0 m 14 ls [.int z0j14]) := by
    intro s_j14 x2j14 z0j14 H locs h hP hD hS ls hl
    unfold wj_Ma_useRow_14 at h
    refine lv_istore_n (lv' := [(3, .int z0j14), (0, .ref (ad a0)), (1, .ref (ad a1)), (2, .int x2j14)]) G.1 G.2.1 d_Ma_useRow_14 rfl hl (by decide) rfl (fun ls hl => ?_)
    refine lv_iload_n G.1 G.2.1 d_Ma_useRow_15 rfl (lv_at hl 3 rfl) ?_
    refine lv_bipush (v := 43) G.1 G.2.1 d_Ma_useRow_16 (by decide) ?_
    have J_41 : ∀ (s_j41 : St) (x2j41 : Int32) (x3j41 : Int32) (z0j41 : Int32) (H : Heap) (locs : List Loc), wj_Ma_useRow_41 y Post a0 a1 s_j41 x2j41 x3j41 z0j41 → va_P D CL (ws g ad y s_j41) H → va_D A (ws g ad y s_j41) → va_S A s.heap H locs → ∀ ls, lv_has ls 6 [(0, .ref (ad a0)), (1, .ref (ad a1)), (2, .int x2j41), (3, .int x3j41)] → W p l e ru_Ma_useRow s m args below meth c H locs 0 0 Q (F0 m 41 ls [.int z0j41]) := by
      intro s_j41 x2j41 x3j41 z0j41 H locs h hP hD hS ls hl
      unfold wj_Ma_useRow_41 at h
      refine lv_istore (lv' := [(4, .int z0j41), (0, .ref (ad a0)), (1, .ref (ad a1)), (2, .int x2j41), (3, .int x3j41)]) G.1 G.2.1 d_Ma_useRow_41 hl (by decide) rfl (fun ls hl => ?_)
      refine lv_iload_n G.1 G.2.1 d_Ma_useRow_43 rfl (lv_at hl 3 rfl) ?_
      refine lv_bipush (v := 41) G.1 G.2.1 d_Ma_useRow_44 (by decide) ?_
      refine lv_icmp_ne (tgt := 99) G.1 G.2.1 d_Ma_useRow_46 (by decide) (fun c46 => ?_) (fun c46 => ?_)
      · skip
        have h := h.1 c46
        refine lv_iload_n G.1 G.2.1 d_Ma_useRow_99 rfl (lv_at hl 3 rfl) ?_
        refine lv_bipush (v := 42) G.1 G.2.1 d_Ma_useRow_100 (by decide) ?_
        refine lv_icmp_ne (tgt := 161) G.1 G.2.1 d_Ma_useRow_102 (by decide) (fun c102 => ?_) (fun c102 => ?_)
        · skip
          have h := h.1 c102
          refine lv_aload_n G.1 G.2.1 d_Ma_useRow_161 rfl (lv_at hl 2 rfl) ?_
          refine ucVi (As := []) (rest := []) G hP hD hS (cu_Ru_popNumber l D g ad y _ s_j41 a1 H.size h_a1 h) w9_Ru_popNumber q1940 ⟨Nat.le_of_ble_eq_true rfl, Nat.le_of_ble_eq_true rfl⟩ rfl rfl h_a1 (q := (RRu, TRu, 19)) rfl rfl hl.1 rfl (Nat.le_of_ble_eq_true rfl) rfl ⟨Nat.le_refl _, Nat.le_refl _⟩ d_Ma_useRow_162 (fun r_1 s_2 H locs h hP hD hS => ?_)
          refine lv_istore (lv' := [(5, .int r_1), (4, .int z0j41), (0, .ref (ad a0)), (1, .ref (ad a1)), (2, .int x2j41), (3, .int x3j41)]) G.1 G.2.1 d_Ma_useRow_165 hl (by decide) rfl (fun ls hl => ?_)
          refine lv_iload G.1 G.2.1 d_Ma_useRow_167 (lv_at hl 0 rfl) ?_
          refine W.eq (g2 := F0 m 169 ls [.int r_1]) rfl ?_
          refine lv_if_ne (tgt := 174) G.1 G.2.1 d_Ma_useRow_169 (by decide) (fun c169 => ?_) (fun c169 => ?_)
          · skip
            have h := h.1 c169
            refine lv_iload_n G.1 G.2.1 d_Ma_useRow_174 rfl (lv_at hl 4 rfl) ?_
            refine lv_bipush (v := 45) G.1 G.2.1 d_Ma_useRow_175 (by decide) ?_
            refine lv_icmp_ne (tgt := 212) G.1 G.2.1 d_Ma_useRow_177 (by decide) (fun c177 => ?_) (fun c177 => ?_)
            · skip
              have h := h.1 c177
              refine lv_aload_n G.1 G.2.1 d_Ma_useRow_212 rfl (lv_at hl 2 rfl) ?_
              refine ugf (v := .ref (ad (lk a0 1))) G hP h_a0 iMa rfl 1 (by decide) rfl q1067 rfl rfl d_Ma_useRow_213 ?_
              refine lv_iload G.1 G.2.1 d_Ma_useRow_216 (lv_at hl 0 rfl) ?_
              refine lv_iload G.1 G.2.1 d_Ma_useRow_218 (lv_at hl 1 rfl) ?_
              refine ucVi (As := [.int r_1, .int z0j41]) (rest := []) G hP hD hS (cu_Hp_isElement l D g ad y _ s_2 (lk a0 1) r_1 z0j41 H.size (lk_4_1 h_a0) h) w9_Hp_isElement q2019 ⟨Nat.le_of_ble_eq_true rfl, Nat.le_of_ble_eq_true rfl⟩ rfl rfl (lk_4_1 h_a0) (q := (RHp, THp, 15)) rfl rfl hl.1 rfl (Nat.le_of_ble_eq_true rfl) rfl ⟨Nat.le_refl _, Nat.le_refl _⟩ d_Ma_useRow_220 (fun r_3 s_4 H locs h hP hD hS => ?_)
              refine lv_if_ne (tgt := 228) G.1 G.2.1 d_Ma_useRow_223 (by decide) (fun c223 => ?_) (fun c223 => ?_)
              · skip
                have h := h.1 c223
                refine lv_iload_n G.1 G.2.1 d_Ma_useRow_228 rfl (lv_at hl 4 rfl) ?_
                refine lv_bipush (v := 43) G.1 G.2.1 d_Ma_useRow_229 (by decide) ?_
                have J_264 : ∀ (s_j264 : St) (H : Heap) (locs : List Loc), wj_Ma_useRow_264 y Post a0 a1 s_j264 → va_P D CL (ws g ad y s_j264) H → va_D A (ws g ad y s_j264) → va_S A s.heap H locs → ∀ ls, lv_has ls 6 [] → W p l e ru_Ma_useRow s m args below meth c H locs 0 0 Q (F0 m 264 ls []) := by
                  intro s_j264 H locs h hP hD hS ls hl
                  unfold wj_Ma_useRow_264 at h
                  refine lv_iconst (v := 0) G.1 G.2.1 d_Ma_useRow_264 (by decide) ?_
                  exact hret _ _ _ _ _ _ _ ls h hP hD hS (Nat.le_refl _) (Nat.le_refl _) d_Ma_useRow_265
                refine W.eq (g2 := F0 m 231 ls [.int 43, .int x2j41]) rfl ?_
                refine lv_icmp_ne (tgt := 252) G.1 G.2.1 d_Ma_useRow_231 (by decide) (fun c231 => ?_) (fun c231 => ?_)
                · skip
                  have h := h.1 c231
                  refine lv_aload_n G.1 G.2.1 d_Ma_useRow_252 rfl (lv_at hl 2 rfl) ?_
                  refine ugf (v := .ref (ad (lk a0 1))) G hP h_a0 iMa rfl 1 (by decide) rfl q1067 rfl rfl d_Ma_useRow_253 ?_
                  refine lv_iload G.1 G.2.1 d_Ma_useRow_256 (lv_at hl 0 rfl) ?_
                  refine lv_iload G.1 G.2.1 d_Ma_useRow_258 (lv_at hl 1 rfl) ?_
                  refine lv_iload_n G.1 G.2.1 d_Ma_useRow_260 rfl (lv_at hl 5 rfl) ?_
                  refine ucVv (As := [.int r_1, .int z0j41, .int x3j41]) (rest := []) G hP hD hS (cu_Hp_put l D g ad y _ s_4 (lk a0 1) r_1 z0j41 x3j41 H.size (lk_4_1 h_a0) h) w9_Hp_put q1994 ⟨Nat.le_of_ble_eq_true rfl, Nat.le_of_ble_eq_true rfl⟩ rfl rfl (lk_4_1 h_a0) (q := (RHp, THp, 15)) rfl rfl hl.1 rfl (Nat.le_of_ble_eq_true rfl) rfl ⟨Nat.le_refl _, Nat.le_refl _⟩ d_Ma_useRow_261 (fun s_6 H locs h hP hD hS => ?_)
                  exact J_264 s_6 H locs h hP hD hS ls (lv_sub hl [] rfl)
                · skip
                  have h := h.2 c231
                  refine lv_aload_n G.1 G.2.1 d_Ma_useRow_234 rfl (lv_at hl 3 rfl) ?_
                  refine lv_aload_n G.1 G.2.1 d_Ma_useRow_235 rfl (lv_at hl 2 rfl) ?_
                  refine ugf (v := .ref (ad (lk a0 1))) G hP h_a0 iMa rfl 1 (by decide) rfl q1067 rfl rfl d_Ma_useRow_236 ?_
                  refine lv_iload G.1 G.2.1 d_Ma_useRow_239 (lv_at hl 0 rfl) ?_
                  refine lv_iload G.1 G.2.1 d_Ma_useRow_241 (lv_at hl 1 rfl) ?_
                  refine ucVi (As := [.int r_1, .int z0j41]) (rest := [.ref (ad a1)]) G hP hD hS (cu_Hp_get l D g ad y _ s_4 (lk a0 1) r_1 z0j41 H.size (lk_4_1 h_a0) h) w9_Hp_get q2002 ⟨Nat.le_of_ble_eq_true rfl, Nat.le_of_ble_eq_true rfl⟩ rfl rfl (lk_4_1 h_a0) (q := (RHp, THp, 15)) rfl rfl hl.1 rfl (Nat.le_of_ble_eq_true rfl) rfl ⟨Nat.le_refl _, Nat.le_refl _⟩ d_Ma_useRow_243 (fun r_7 s_8 H locs h hP hD hS => ?_)
                  refine ucVv (As := [.int r_7]) (rest := []) G hP hD hS (cu_Ru_pushNumber l D g ad y _ s_8 a1 r_7 H.size h_a1 h) w9_Ru_pushNumber q1955 ⟨Nat.le_of_ble_eq_true rfl, Nat.le_of_ble_eq_true rfl⟩ rfl rfl h_a1 (q := (RRu, TRu, 19)) rfl rfl hl.1 rfl (Nat.le_of_ble_eq_true rfl) rfl ⟨Nat.le_refl _, Nat.le_refl _⟩ d_Ma_useRow_246 (fun s_10 H locs h hP hD hS => ?_)
                  refine lv_goto (tgt := 264) G.1 G.2.1 d_Ma_useRow_249 (by decide) ?_
                  exact J_264 s_10 H locs h hP hD hS ls (lv_sub hl [] rfl)
              · skip
                have h := h.2 c223
                refine lv_iconst (v := 4) G.1 G.2.1 d_Ma_useRow_226 (by decide) ?_
                exact hret _ _ _ _ _ _ _ ls h hP hD hS (Nat.le_refl _) (Nat.le_refl _) d_Ma_useRow_227
            · skip
              have h := h.2 c177
              refine lv_aload_n G.1 G.2.1 d_Ma_useRow_180 rfl (lv_at hl 3 rfl) ?_
              refine lv_aload_n G.1 G.2.1 d_Ma_useRow_181 rfl (lv_at hl 2 rfl) ?_
              refine ugf (v := .ref (ad (lk a0 1))) G hP h_a0 iMa rfl 1 (by decide) rfl q1067 rfl rfl d_Ma_useRow_182 ?_
              refine lv_iload G.1 G.2.1 d_Ma_useRow_185 (lv_at hl 0 rfl) ?_
              refine ucVi (As := [.int r_1]) (rest := [.ref (ad a1)]) G hP hD hS (cu_Hp_there l D g ad y _ s_2 (lk a0 1) r_1 H.size (lk_4_1 h_a0) h) w9_Hp_there q2015 ⟨Nat.le_of_ble_eq_true rfl, Nat.le_of_ble_eq_true rfl⟩ rfl rfl (lk_4_1 h_a0) (q := (RHp, THp, 15)) rfl rfl hl.1 rfl (Nat.le_of_ble_eq_true rfl) rfl ⟨Nat.le_refl _, Nat.le_refl _⟩ d_Ma_useRow_187 (fun r_11 s_12 H locs h hP hD hS => ?_)
              have J_207 : ∀ (s_j207 : St) (z1j207 : Int32) (H : Heap) (locs : List Loc), wj_Ma_useRow_207 y Post a0 a1 s_j207 z1j207 → va_P D CL (ws g ad y s_j207) H → va_D A (ws g ad y s_j207) → va_S A s.heap H locs → ∀ ls, lv_has ls 6 [] → W p l e ru_Ma_useRow s m args below meth c H locs 0 0 Q (F0 m 207 ls [.int z1j207, .ref (ad a1)]) := by
                intro s_j207 z1j207 H locs h hP hD hS ls hl
                unfold wj_Ma_useRow_207 at h
                refine ucVv (As := [.int z1j207]) (rest := []) G hP hD hS (cu_Ru_pushNumber l D g ad y _ s_j207 a1 z1j207 H.size h_a1 h) w9_Ru_pushNumber q1955 ⟨Nat.le_of_ble_eq_true rfl, Nat.le_of_ble_eq_true rfl⟩ rfl rfl h_a1 (q := (RRu, TRu, 19)) rfl rfl hl.1 rfl (Nat.le_of_ble_eq_true rfl) rfl ⟨Nat.le_refl _, Nat.le_refl _⟩ d_Ma_useRow_207 (fun s_14 H locs h hP hD hS => ?_)
                refine lv_iconst (v := 0) G.1 G.2.1 d_Ma_useRow_210 (by decide) ?_
                exact hret _ _ _ _ _ _ _ ls h hP hD hS (Nat.le_refl _) (Nat.le_refl _) d_Ma_useRow_211
              refine lv_if_eq (tgt := 206) G.1 G.2.1 d_Ma_useRow_190 (by decide) (fun c190 => ?_) (fun c190 => ?_)
              · skip
                have h := h.1 c190
                refine lv_iconst (v := 0) G.1 G.2.1 d_Ma_useRow_206 (by decide) ?_
                exact J_207 s_12 0 H locs h hP hD hS ls (lv_sub hl [] rfl)
              · skip
                have h := h.2 c190
                refine lv_aload_n G.1 G.2.1 d_Ma_useRow_193 rfl (lv_at hl 2 rfl) ?_
                refine ugf (v := .ref (ad (lk a0 1))) G hP h_a0 iMa rfl 1 (by decide) rfl q1067 rfl rfl d_Ma_useRow_194 ?_
                refine W.eq (g2 := F0 m 197 ls [.ref (ad (lk a0 1)), .ref (ad a1)]) rfl ?_
                refine ugf (v := .ref (yP y (lk a0 1) 2)) G hP (lk_4_1 h_a0) iHp rfl 2 (by decide) rfl q920 rfl rfl d_Ma_useRow_197 ?_
                refine lv_iload G.1 G.2.1 d_Ma_useRow_200 (lv_at hl 0 rfl) ?_
                refine uiald G hP (kdp (lk_4_1 h_a0) rfl) (typ (lk_4_1 h_a0) rfl) h d_Ma_useRow_202 (fun x_15 h => ?_)
                refine lv_goto (tgt := 207) G.1 G.2.1 d_Ma_useRow_203 (by decide) ?_
                exact J_207 s_12 x_15 H locs h hP hD hS ls (lv_sub hl [] rfl)
          · skip
            have h := h.2 c169
            refine lv_iconst (v := 2) G.1 G.2.1 d_Ma_useRow_172 (by decide) ?_
            exact hret _ _ _ _ _ _ _ ls h hP hD hS (Nat.le_refl _) (Nat.le_refl _) d_Ma_useRow_173
        · skip
          have h := h.2 c102
          refine lv_iload G.1 G.2.1 d_Ma_useRow_105 (lv_at hl 0 rfl) ?_
          have J_132 : ∀ (s_j132 : St) (x4j132 : Int32) (z0j132 : Int32) (H : Heap) (locs : List Loc), wj_Ma_useRow_132 y Post a0 a1 s_j132 x4j132 z0j132 → va_P D CL (ws g ad y s_j132) H → va_D A (ws g ad y s_j132) → va_S A s.heap H locs → ∀ ls, lv_has ls 6 [(1, .ref (ad a1)), (4, .int x4j132)] → W p l e ru_Ma_useRow s m args below meth c H locs 0 0 Q (F0 m 132 ls [.int z0j132]) := by
            intro s_j132 x4j132 z0j132 H locs h hP hD hS ls hl
            unfold wj_Ma_useRow_132 at h
            refine lv_istore (lv' := [(5, .int z0j132), (1, .ref (ad a1)), (4, .int x4j132)]) G.1 G.2.1 d_Ma_useRow_132 hl (by decide) rfl (fun ls hl => ?_)
            refine lv_aload_n G.1 G.2.1 d_Ma_useRow_134 rfl (lv_at hl 1 rfl) ?_
            refine lv_iload G.1 G.2.1 d_Ma_useRow_135 (lv_at hl 0 rfl) ?_
            refine ucVv (As := [.int z0j132]) (rest := []) G hP hD hS (cu_Ru_pushReference l D g ad y _ s_j132 a1 z0j132 H.size h_a1 h) w9_Ru_pushReference q1961 ⟨Nat.le_of_ble_eq_true rfl, Nat.le_of_ble_eq_true rfl⟩ rfl rfl h_a1 (q := (RRu, TRu, 19)) rfl rfl hl.1 rfl (Nat.le_of_ble_eq_true rfl) rfl ⟨Nat.le_refl _, Nat.le_refl _⟩ d_Ma_useRow_137 (fun s_17 H locs h hP hD hS => ?_)
            refine lv_iload G.1 G.2.1 d_Ma_useRow_140 (lv_at hl 2 rfl) ?_
            have J_160 : ∀ (s_j160 : St) (z0j160 : Int32) (H : Heap) (locs : List Loc), wj_Ma_useRow_160 y Post a0 a1 s_j160 z0j160 → va_P D CL (ws g ad y s_j160) H → va_D A (ws g ad y s_j160) → va_S A s.heap H locs → ∀ ls, lv_has ls 6 [] → W p l e ru_Ma_useRow s m args below meth c H locs 0 0 Q (F0 m 160 ls [.int z0j160]) := by
              intro s_j160 z0j160 H locs h hP hD hS ls hl
              unfold wj_Ma_useRow_160 at h
              exact hret _ _ _ _ _ _ _ ls h hP hD hS (Nat.le_refl _) (Nat.le_refl _) d_Ma_useRow_160
            refine lv_if_ge (tgt := 149) G.1 G.2.1 d_Ma_useRow_142 (by decide) (fun c142 => ?_) (fun c142 => ?_)
            · skip
              have h := h.1 c142
              refine lv_iload G.1 G.2.1 d_Ma_useRow_149 (lv_at hl 0 rfl) ?_
              refine lv_if_ne (tgt := 159) G.1 G.2.1 d_Ma_useRow_151 (by decide) (fun c151 => ?_) (fun c151 => ?_)
              · skip
                have h := h.1 c151
                refine lv_iconst (v := 0) G.1 G.2.1 d_Ma_useRow_159 (by decide) ?_
                exact J_160 s_17 0 H locs h hP hD hS ls (lv_sub hl [] rfl)
              · skip
                have h := h.2 c151
                refine lv_bipush (v := 9) G.1 G.2.1 d_Ma_useRow_154 (by decide) ?_
                refine lv_goto (tgt := 160) G.1 G.2.1 d_Ma_useRow_156 (by decide) ?_
                exact J_160 s_17 9 H locs h hP hD hS ls (lv_sub hl [] rfl)
            · skip
              have h := h.2 c142
              refine lv_iconst (v := 5) G.1 G.2.1 d_Ma_useRow_145 (by decide) ?_
              refine lv_goto (tgt := 160) G.1 G.2.1 d_Ma_useRow_146 (by decide) ?_
              exact J_160 s_17 5 H locs h hP hD hS ls (lv_sub hl [] rfl)
          have J_118 : ∀ (s_j118 : St) (x4j118 : Int32) (H : Heap) (locs : List Loc), wj_Ma_useRow_118 y Post a0 a1 s_j118 x4j118 → va_P D CL (ws g ad y s_j118) H → va_D A (ws g ad y s_j118) → va_S A s.heap H locs → ∀ ls, lv_has ls 6 [(1, .ref (ad a1)), (4, .int x4j118)] → W p l e ru_Ma_useRow s m args below meth c H locs 0 0 Q (F0 m 118 ls []) := by
            intro s_j118 x4j118 H locs h hP hD hS ls hl
            unfold wj_Ma_useRow_118 at h
            refine lv_iconst (v := 0) G.1 G.2.1 d_Ma_useRow_118 (by decide) ?_
            refine lv_goto (tgt := 132) G.1 G.2.1 d_Ma_useRow_119 (by decide) ?_
            exact J_132 s_j118 x4j118 0 H locs h hP hD hS ls (lv_sub hl [0, 1] rfl)
          refine lv_if_lt (tgt := 118) G.1 G.2.1 d_Ma_useRow_107 (by decide) (fun c107 => ?_) (fun c107 => ?_)
          · skip
            have h := h.1 c107
            exact J_118 s_j41 z0j41 H locs h hP hD hS ls (lv_sub hl [2, 0] rfl)
          · skip
            have h := h.2 c107
            refine lv_iload G.1 G.2.1 d_Ma_useRow_110 (lv_at hl 0 rfl) ?_
            refine lv_sipush (v := 300) G.1 G.2.1 d_Ma_useRow_112 (by decide) ?_
            refine W.eq (g2 := F0 m 115 ls [.int 300, .int z0j41]) rfl ?_
            refine lv_icmp_le (tgt := 122) G.1 G.2.1 d_Ma_useRow_115 (by decide) (fun c115 => ?_) (fun c115 => ?_)
            · skip
              have h := h.1 c115
              refine lv_aload_n G.1 G.2.1 d_Ma_useRow_122 rfl (lv_at hl 1 rfl) ?_
              refine ugf (v := .ref (ad (lk a0 1))) G hP h_a0 iMa rfl 1 (by decide) rfl q1067 rfl rfl d_Ma_useRow_123 ?_
              refine lv_iconst (v := (-1)) G.1 G.2.1 d_Ma_useRow_126 (by decide) ?_
              refine lv_iload G.1 G.2.1 d_Ma_useRow_127 (lv_at hl 0 rfl) ?_
              refine ucVi (As := [.int (-1), .int z0j41]) (rest := []) G hP hD hS (cu_Hp_make l D g ad y _ s_j41 (lk a0 1) (-1) z0j41 H.size (lk_4_1 h_a0) h) w9_Hp_make q2010 ⟨Nat.le_of_ble_eq_true rfl, Nat.le_of_ble_eq_true rfl⟩ rfl rfl (lk_4_1 h_a0) (q := (RHp, THp, 15)) rfl rfl hl.1 rfl (Nat.le_of_ble_eq_true rfl) rfl ⟨Nat.le_refl _, Nat.le_refl _⟩ d_Ma_useRow_129 (fun r_18 s_19 H locs h hP hD hS => ?_)
              exact J_132 s_19 z0j41 r_18 H locs h hP hD hS ls (lv_sub hl [2, 0] rfl)
            · skip
              have h := h.2 c115
              exact J_118 s_j41 z0j41 H locs h hP hD hS ls (lv_sub hl [2, 0] rfl)
      · skip
        have h := h.2 c46
        refine lv_aload_n G.1 G.2.1 d_Ma_useRow_49 rfl (lv_at hl 1 rfl) ?_
        refine ugf (v := .ref (ad (lk a0 1))) G hP h_a0 iMa rfl 1 (by decide) rfl q1067 rfl rfl d_Ma_useRow_50 ?_
        refine lv_aload_n G.1 G.2.1 d_Ma_useRow_53 rfl (lv_at hl 1 rfl) ?_
        refine ugf (v := .ref (ad (lk a0 14))) G hP h_a0 iMa rfl 14 (by decide) rfl q1090 rfl rfl d_Ma_useRow_54 ?_
        refine ugf (v := .int (sV s_j41 (lk a0 14) 0)) G hP (lk_4_14 h_a0) iFi rfl 0 (by decide) rfl q727 rfl rfl d_Ma_useRow_57 ?_
        refine lv_aload_n G.1 G.2.1 d_Ma_useRow_60 rfl (lv_at hl 1 rfl) ?_
        refine ugf (v := .ref (ad (lk a0 0))) G hP h_a0 iMa rfl 0 (by decide) rfl q1065 rfl rfl d_Ma_useRow_61 ?_
        refine W.eq (g2 := F0 m 64 ls [.ref (ad (lk a0 0)), .int (sV s_j41 (lk a0 14) 0), .ref (ad (lk a0 1))]) rfl ?_
        refine lv_aload_n G.1 G.2.1 d_Ma_useRow_64 rfl (lv_at hl 1 rfl) ?_
        refine ugf (v := .ref (ad (lk a0 14))) G hP h_a0 iMa rfl 14 (by decide) rfl q1090 rfl rfl d_Ma_useRow_65 ?_
        refine ugf (v := .int (sV s_j41 (lk a0 14) 0)) G hP (lk_4_14 h_a0) iFi rfl 0 (by decide) rfl q727 rfl rfl d_Ma_useRow_68 ?_
        refine lv_bipush (v := 15) G.1 G.2.1 d_Ma_useRow_71 (by decide) ?_
        refine ucVi (As := [.int (sV s_j41 (lk a0 14) 0), .int 15]) (rest := [.int (sV s_j41 (lk a0 14) 0), .ref (ad (lk a0 1))]) G hP hD hS (cu_Wd_of l D g ad y _ s_j41 (lk a0 0) (sV s_j41 (lk a0 14) 0) 15 H.size (lk_4_0 h_a0) h) w9_Wd_of q1810 ⟨Nat.le_of_ble_eq_true rfl, Nat.le_of_ble_eq_true rfl⟩ rfl rfl (lk_4_0 h_a0) (q := (RWd, TWd, 17)) rfl rfl hl.1 rfl (Nat.le_of_ble_eq_true rfl) rfl ⟨Nat.le_refl _, Nat.le_refl _⟩ d_Ma_useRow_73 (fun r_20 s_21 H locs h hP hD hS => ?_)
        refine ucVi (As := [.int (sV s_j41 (lk a0 14) 0), .int r_20]) (rest := []) G hP hD hS (cu_Hp_make l D g ad y _ s_21 (lk a0 1) (sV s_j41 (lk a0 14) 0) r_20 H.size (lk_4_1 h_a0) h) w9_Hp_make q2010 ⟨Nat.le_of_ble_eq_true rfl, Nat.le_of_ble_eq_true rfl⟩ rfl rfl (lk_4_1 h_a0) (q := (RHp, THp, 15)) rfl rfl hl.1 rfl (Nat.le_of_ble_eq_true rfl) rfl ⟨Nat.le_refl _, Nat.le_refl _⟩ d_Ma_useRow_76 (fun r_22 s_23 H locs h hP hD hS => ?_)
        refine lv_istore (lv' := [(5, .int r_22), (4, .int z0j41), (0, .ref (ad a0)), (1, .ref (ad a1)), (2, .int x2j41), (3, .int x3j41)]) G.1 G.2.1 d_Ma_useRow_79 hl (by decide) rfl (fun ls hl => ?_)
        refine lv_aload_n G.1 G.2.1 d_Ma_useRow_81 rfl (lv_at hl 3 rfl) ?_
        refine lv_iload G.1 G.2.1 d_Ma_useRow_82 (lv_at hl 0 rfl) ?_
        refine ucVv (As := [.int r_22]) (rest := []) G hP hD hS (cu_Ru_pushReference l D g ad y _ s_23 a1 r_22 H.size h_a1 h) w9_Ru_pushReference q1961 ⟨Nat.le_of_ble_eq_true rfl, Nat.le_of_ble_eq_true rfl⟩ rfl rfl h_a1 (q := (RRu, TRu, 19)) rfl rfl hl.1 rfl (Nat.le_of_ble_eq_true rfl) rfl ⟨Nat.le_refl _, Nat.le_refl _⟩ d_Ma_useRow_84 (fun s_25 H locs h hP hD hS => ?_)
        refine lv_iload G.1 G.2.1 d_Ma_useRow_87 (lv_at hl 0 rfl) ?_
        have J_98 : ∀ (s_j98 : St) (z0j98 : Int32) (H : Heap) (locs : List Loc), wj_Ma_useRow_98 y Post a0 a1 s_j98 z0j98 → va_P D CL (ws g ad y s_j98) H → va_D A (ws g ad y s_j98) → va_S A s.heap H locs → ∀ ls, lv_has ls 6 [] → W p l e ru_Ma_useRow s m args below meth c H locs 0 0 Q (F0 m 98 ls [.int z0j98]) := by
          intro s_j98 z0j98 H locs h hP hD hS ls hl
          unfold wj_Ma_useRow_98 at h
          exact hret _ _ _ _ _ _ _ ls h hP hD hS (Nat.le_refl _) (Nat.le_refl _) d_Ma_useRow_98
        refine lv_if_ne (tgt := 97) G.1 G.2.1 d_Ma_useRow_89 (by decide) (fun c89 => ?_) (fun c89 => ?_)
        · skip
          have h := h.1 c89
          refine W.eq (g2 := F0 m 97 ls []) rfl ?_
          refine lv_iconst (v := 0) G.1 G.2.1 d_Ma_useRow_97 (by decide) ?_
          exact J_98 s_25 0 H locs h hP hD hS ls (lv_sub hl [] rfl)
        · skip
          have h := h.2 c89
          refine W.eq (g2 := F0 m 92 ls []) rfl ?_
          refine lv_bipush (v := 9) G.1 G.2.1 d_Ma_useRow_92 (by decide) ?_
          refine lv_goto (tgt := 98) G.1 G.2.1 d_Ma_useRow_94 (by decide) ?_
          exact J_98 s_25 9 H locs h hP hD hS ls (lv_sub hl [] rfl)
    have J_33 : ∀ (s_j33 : St) (x2j33 : Int32) (x3j33 : Int32) (H : Heap) (locs : List Loc), wj_Ma_useRow_33 y Post a0 a1 s_j33 x2j33 x3j33 → va_P D CL (ws g ad y s_j33) H → va_D A (ws g ad y s_j33) → va_S A s.heap H locs → ∀ ls, lv_has ls 6 [(0, .ref (ad a0)), (1, .ref (ad a1)), (2, .int x2j33), (3, .int x3j33)] → W p l e ru_Ma_useRow s m args below meth c H locs 0 0 Q (F0 m 33 ls []) := by
      intro s_j33 x2j33 x3j33 H locs h hP hD hS ls hl
      unfold wj_Ma_useRow_33 at h
      refine lv_aload_n G.1 G.2.1 d_Ma_useRow_33 rfl (lv_at hl 1 rfl) ?_
      refine ucVi (As := []) (rest := []) G hP hD hS (cu_Ru_popNumber l D g ad y _ s_j33 a1 H.size h_a1 h) w9_Ru_popNumber q1940 ⟨Nat.le_of_ble_eq_true rfl, Nat.le_of_ble_eq_true rfl⟩ rfl rfl h_a1 (q := (RRu, TRu, 19)) rfl rfl hl.1 rfl (Nat.le_of_ble_eq_true rfl) rfl ⟨Nat.le_refl _, Nat.le_refl _⟩ d_Ma_useRow_34 (fun r_26 s_27 H locs h hP hD hS => ?_)
      refine lv_goto (tgt := 41) G.1 G.2.1 d_Ma_useRow_37 (by decide) ?_
      exact J_41 s_27 x2j33 x3j33 r_26 H locs h hP hD hS ls (lv_sub hl [0, 1, 2, 3] rfl)
    refine lv_icmp_eq (tgt := 33) G.1 G.2.1 d_Ma_useRow_18 (by decide) (fun c18 => ?_) (fun c18 => ?_)
    · skip
      have h := h.1 c18
      exact J_33 s_j14 x2j14 z0j14 H locs h hP hD hS ls (lv_sub hl [1, 2, 3, 0] rfl)
    · skip
      have h := h.2 c18
      refine lv_iload_n G.1 G.2.1 d_Ma_useRow_21 rfl (lv_at hl 3 rfl) ?_
      refine lv_bipush (v := 44) G.1 G.2.1 d_Ma_useRow_22 (by decide) ?_
      refine lv_icmp_eq (tgt := 33) G.1 G.2.1 d_Ma_useRow_24 (by decide) (fun c24 => ?_) (fun c24 => ?_)
      · skip
        have h := h.1 c24
        exact J_33 s_j14 x2j14 z0j14 H locs h hP hD hS ls (lv_sub hl [1, 2, 3, 0] rfl)
      · skip
        have h := h.2 c24
        refine lv_iload_n G.1 G.2.1 d_Ma_useRow_27 rfl (lv_at hl 3 rfl) ?_
        refine lv_bipush (v := 42) G.1 G.2.1 d_Ma_useRow_28 (by decide) ?_
        refine lv_icmp_ne (tgt := 40) G.1 G.2.1 d_Ma_useRow_30 (by decide) (fun c30 => ?_) (fun c30 => ?_)
        · skip
          have h := h.1 c30
          refine lv_iconst (v := 0) G.1 G.2.1 d_Ma_useRow_40 (by decide) ?_
          exact J_41 s_j14 x2j14 z0j14 0 H locs h hP hD hS ls (lv_sub hl [1, 2, 3, 0] rfl)
        · skip
          have h := h.2 c30
          exact J_33 s_j14 x2j14 z0j14 H locs h hP hD hS ls (lv_sub hl [1, 2, 3, 0] rfl)
  refine lv_icmp_ne (tgt := 13) G.1 G.2.1 d_Ma_useRow_3 (by decide) (fun c3 => ?_) (fun c3 => ?_)
  · skip
    have h := h.1 c3
    refine lv_iconst (v := 0) G.1 G.2.1 d_Ma_useRow_13 (by decide) ?_
    exact J_14 σ v2 0 H locs h hP hD hS ls (lv_sub hl [0, 1, 2] rfl)
  · skip
    have h := h.2 c3
    refine lv_aload_n G.1 G.2.1 d_Ma_useRow_6 rfl (lv_at hl 1 rfl) ?_
    refine ucVi (As := []) (rest := []) G hP hD hS (cu_Ru_popNumber l D g ad y _ σ a1 H.size h_a1 h) w9_Ru_popNumber q1940 ⟨Nat.le_of_ble_eq_true rfl, Nat.le_of_ble_eq_true rfl⟩ rfl rfl h_a1 (q := (RRu, TRu, 19)) rfl rfl hl.1 rfl (Nat.le_of_ble_eq_true rfl) rfl ⟨Nat.le_refl _, Nat.le_refl _⟩ d_Ma_useRow_7 (fun r_28 s_29 H locs h hP hD hS => ?_)
    refine lv_goto (tgt := 14) G.1 G.2.1 d_Ma_useRow_10 (by decide) ?_
    exact J_14 s_29 v2 r_28 H locs h hP hD hS ls (lv_sub hl [0, 1, 2] rfl)
theorem q1889 : Cond.methodLink "ClassWorks$Machine" 346 y_Wd_below ∈ lw_ok := lw_okmem (List.mem_of_getElem? (i := 1889) (by decide +kernel)) rfl
theorem q1892 : Cond.code y_Wd_below b_Wd_below 3 (some (.boolean)) ∈ lw_ok := lw_okmem (List.mem_of_getElem? (i := 1892) (by decide +kernel)) rfl
theorem q1890 : Cond.instanceMethod y_Wd_below ∈ lw_ok := lw_okmem (List.mem_of_getElem? (i := 1890) (by decide +kernel)) rfl
theorem q1891 : Cond.selects y_Wd_below.cls y_Wd_below y_Wd_below ∈ lw_ok := lw_okmem (List.mem_of_getElem? (i := 1891) (by decide +kernel)) rfl
theorem w9_Wd_below : CWv y_Wd_below b_Wd_below 3 (some (.boolean)) 2 ∧ Cond.instanceMethod y_Wd_below ∈ lw_ok ∧ Cond.selects y_Wd_below.cls y_Wd_below y_Wd_below ∈ lw_ok := ⟨⟨q1892, q345, by decide +kernel, by decide +kernel, by decide +kernel⟩, q1890, q1891⟩
def y_Ma_isOf : MethodName := ⟨"ClassWorks$Machine", "isOf", "(II)Z"⟩
abbrev b_Ma_isOf : ByteArray := prog_6_method_40_code
theorem d_Ma_isOf_0 : decode b_Ma_isOf 0 = .ok (.aload_n 0, 1) := by decide +kernel
theorem d_Ma_isOf_1 : decode b_Ma_isOf 1 = .ok (.getfield 12, 3) := by decide +kernel
theorem d_Ma_isOf_4 : decode b_Ma_isOf 4 = .ok (.iload_n 1, 1) := by decide +kernel
theorem d_Ma_isOf_5 : decode b_Ma_isOf 5 = .ok (.invokevirtual 319, 3) := by decide +kernel
theorem d_Ma_isOf_8 : decode b_Ma_isOf 8 = .ok (.istore_n 3, 1) := by decide +kernel
theorem d_Ma_isOf_9 : decode b_Ma_isOf 9 = .ok (.iload_n 3, 1) := by decide +kernel
theorem d_Ma_isOf_10 : decode b_Ma_isOf 10 = .ok (.iconst (-1), 1) := by decide +kernel
theorem d_Ma_isOf_11 : decode b_Ma_isOf 11 = .ok (.if_icmp .ne 15, 3) := by decide +kernel
theorem d_Ma_isOf_14 : decode b_Ma_isOf 14 = .ok (.iload_n 2, 1) := by decide +kernel
theorem d_Ma_isOf_15 : decode b_Ma_isOf 15 = .ok (.ifCond .ne 7, 3) := by decide +kernel
theorem d_Ma_isOf_18 : decode b_Ma_isOf 18 = .ok (.iconst 1, 1) := by decide +kernel
theorem d_Ma_isOf_19 : decode b_Ma_isOf 19 = .ok (.goto 28, 3) := by decide +kernel
theorem d_Ma_isOf_22 : decode b_Ma_isOf 22 = .ok (.iconst 0, 1) := by decide +kernel
theorem d_Ma_isOf_23 : decode b_Ma_isOf 23 = .ok (.goto 24, 3) := by decide +kernel
theorem d_Ma_isOf_26 : decode b_Ma_isOf 26 = .ok (.iload_n 2, 1) := by decide +kernel
theorem d_Ma_isOf_27 : decode b_Ma_isOf 27 = .ok (.ifCond .lt 19, 3) := by decide +kernel
theorem d_Ma_isOf_30 : decode b_Ma_isOf 30 = .ok (.aload_n 0, 1) := by decide +kernel
theorem d_Ma_isOf_31 : decode b_Ma_isOf 31 = .ok (.getfield 69, 3) := by decide +kernel
theorem d_Ma_isOf_34 : decode b_Ma_isOf 34 = .ok (.iload_n 3, 1) := by decide +kernel
theorem d_Ma_isOf_35 : decode b_Ma_isOf 35 = .ok (.iload_n 2, 1) := by decide +kernel
theorem d_Ma_isOf_36 : decode b_Ma_isOf 36 = .ok (.invokevirtual 346, 3) := by decide +kernel
theorem d_Ma_isOf_39 : decode b_Ma_isOf 39 = .ok (.ifCond .eq 7, 3) := by decide +kernel
theorem d_Ma_isOf_42 : decode b_Ma_isOf 42 = .ok (.iconst 1, 1) := by decide +kernel
theorem d_Ma_isOf_43 : decode b_Ma_isOf 43 = .ok (.goto 4, 3) := by decide +kernel
theorem d_Ma_isOf_46 : decode b_Ma_isOf 46 = .ok (.iconst 0, 1) := by decide +kernel
theorem d_Ma_isOf_47 : decode b_Ma_isOf 47 = .ok (.ireturn, 1) := by decide +kernel
abbrev ru_Ma_isOf : Room := { frames := 1, cells := 0, slots := 0, locals := 22 }
def wj_Ma_isOf_47 (y : Ly) (Post : St → Int32 → Prop) (a0 : Nat) (s_j47 : St) (z0j47 : Int32) : Prop := (nb z0j47 ∧ Post s_j47 z0j47)
def wj_Ma_isOf_46 (y : Ly) (Post : St → Int32 → Prop) (a0 : Nat) (s_j46 : St) : Prop := wj_Ma_isOf_47 y Post a0 s_j46 0
def wu_Ma_isOf (y : Ly) (Post : St → Int32 → Prop) (σ : St) (a0 : Nat) (v1 : Int32) (v2 : Int32) : Prop := wu_Hp_classOf y (fun (s_2 : St) (r_1 : Int32) => ((¬ r_1 = (-1) → ((v2 < 0 → wj_Ma_isOf_46 y Post a0 s_2) ∧ (¬ (v2 < 0) → wu_Wd_below y (fun (s_4 : St) (r_3 : Int32) => ((r_3 = 0 → wj_Ma_isOf_46 y Post a0 s_4) ∧ (¬ (r_3 = 0) → wj_Ma_isOf_47 y Post a0 s_4 1))) s_2 (lk a0 0) r_1 v2))) ∧ (r_1 = (-1) → ((¬ v2 = 0 → wj_Ma_isOf_47 y Post a0 s_2 0) ∧ (v2 = 0 → wj_Ma_isOf_47 y Post a0 s_2 1))))) σ (lk a0 1) v1
set_option maxHeartbeats 4000000 in
set_option maxRecDepth 100000 in
theorem cu_Ma_isOf (l : Launch) (D : va_G) (g : Nat → ClassId) (ad : Nat → Nat) (y : Ly) (Post : St → Int32 → Prop) (σ : St) (a0 : Nat) (v1 : Int32) (v2 : Int32) (sz : Nat) (h_a0 : cl a0 = 4) (h : wu_Ma_isOf y Post σ a0 v1 v2) : Met l y_Ma_isOf (mw y_Ma_isOf b_Ma_isOf 4 (some (.boolean))) ru_Ma_isOf (PC g D [] [.ref (ad a0), .int v1, .int v2] sz (ws g ad y σ)) (va_Qi (fun (r : Int32) (u : St) => Post u r) (QW D (va_A (ws g ad y σ) sz) (fun u => ws g ad y u)) (va_A (ws g ad y σ) sz)) 0 0 (va_A (ws g ad y σ) sz) := by
  refine ofZ (by decide +kernel) (Nat.le_of_ble_eq_true rfl) ?_
  intro p e s m args below meth c A Q ls H locs G hsz hP hD hS hl hret
  subst hsz
  have hl : lv_has ls 4 [(0, .ref (ad a0)), (1, .int v1), (2, .int v2)] := hl
  unfold wu_Ma_isOf at h
  refine lv_aload_n G.1 G.2.1 d_Ma_isOf_0 rfl (lv_at hl 0 rfl) ?_
  refine ugf (v := .ref (ad (lk a0 1))) G hP h_a0 iMa rfl 1 (by decide) rfl q1067 rfl rfl d_Ma_isOf_1 ?_
  refine lv_iload_n G.1 G.2.1 d_Ma_isOf_4 rfl (lv_at hl 1 rfl) ?_
  refine ucVi (As := [.int v1]) (rest := []) G hP hD hS (cu_Hp_classOf l D g ad y _ σ (lk a0 1) v1 H.size (lk_4_1 h_a0) h) w9_Hp_classOf q1885 ⟨Nat.le_of_ble_eq_true rfl, Nat.le_of_ble_eq_true rfl⟩ rfl rfl (lk_4_1 h_a0) (q := (RHp, THp, 15)) rfl rfl hl.1 rfl (Nat.le_of_ble_eq_true rfl) rfl ⟨Nat.le_refl _, Nat.le_refl _⟩ d_Ma_isOf_5 (fun r_1 s_2 H locs h hP hD hS => ?_)
  refine lv_istore_n (lv' := [(3, .int r_1), (0, .ref (ad a0)), (1, .int v1), (2, .int v2)]) G.1 G.2.1 d_Ma_isOf_8 rfl hl (by decide) rfl (fun ls hl => ?_)
  refine lv_iload_n G.1 G.2.1 d_Ma_isOf_9 rfl (lv_at hl 0 rfl) ?_
  refine lv_iconst (v := (-1)) G.1 G.2.1 d_Ma_isOf_10 (by decide) ?_
  have J_47 : ∀ (s_j47 : St) (z0j47 : Int32) (H : Heap) (locs : List Loc), wj_Ma_isOf_47 y Post a0 s_j47 z0j47 → va_P D CL (ws g ad y s_j47) H → va_D A (ws g ad y s_j47) → va_S A s.heap H locs → ∀ ls, lv_has ls 4 [] → W p l e ru_Ma_isOf s m args below meth c H locs 0 0 Q (F0 m 47 ls [.int z0j47]) := by
    intro s_j47 z0j47 H locs h hP hD hS ls hl
    unfold wj_Ma_isOf_47 at h
    exact hret _ _ _ _ _ _ _ ls (nb_n h.1) h.2 hP hD hS (Nat.le_refl _) (Nat.le_refl _) d_Ma_isOf_47
  refine lv_icmp_ne (tgt := 26) G.1 G.2.1 d_Ma_isOf_11 (by decide) (fun c11 => ?_) (fun c11 => ?_)
  · skip
    have h := h.1 c11
    refine lv_iload_n G.1 G.2.1 d_Ma_isOf_26 rfl (lv_at hl 3 rfl) ?_
    have J_46 : ∀ (s_j46 : St) (H : Heap) (locs : List Loc), wj_Ma_isOf_46 y Post a0 s_j46 → va_P D CL (ws g ad y s_j46) H → va_D A (ws g ad y s_j46) → va_S A s.heap H locs → ∀ ls, lv_has ls 4 [] → W p l e ru_Ma_isOf s m args below meth c H locs 0 0 Q (F0 m 46 ls []) := by
      intro s_j46 H locs h hP hD hS ls hl
      unfold wj_Ma_isOf_46 at h
      refine lv_iconst (v := 0) G.1 G.2.1 d_Ma_isOf_46 (by decide) ?_
      exact J_47 s_j46 0 H locs h hP hD hS ls (lv_sub hl [] rfl)
    refine lv_if_lt (tgt := 46) G.1 G.2.1 d_Ma_isOf_27 (by decide) (fun c27 => ?_) (fun c27 => ?_)
    · skip
      have h := h.1 c27
      exact J_46 s_2 H locs h hP hD hS ls (lv_sub hl [] rfl)
    · skip
      have h := h.2 c27
      refine lv_aload_n G.1 G.2.1 d_Ma_isOf_30 rfl (lv_at hl 1 rfl) ?_
      refine W.eq (g2 := F0 m 31 ls [.ref (ad a0)]) rfl ?_
      refine ugf (v := .ref (ad (lk a0 0))) G hP h_a0 iMa rfl 0 (by decide) rfl q1065 rfl rfl d_Ma_isOf_31 ?_
      refine lv_iload_n G.1 G.2.1 d_Ma_isOf_34 rfl (lv_at hl 0 rfl) ?_
      refine lv_iload_n G.1 G.2.1 d_Ma_isOf_35 rfl (lv_at hl 3 rfl) ?_
      refine ucVi (As := [.int r_1, .int v2]) (rest := []) G hP hD hS (cu_Wd_below l D g ad y _ s_2 (lk a0 0) r_1 v2 H.size (lk_4_0 h_a0) h) w9_Wd_below q1889 ⟨Nat.le_of_ble_eq_true rfl, Nat.le_of_ble_eq_true rfl⟩ rfl rfl (lk_4_0 h_a0) (q := (RWd, TWd, 17)) rfl rfl hl.1 rfl (Nat.le_of_ble_eq_true rfl) rfl ⟨Nat.le_refl _, Nat.le_refl _⟩ d_Ma_isOf_36 (fun r_3 s_4 H locs h hP hD hS => ?_)
      refine lv_if_eq (tgt := 46) G.1 G.2.1 d_Ma_isOf_39 (by decide) (fun c39 => ?_) (fun c39 => ?_)
      · skip
        have h := h.1 c39
        exact J_46 s_4 H locs h hP hD hS ls (lv_sub hl [] rfl)
      · skip
        have h := h.2 c39
        refine lv_iconst (v := 1) G.1 G.2.1 d_Ma_isOf_42 (by decide) ?_
        refine lv_goto (tgt := 47) G.1 G.2.1 d_Ma_isOf_43 (by decide) ?_
        exact J_47 s_4 1 H locs h hP hD hS ls (lv_sub hl [] rfl)
  · skip
    have h := h.2 c11
    refine lv_iload_n G.1 G.2.1 d_Ma_isOf_14 rfl (lv_at hl 3 rfl) ?_
    refine lv_if_ne (tgt := 22) G.1 G.2.1 d_Ma_isOf_15 (by decide) (fun c15 => ?_) (fun c15 => ?_)
    · skip
      have h := h.1 c15
      refine lv_iconst (v := 0) G.1 G.2.1 d_Ma_isOf_22 (by decide) ?_
      refine W.eq (g2 := F0 m 23 ls [.int 0]) rfl ?_
      refine lv_goto (tgt := 47) G.1 G.2.1 d_Ma_isOf_23 (by decide) ?_
      exact J_47 s_2 0 H locs h hP hD hS ls (lv_sub hl [] rfl)
    · skip
      have h := h.2 c15
      refine lv_iconst (v := 1) G.1 G.2.1 d_Ma_isOf_18 (by decide) ?_
      refine W.eq (g2 := F0 m 19 ls [.int 1]) rfl ?_
      refine lv_goto (tgt := 47) G.1 G.2.1 d_Ma_isOf_19 (by decide) ?_
      exact J_47 s_2 1 H locs h hP hD hS ls (lv_sub hl [] rfl)
def y_Hp_setLock : MethodName := ⟨"ClassWorks$Heap", "setLock", "(II)V"⟩
abbrev b_Hp_setLock : ByteArray := prog_4_method_9_code
theorem d_Hp_setLock_0 : decode b_Hp_setLock 0 = .ok (.iload_n 1, 1) := by decide +kernel
theorem d_Hp_setLock_1 : decode b_Hp_setLock 1 = .ok (.sipush 1000, 3) := by decide +kernel
theorem d_Hp_setLock_4 : decode b_Hp_setLock 4 = .ok (.isub, 1) := by decide +kernel
theorem d_Hp_setLock_5 : decode b_Hp_setLock 5 = .ok (.iconst 1, 1) := by decide +kernel
theorem d_Hp_setLock_6 : decode b_Hp_setLock 6 = .ok (.isub, 1) := by decide +kernel
theorem d_Hp_setLock_7 : decode b_Hp_setLock 7 = .ok (.istore_n 3, 1) := by decide +kernel
theorem d_Hp_setLock_8 : decode b_Hp_setLock 8 = .ok (.iload_n 3, 1) := by decide +kernel
theorem d_Hp_setLock_9 : decode b_Hp_setLock 9 = .ok (.ifCond .lt 27, 3) := by decide +kernel
theorem d_Hp_setLock_12 : decode b_Hp_setLock 12 = .ok (.iload_n 3, 1) := by decide +kernel
theorem d_Hp_setLock_13 : decode b_Hp_setLock 13 = .ok (.aload_n 0, 1) := by decide +kernel
theorem d_Hp_setLock_14 : decode b_Hp_setLock 14 = .ok (.getfield 52, 3) := by decide +kernel
theorem d_Hp_setLock_17 : decode b_Hp_setLock 17 = .ok (.getfield 71, 3) := by decide +kernel
theorem d_Hp_setLock_20 : decode b_Hp_setLock 20 = .ok (.if_icmp .ge 16, 3) := by decide +kernel
theorem d_Hp_setLock_23 : decode b_Hp_setLock 23 = .ok (.aload_n 0, 1) := by decide +kernel
theorem d_Hp_setLock_24 : decode b_Hp_setLock 24 = .ok (.getfield 52, 3) := by decide +kernel
theorem d_Hp_setLock_27 : decode b_Hp_setLock 27 = .ok (.getfield 84, 3) := by decide +kernel
theorem d_Hp_setLock_30 : decode b_Hp_setLock 30 = .ok (.iload_n 3, 1) := by decide +kernel
theorem d_Hp_setLock_31 : decode b_Hp_setLock 31 = .ok (.iload_n 2, 1) := by decide +kernel
theorem d_Hp_setLock_32 : decode b_Hp_setLock 32 = .ok (.iastore, 1) := by decide +kernel
theorem d_Hp_setLock_33 : decode b_Hp_setLock 33 = .ok (.goto 22, 3) := by decide +kernel
theorem d_Hp_setLock_36 : decode b_Hp_setLock 36 = .ok (.iload_n 1, 1) := by decide +kernel
theorem d_Hp_setLock_37 : decode b_Hp_setLock 37 = .ok (.iconst 1, 1) := by decide +kernel
theorem d_Hp_setLock_38 : decode b_Hp_setLock 38 = .ok (.if_icmp .lt 17, 3) := by decide +kernel
theorem d_Hp_setLock_41 : decode b_Hp_setLock 41 = .ok (.iload_n 1, 1) := by decide +kernel
theorem d_Hp_setLock_42 : decode b_Hp_setLock 42 = .ok (.sipush 800, 3) := by decide +kernel
theorem d_Hp_setLock_45 : decode b_Hp_setLock 45 = .ok (.if_icmp .gt 10, 3) := by decide +kernel
theorem d_Hp_setLock_48 : decode b_Hp_setLock 48 = .ok (.aload_n 0, 1) := by decide +kernel
theorem d_Hp_setLock_49 : decode b_Hp_setLock 49 = .ok (.getfield 31, 3) := by decide +kernel
theorem d_Hp_setLock_52 : decode b_Hp_setLock 52 = .ok (.iload_n 1, 1) := by decide +kernel
theorem d_Hp_setLock_53 : decode b_Hp_setLock 53 = .ok (.iload_n 2, 1) := by decide +kernel
theorem d_Hp_setLock_54 : decode b_Hp_setLock 54 = .ok (.iastore, 1) := by decide +kernel
theorem d_Hp_setLock_55 : decode b_Hp_setLock 55 = .ok (.return_, 1) := by decide +kernel
abbrev ru_Hp_setLock : Room := { frames := 0, cells := 0, slots := 0, locals := 0 }
def wj_Hp_setLock_55 (y : Ly) (Post : St → Prop) (a0 : Nat) (s_j55 : St) : Prop := Post s_j55
def wj_Hp_setLock_36 (y : Ly) (Post : St → Prop) (a0 : Nat) (s_j36 : St) (x1j36 : Int32) (x2j36 : Int32) : Prop := ((x1j36 < 1 → wj_Hp_setLock_55 y Post a0 s_j36) ∧ (¬ (x1j36 < 1) → ((800 < x1j36 → wj_Hp_setLock_55 y Post a0 s_j36) ∧ (¬ (800 < x1j36) → xS y s_j36 a0 6 x1j36 x2j36 (fun s_1 : St => wj_Hp_setLock_55 y Post a0 s_1)))))
def wu_Hp_setLock (y : Ly) (Post : St → Prop) (σ : St) (a0 : Nat) (v1 : Int32) (v2 : Int32) : Prop := ((((v1 - 1000) - 1) < 0 → wj_Hp_setLock_36 y Post a0 σ v1 v2) ∧ (¬ (((v1 - 1000) - 1) < 0) → (((sV σ (lk a0 11) 1) ≤ ((v1 - 1000) - 1) → wj_Hp_setLock_36 y Post a0 σ v1 v2) ∧ (¬ ((sV σ (lk a0 11) 1) ≤ ((v1 - 1000) - 1)) → xS y σ (lk a0 11) 0 ((v1 - 1000) - 1) v2 (fun s_2 : St => wj_Hp_setLock_55 y Post a0 s_2)))))
set_option maxHeartbeats 4000000 in
set_option maxRecDepth 100000 in
theorem cu_Hp_setLock (l : Launch) (D : va_G) (g : Nat → ClassId) (ad : Nat → Nat) (y : Ly) (Post : St → Prop) (σ : St) (a0 : Nat) (v1 : Int32) (v2 : Int32) (sz : Nat) (h_a0 : cl a0 = 2) (h : wu_Hp_setLock y Post σ a0 v1 v2) : Met l y_Hp_setLock (mw y_Hp_setLock b_Hp_setLock 4 (none)) ru_Hp_setLock (PC g D [] [.ref (ad a0), .int v1, .int v2] sz (ws g ad y σ)) (va_Qv (fun u : St => Post u) (QW D (va_A (ws g ad y σ) sz) (fun u => ws g ad y u)) (va_A (ws g ad y σ) sz)) 0 0 (va_A (ws g ad y σ) sz) := by
  refine ofV (by decide +kernel) (Nat.le_of_ble_eq_true rfl) ?_
  intro p e s m args below meth c A Q ls H locs G hsz hP hD hS hl hret
  subst hsz
  have hl : lv_has ls 4 [(0, .ref (ad a0)), (1, .int v1), (2, .int v2)] := hl
  unfold wu_Hp_setLock at h
  refine lv_iload_n G.1 G.2.1 d_Hp_setLock_0 rfl (lv_at hl 1 rfl) ?_
  refine lv_sipush (v := 1000) G.1 G.2.1 d_Hp_setLock_1 (by decide) ?_
  refine lv_isub G.1 G.2.1 d_Hp_setLock_4 ?_
  refine lv_iconst (v := 1) G.1 G.2.1 d_Hp_setLock_5 (by decide) ?_
  refine lv_isub G.1 G.2.1 d_Hp_setLock_6 ?_
  refine lv_istore_n (lv' := [(3, .int ((v1 - 1000) - 1)), (0, .ref (ad a0)), (1, .int v1), (2, .int v2)]) G.1 G.2.1 d_Hp_setLock_7 rfl hl (by decide) rfl (fun ls hl => ?_)
  refine lv_iload_n G.1 G.2.1 d_Hp_setLock_8 rfl (lv_at hl 0 rfl) ?_
  have J_55 : ∀ (s_j55 : St) (H : Heap) (locs : List Loc), wj_Hp_setLock_55 y Post a0 s_j55 → va_P D CL (ws g ad y s_j55) H → va_D A (ws g ad y s_j55) → va_S A s.heap H locs → ∀ ls, lv_has ls 4 [] → W p l e ru_Hp_setLock s m args below meth c H locs 0 0 Q (F0 m 55 ls []) := by
    intro s_j55 H locs h hP hD hS ls hl
    unfold wj_Hp_setLock_55 at h
    exact hret _ _ _ _ _ _ ls h hP hD hS (Nat.le_refl _) (Nat.le_refl _) d_Hp_setLock_55
  have J_36 : ∀ (s_j36 : St) (x1j36 : Int32) (x2j36 : Int32) (H : Heap) (locs : List Loc), wj_Hp_setLock_36 y Post a0 s_j36 x1j36 x2j36 → va_P D CL (ws g ad y s_j36) H → va_D A (ws g ad y s_j36) → va_S A s.heap H locs → ∀ ls, lv_has ls 4 [(0, .ref (ad a0)), (1, .int x1j36), (2, .int x2j36)] → W p l e ru_Hp_setLock s m args below meth c H locs 0 0 Q (F0 m 36 ls []) := by
    intro s_j36 x1j36 x2j36 H locs h hP hD hS ls hl
    unfold wj_Hp_setLock_36 at h
    refine lv_iload_n G.1 G.2.1 d_Hp_setLock_36 rfl (lv_at hl 1 rfl) ?_
    refine lv_iconst (v := 1) G.1 G.2.1 d_Hp_setLock_37 (by decide) ?_
    refine lv_icmp_lt (tgt := 55) G.1 G.2.1 d_Hp_setLock_38 (by decide) (fun c38 => ?_) (fun c38 => ?_)
    · skip
      have h := h.1 c38
      exact J_55 s_j36 H locs h hP hD hS ls (lv_sub hl [] rfl)
    · skip
      have h := h.2 c38
      refine lv_iload_n G.1 G.2.1 d_Hp_setLock_41 rfl (lv_at hl 1 rfl) ?_
      refine lv_sipush (v := 800) G.1 G.2.1 d_Hp_setLock_42 (by decide) ?_
      refine lv_icmp_gt (tgt := 55) G.1 G.2.1 d_Hp_setLock_45 (by decide) (fun c45 => ?_) (fun c45 => ?_)
      · skip
        have h := h.1 c45
        exact J_55 s_j36 H locs h hP hD hS ls (lv_sub hl [] rfl)
      · skip
        have h := h.2 c45
        refine lv_aload_n G.1 G.2.1 d_Hp_setLock_48 rfl (lv_at hl 0 rfl) ?_
        refine ugf (v := .ref (yP y a0 6)) G hP h_a0 iHp rfl 6 (by decide) rfl q927 rfl rfl d_Hp_setLock_49 ?_
        refine lv_iload_n G.1 G.2.1 d_Hp_setLock_52 rfl (lv_at hl 1 rfl) ?_
        refine lv_iload_n G.1 G.2.1 d_Hp_setLock_53 rfl (lv_at hl 2 rfl) ?_
        refine uiast G hP hD hS (kdp h_a0 rfl) (typ h_a0 rfl) h d_Hp_setLock_54 (fun s_1 H locs h hP hD hS => ?_)
        exact J_55 s_1 H locs h hP hD hS ls (lv_sub hl [] rfl)
  refine lv_if_lt (tgt := 36) G.1 G.2.1 d_Hp_setLock_9 (by decide) (fun c9 => ?_) (fun c9 => ?_)
  · skip
    have h := h.1 c9
    exact J_36 σ v1 v2 H locs h hP hD hS ls (lv_sub hl [1, 2, 3] rfl)
  · skip
    have h := h.2 c9
    refine lv_iload_n G.1 G.2.1 d_Hp_setLock_12 rfl (lv_at hl 0 rfl) ?_
    refine lv_aload_n G.1 G.2.1 d_Hp_setLock_13 rfl (lv_at hl 1 rfl) ?_
    refine ugf (v := .ref (ad (lk a0 11))) G hP h_a0 iHp rfl 11 (by decide) rfl q932 rfl rfl d_Hp_setLock_14 ?_
    refine W.eq (g2 := F0 m 17 ls [.ref (ad (lk a0 11)), .int ((v1 - 1000) - 1)]) rfl ?_
    refine ugf (v := .int (sV σ (lk a0 11) 1)) G hP (lk_2_11 h_a0) iIn rfl 1 (by decide) rfl q392 rfl rfl d_Hp_setLock_17 ?_
    refine lv_icmp_ge (tgt := 36) G.1 G.2.1 d_Hp_setLock_20 (by decide) (fun c20 => ?_) (fun c20 => ?_)
    · skip
      have h := h.1 c20
      exact J_36 σ v1 v2 H locs h hP hD hS ls (lv_sub hl [1, 2, 3] rfl)
    · skip
      have h := h.2 c20
      refine lv_aload_n G.1 G.2.1 d_Hp_setLock_23 rfl (lv_at hl 1 rfl) ?_
      refine ugf (v := .ref (ad (lk a0 11))) G hP h_a0 iHp rfl 11 (by decide) rfl q932 rfl rfl d_Hp_setLock_24 ?_
      refine ugf (v := .ref (yP y (lk a0 11) 0)) G hP (lk_2_11 h_a0) iIn rfl 0 (by decide) rfl q382 rfl rfl d_Hp_setLock_27 ?_
      refine lv_iload_n G.1 G.2.1 d_Hp_setLock_30 rfl (lv_at hl 0 rfl) ?_
      refine lv_iload_n G.1 G.2.1 d_Hp_setLock_31 rfl (lv_at hl 3 rfl) ?_
      refine uiast G hP hD hS (kdp (lk_2_11 h_a0) rfl) (typ (lk_2_11 h_a0) rfl) h d_Hp_setLock_32 (fun s_2 H locs h hP hD hS => ?_)
      refine lv_goto (tgt := 55) G.1 G.2.1 d_Hp_setLock_33 (by decide) ?_
      exact J_55 s_2 H locs h hP hD hS ls (lv_sub hl [] rfl)
theorem q2032 : Cond.methodLink "ClassWorks$Heap" 90 y_Hp_setLock ∈ lw_ok := lw_okmem (List.mem_of_getElem? (i := 2032) (by decide +kernel)) rfl
theorem q2035 : Cond.code y_Hp_setLock b_Hp_setLock 4 (none) ∈ lw_ok := lw_okmem (List.mem_of_getElem? (i := 2035) (by decide +kernel)) rfl
theorem q2034 : Cond.instanceMethod y_Hp_setLock ∈ lw_ok := lw_okmem (List.mem_of_getElem? (i := 2034) (by decide +kernel)) rfl
theorem q104 : Cond.selects y_Hp_setLock.cls y_Hp_setLock y_Hp_setLock ∈ lw_ok := lw_okmem (List.mem_of_getElem? (i := 104) (by decide +kernel)) rfl
theorem w9_Hp_setLock : CWv y_Hp_setLock b_Hp_setLock 4 (none) 2 ∧ Cond.instanceMethod y_Hp_setLock ∈ lw_ok ∧ Cond.selects y_Hp_setLock.cls y_Hp_setLock y_Hp_setLock ∈ lw_ok := ⟨⟨q2035, q346, by decide +kernel, by decide +kernel, by decide +kernel⟩, q2034, q104⟩
def y_Hp_enter : MethodName := ⟨"ClassWorks$Heap", "enter", "(II)V"⟩
abbrev b_Hp_enter : ByteArray := prog_4_method_12_code
theorem d_Hp_enter_0 : decode b_Hp_enter 0 = .ok (.aload_n 0, 1) := by decide +kernel
theorem d_Hp_enter_1 : decode b_Hp_enter 1 = .ok (.iload_n 1, 1) := by decide +kernel
theorem d_Hp_enter_2 : decode b_Hp_enter 2 = .ok (.aload_n 0, 1) := by decide +kernel
theorem d_Hp_enter_3 : decode b_Hp_enter 3 = .ok (.iload_n 1, 1) := by decide +kernel
theorem d_Hp_enter_4 : decode b_Hp_enter 4 = .ok (.invokevirtual 87, 3) := by decide +kernel
theorem d_Hp_enter_7 : decode b_Hp_enter 7 = .ok (.iconst 4, 1) := by decide +kernel
theorem d_Hp_enter_8 : decode b_Hp_enter 8 = .ok (.idiv, 1) := by decide +kernel
theorem d_Hp_enter_9 : decode b_Hp_enter 9 = .ok (.iconst 4, 1) := by decide +kernel
theorem d_Hp_enter_10 : decode b_Hp_enter 10 = .ok (.imul, 1) := by decide +kernel
theorem d_Hp_enter_11 : decode b_Hp_enter 11 = .ok (.iconst 4, 1) := by decide +kernel
theorem d_Hp_enter_12 : decode b_Hp_enter 12 = .ok (.iadd, 1) := by decide +kernel
theorem d_Hp_enter_13 : decode b_Hp_enter 13 = .ok (.iload_n 2, 1) := by decide +kernel
theorem d_Hp_enter_14 : decode b_Hp_enter 14 = .ok (.iadd, 1) := by decide +kernel
theorem d_Hp_enter_15 : decode b_Hp_enter 15 = .ok (.invokevirtual 90, 3) := by decide +kernel
theorem d_Hp_enter_18 : decode b_Hp_enter 18 = .ok (.return_, 1) := by decide +kernel
abbrev ru_Hp_enter : Room := { frames := 1, cells := 0, slots := 0, locals := 23 }
def wu_Hp_enter (y : Ly) (Post : St → Prop) (σ : St) (a0 : Nat) (v1 : Int32) (v2 : Int32) : Prop := wu_Hp_lockOf y (fun (s_2 : St) (r_1 : Int32) => wu_Hp_setLock y (fun (s_4 : St) => Post s_4) s_2 a0 v1 ((((r_1 / 4) * 4) + 4) + v2)) σ a0 v1
set_option maxHeartbeats 4000000 in
set_option maxRecDepth 100000 in
theorem cu_Hp_enter (l : Launch) (D : va_G) (g : Nat → ClassId) (ad : Nat → Nat) (y : Ly) (Post : St → Prop) (σ : St) (a0 : Nat) (v1 : Int32) (v2 : Int32) (sz : Nat) (h_a0 : cl a0 = 2) (h : wu_Hp_enter y Post σ a0 v1 v2) : Met l y_Hp_enter (mw y_Hp_enter b_Hp_enter 3 (none)) ru_Hp_enter (PC g D [] [.ref (ad a0), .int v1, .int v2] sz (ws g ad y σ)) (va_Qv (fun u : St => Post u) (QW D (va_A (ws g ad y σ) sz) (fun u => ws g ad y u)) (va_A (ws g ad y σ) sz)) 0 0 (va_A (ws g ad y σ) sz) := by
  refine ofV (by decide +kernel) (Nat.le_of_ble_eq_true rfl) ?_
  intro p e s m args below meth c A Q ls H locs G hsz hP hD hS hl hret
  subst hsz
  have hl : lv_has ls 3 [(0, .ref (ad a0)), (1, .int v1), (2, .int v2)] := hl
  unfold wu_Hp_enter at h
  refine lv_aload_n G.1 G.2.1 d_Hp_enter_0 rfl (lv_at hl 0 rfl) ?_
  refine lv_iload_n G.1 G.2.1 d_Hp_enter_1 rfl (lv_at hl 1 rfl) ?_
  refine lv_aload_n G.1 G.2.1 d_Hp_enter_2 rfl (lv_at hl 0 rfl) ?_
  refine lv_iload_n G.1 G.2.1 d_Hp_enter_3 rfl (lv_at hl 1 rfl) ?_
  refine ucVi (As := [.int v1]) (rest := [.int v1, .ref (ad a0)]) G hP hD hS (cu_Hp_lockOf l D g ad y _ σ a0 v1 H.size h_a0 h) w9_Hp_lockOf q1849 ⟨Nat.le_of_ble_eq_true rfl, Nat.le_of_ble_eq_true rfl⟩ rfl rfl h_a0 (q := (RHp, THp, 15)) rfl rfl hl.1 rfl (Nat.le_of_ble_eq_true rfl) rfl ⟨Nat.le_refl _, Nat.le_refl _⟩ d_Hp_enter_4 (fun r_1 s_2 H locs h hP hD hS => ?_)
  refine lv_iconst (v := 4) G.1 G.2.1 d_Hp_enter_7 (by decide) ?_
  refine lv_idiv G.1 G.2.1 d_Hp_enter_8 (by decide) ?_
  refine lv_iconst (v := 4) G.1 G.2.1 d_Hp_enter_9 (by decide) ?_
  refine lv_imul G.1 G.2.1 d_Hp_enter_10 ?_
  refine lv_iconst (v := 4) G.1 G.2.1 d_Hp_enter_11 (by decide) ?_
  refine lv_iadd G.1 G.2.1 d_Hp_enter_12 ?_
  refine W.eq (g2 := F0 m 13 ls [.int (((r_1 / 4) * 4) + 4), .int v1, .ref (ad a0)]) rfl ?_
  refine lv_iload_n G.1 G.2.1 d_Hp_enter_13 rfl (lv_at hl 2 rfl) ?_
  refine lv_iadd G.1 G.2.1 d_Hp_enter_14 ?_
  refine ucVv (As := [.int v1, .int ((((r_1 / 4) * 4) + 4) + v2)]) (rest := []) G hP hD hS (cu_Hp_setLock l D g ad y _ s_2 a0 v1 ((((r_1 / 4) * 4) + 4) + v2) H.size h_a0 h) w9_Hp_setLock q2032 ⟨Nat.le_of_ble_eq_true rfl, Nat.le_of_ble_eq_true rfl⟩ rfl rfl h_a0 (q := (RHp, THp, 15)) rfl rfl hl.1 rfl (Nat.le_of_ble_eq_true rfl) rfl ⟨Nat.le_refl _, Nat.le_refl _⟩ d_Hp_enter_15 (fun s_4 H locs h hP hD hS => ?_)
  exact hret _ _ _ _ _ _ ls h hP hD hS (Nat.le_refl _) (Nat.le_refl _) d_Hp_enter_18
def y_Hp_locks : MethodName := ⟨"ClassWorks$Heap", "locks", "(I)I"⟩
abbrev b_Hp_locks : ByteArray := prog_4_method_10_code
theorem d_Hp_locks_0 : decode b_Hp_locks 0 = .ok (.aload_n 0, 1) := by decide +kernel
theorem d_Hp_locks_1 : decode b_Hp_locks 1 = .ok (.iload_n 1, 1) := by decide +kernel
theorem d_Hp_locks_2 : decode b_Hp_locks 2 = .ok (.invokevirtual 87, 3) := by decide +kernel
theorem d_Hp_locks_5 : decode b_Hp_locks 5 = .ok (.iconst 4, 1) := by decide +kernel
theorem d_Hp_locks_6 : decode b_Hp_locks 6 = .ok (.idiv, 1) := by decide +kernel
theorem d_Hp_locks_7 : decode b_Hp_locks 7 = .ok (.ireturn, 1) := by decide +kernel
abbrev ru_Hp_locks : Room := { frames := 1, cells := 0, slots := 0, locals := 22 }
def wu_Hp_locks (y : Ly) (Post : St → Int32 → Prop) (σ : St) (a0 : Nat) (v1 : Int32) : Prop := wu_Hp_lockOf y (fun (s_2 : St) (r_1 : Int32) => Post s_2 (r_1 / 4)) σ a0 v1
set_option maxHeartbeats 4000000 in
set_option maxRecDepth 100000 in
theorem cu_Hp_locks (l : Launch) (D : va_G) (g : Nat → ClassId) (ad : Nat → Nat) (y : Ly) (Post : St → Int32 → Prop) (σ : St) (a0 : Nat) (v1 : Int32) (sz : Nat) (h_a0 : cl a0 = 2) (h : wu_Hp_locks y Post σ a0 v1) : Met l y_Hp_locks (mw y_Hp_locks b_Hp_locks 2 (some .int)) ru_Hp_locks (PC g D [] [.ref (ad a0), .int v1] sz (ws g ad y σ)) (va_Qi (fun (r : Int32) (u : St) => Post u r) (QW D (va_A (ws g ad y σ) sz) (fun u => ws g ad y u)) (va_A (ws g ad y σ) sz)) 0 0 (va_A (ws g ad y σ) sz) := by
  refine ofI (by decide +kernel) (Nat.le_of_ble_eq_true rfl) ?_
  intro p e s m args below meth c A Q ls H locs G hsz hP hD hS hl hret
  subst hsz
  have hl : lv_has ls 2 [(0, .ref (ad a0)), (1, .int v1)] := hl
  unfold wu_Hp_locks at h
  refine lv_aload_n G.1 G.2.1 d_Hp_locks_0 rfl (lv_at hl 0 rfl) ?_
  refine lv_iload_n G.1 G.2.1 d_Hp_locks_1 rfl (lv_at hl 1 rfl) ?_
  refine ucVi (As := [.int v1]) (rest := []) G hP hD hS (cu_Hp_lockOf l D g ad y _ σ a0 v1 H.size h_a0 h) w9_Hp_lockOf q1849 ⟨Nat.le_of_ble_eq_true rfl, Nat.le_of_ble_eq_true rfl⟩ rfl rfl h_a0 (q := (RHp, THp, 15)) rfl rfl hl.1 rfl (Nat.le_of_ble_eq_true rfl) rfl ⟨Nat.le_refl _, Nat.le_refl _⟩ d_Hp_locks_2 (fun r_1 s_2 H locs h hP hD hS => ?_)
  refine lv_iconst (v := 4) G.1 G.2.1 d_Hp_locks_5 (by decide) ?_
  refine lv_idiv G.1 G.2.1 d_Hp_locks_6 (by decide) ?_
  exact hret _ _ _ _ _ _ _ ls h hP hD hS (Nat.le_refl _) (Nat.le_refl _) d_Hp_locks_7
def y_Hp_leave : MethodName := ⟨"ClassWorks$Heap", "leave", "(I)V"⟩
abbrev b_Hp_leave : ByteArray := prog_4_method_13_code
theorem d_Hp_leave_0 : decode b_Hp_leave 0 = .ok (.aload_n 0, 1) := by decide +kernel
theorem d_Hp_leave_1 : decode b_Hp_leave 1 = .ok (.iload_n 1, 1) := by decide +kernel
theorem d_Hp_leave_2 : decode b_Hp_leave 2 = .ok (.aload_n 0, 1) := by decide +kernel
theorem d_Hp_leave_3 : decode b_Hp_leave 3 = .ok (.iload_n 1, 1) := by decide +kernel
theorem d_Hp_leave_4 : decode b_Hp_leave 4 = .ok (.invokevirtual 87, 3) := by decide +kernel
theorem d_Hp_leave_7 : decode b_Hp_leave 7 = .ok (.iconst 4, 1) := by decide +kernel
theorem d_Hp_leave_8 : decode b_Hp_leave 8 = .ok (.isub, 1) := by decide +kernel
theorem d_Hp_leave_9 : decode b_Hp_leave 9 = .ok (.invokevirtual 90, 3) := by decide +kernel
theorem d_Hp_leave_12 : decode b_Hp_leave 12 = .ok (.return_, 1) := by decide +kernel
abbrev ru_Hp_leave : Room := { frames := 1, cells := 0, slots := 0, locals := 23 }
def wu_Hp_leave (y : Ly) (Post : St → Prop) (σ : St) (a0 : Nat) (v1 : Int32) : Prop := wu_Hp_lockOf y (fun (s_2 : St) (r_1 : Int32) => wu_Hp_setLock y (fun (s_4 : St) => Post s_4) s_2 a0 v1 (r_1 - 4)) σ a0 v1
set_option maxHeartbeats 4000000 in
set_option maxRecDepth 100000 in
theorem cu_Hp_leave (l : Launch) (D : va_G) (g : Nat → ClassId) (ad : Nat → Nat) (y : Ly) (Post : St → Prop) (σ : St) (a0 : Nat) (v1 : Int32) (sz : Nat) (h_a0 : cl a0 = 2) (h : wu_Hp_leave y Post σ a0 v1) : Met l y_Hp_leave (mw y_Hp_leave b_Hp_leave 2 (none)) ru_Hp_leave (PC g D [] [.ref (ad a0), .int v1] sz (ws g ad y σ)) (va_Qv (fun u : St => Post u) (QW D (va_A (ws g ad y σ) sz) (fun u => ws g ad y u)) (va_A (ws g ad y σ) sz)) 0 0 (va_A (ws g ad y σ) sz) := by
  refine ofV (by decide +kernel) (Nat.le_of_ble_eq_true rfl) ?_
  intro p e s m args below meth c A Q ls H locs G hsz hP hD hS hl hret
  subst hsz
  have hl : lv_has ls 2 [(0, .ref (ad a0)), (1, .int v1)] := hl
  unfold wu_Hp_leave at h
  refine lv_aload_n G.1 G.2.1 d_Hp_leave_0 rfl (lv_at hl 0 rfl) ?_
  refine lv_iload_n G.1 G.2.1 d_Hp_leave_1 rfl (lv_at hl 1 rfl) ?_
  refine lv_aload_n G.1 G.2.1 d_Hp_leave_2 rfl (lv_at hl 0 rfl) ?_
  refine lv_iload_n G.1 G.2.1 d_Hp_leave_3 rfl (lv_at hl 1 rfl) ?_
  refine ucVi (As := [.int v1]) (rest := [.int v1, .ref (ad a0)]) G hP hD hS (cu_Hp_lockOf l D g ad y _ σ a0 v1 H.size h_a0 h) w9_Hp_lockOf q1849 ⟨Nat.le_of_ble_eq_true rfl, Nat.le_of_ble_eq_true rfl⟩ rfl rfl h_a0 (q := (RHp, THp, 15)) rfl rfl hl.1 rfl (Nat.le_of_ble_eq_true rfl) rfl ⟨Nat.le_refl _, Nat.le_refl _⟩ d_Hp_leave_4 (fun r_1 s_2 H locs h hP hD hS => ?_)
  refine lv_iconst (v := 4) G.1 G.2.1 d_Hp_leave_7 (by decide) ?_
  refine lv_isub G.1 G.2.1 d_Hp_leave_8 ?_
  refine ucVv (As := [.int v1, .int (r_1 - 4)]) (rest := []) G hP hD hS (cu_Hp_setLock l D g ad y _ s_2 a0 v1 (r_1 - 4) H.size h_a0 h) w9_Hp_setLock q2032 ⟨Nat.le_of_ble_eq_true rfl, Nat.le_of_ble_eq_true rfl⟩ rfl rfl h_a0 (q := (RHp, THp, 15)) rfl rfl hl.1 rfl (Nat.le_of_ble_eq_true rfl) rfl ⟨Nat.le_refl _, Nat.le_refl _⟩ d_Hp_leave_9 (fun s_4 H locs h hP hD hS => ?_)
  exact hret _ _ _ _ _ _ ls h hP hD hS (Nat.le_refl _) (Nat.le_refl _) d_Hp_leave_12
theorem q2024 : Cond.methodLink "ClassWorks$Machine" 431 y_Ma_isOf ∈ lw_ok := lw_okmem (List.mem_of_getElem? (i := 2024) (by decide +kernel)) rfl
theorem q2027 : Cond.code y_Ma_isOf b_Ma_isOf 4 (some (.boolean)) ∈ lw_ok := lw_okmem (List.mem_of_getElem? (i := 2027) (by decide +kernel)) rfl
theorem q2026 : Cond.instanceMethod y_Ma_isOf ∈ lw_ok := lw_okmem (List.mem_of_getElem? (i := 2026) (by decide +kernel)) rfl
theorem q103 : Cond.selects y_Ma_isOf.cls y_Ma_isOf y_Ma_isOf ∈ lw_ok := lw_okmem (List.mem_of_getElem? (i := 103) (by decide +kernel)) rfl
theorem w9_Ma_isOf : CWv y_Ma_isOf b_Ma_isOf 4 (some (.boolean)) 2 ∧ Cond.instanceMethod y_Ma_isOf ∈ lw_ok ∧ Cond.selects y_Ma_isOf.cls y_Ma_isOf y_Ma_isOf ∈ lw_ok := ⟨⟨q2027, q344, by decide +kernel, by decide +kernel, by decide +kernel⟩, q2026, q103⟩
theorem q2036 : Cond.methodLink "ClassWorks$Machine" 437 y_Hp_locks ∈ lw_ok := lw_okmem (List.mem_of_getElem? (i := 2036) (by decide +kernel)) rfl
theorem q2039 : Cond.code y_Hp_locks b_Hp_locks 2 (some .int) ∈ lw_ok := lw_okmem (List.mem_of_getElem? (i := 2039) (by decide +kernel)) rfl
theorem q2037 : Cond.instanceMethod y_Hp_locks ∈ lw_ok := lw_okmem (List.mem_of_getElem? (i := 2037) (by decide +kernel)) rfl
theorem q2038 : Cond.selects y_Hp_locks.cls y_Hp_locks y_Hp_locks ∈ lw_ok := lw_okmem (List.mem_of_getElem? (i := 2038) (by decide +kernel)) rfl
theorem w9_Hp_locks : CWv y_Hp_locks b_Hp_locks 2 (some .int) 1 ∧ Cond.instanceMethod y_Hp_locks ∈ lw_ok ∧ Cond.selects y_Hp_locks.cls y_Hp_locks y_Hp_locks ∈ lw_ok := ⟨⟨q2039, q346, by decide +kernel, by decide +kernel, by decide +kernel⟩, q2037, q2038⟩
theorem q2040 : Cond.methodLink "ClassWorks$Machine" 440 y_Hp_leave ∈ lw_ok := lw_okmem (List.mem_of_getElem? (i := 2040) (by decide +kernel)) rfl
theorem q2043 : Cond.code y_Hp_leave b_Hp_leave 2 (none) ∈ lw_ok := lw_okmem (List.mem_of_getElem? (i := 2043) (by decide +kernel)) rfl
theorem q2041 : Cond.instanceMethod y_Hp_leave ∈ lw_ok := lw_okmem (List.mem_of_getElem? (i := 2041) (by decide +kernel)) rfl
theorem q2042 : Cond.selects y_Hp_leave.cls y_Hp_leave y_Hp_leave ∈ lw_ok := lw_okmem (List.mem_of_getElem? (i := 2042) (by decide +kernel)) rfl
theorem w9_Hp_leave : CWv y_Hp_leave b_Hp_leave 2 (none) 1 ∧ Cond.instanceMethod y_Hp_leave ∈ lw_ok ∧ Cond.selects y_Hp_leave.cls y_Hp_leave y_Hp_leave ∈ lw_ok := ⟨⟨q2043, q346, by decide +kernel, by decide +kernel, by decide +kernel⟩, q2041, q2042⟩
theorem q2028 : Cond.methodLink "ClassWorks$Machine" 434 y_Hp_enter ∈ lw_ok := lw_okmem (List.mem_of_getElem? (i := 2028) (by decide +kernel)) rfl
theorem q2031 : Cond.code y_Hp_enter b_Hp_enter 3 (none) ∈ lw_ok := lw_okmem (List.mem_of_getElem? (i := 2031) (by decide +kernel)) rfl
theorem q2029 : Cond.instanceMethod y_Hp_enter ∈ lw_ok := lw_okmem (List.mem_of_getElem? (i := 2029) (by decide +kernel)) rfl
theorem q2030 : Cond.selects y_Hp_enter.cls y_Hp_enter y_Hp_enter ∈ lw_ok := lw_okmem (List.mem_of_getElem? (i := 2030) (by decide +kernel)) rfl
theorem w9_Hp_enter : CWv y_Hp_enter b_Hp_enter 3 (none) 2 ∧ Cond.instanceMethod y_Hp_enter ∈ lw_ok ∧ Cond.selects y_Hp_enter.cls y_Hp_enter y_Hp_enter ∈ lw_ok := ⟨⟨q2031, q346, by decide +kernel, by decide +kernel, by decide +kernel⟩, q2029, q2030⟩
def y_Ma_useObject : MethodName := ⟨"ClassWorks$Machine", "useObject", "(LClassWorks$Runner;II)I"⟩
abbrev b_Ma_useObject : ByteArray := prog_6_method_39_code
theorem q1094 : Cond.fieldLink "ClassWorks$Machine" 66 "ClassWorks$Machine" "thrown" "I" ∈ lw_ok := lw_okmem (List.mem_of_getElem? (i := 1094) (by decide +kernel)) rfl
theorem d_Ma_useObject_0 : decode b_Ma_useObject 0 = .ok (.aload_n 0, 1) := by decide +kernel
theorem d_Ma_useObject_1 : decode b_Ma_useObject 1 = .ok (.getfield 69, 3) := by decide +kernel
theorem d_Ma_useObject_4 : decode b_Ma_useObject 4 = .ok (.getfield 224, 3) := by decide +kernel
theorem d_Ma_useObject_7 : decode b_Ma_useObject 7 = .ok (.getfield 228, 3) := by decide +kernel
theorem d_Ma_useObject_10 : decode b_Ma_useObject 10 = .ok (.iload_n 3, 1) := by decide +kernel
theorem d_Ma_useObject_11 : decode b_Ma_useObject 11 = .ok (.iaload, 1) := by decide +kernel
theorem d_Ma_useObject_12 : decode b_Ma_useObject 12 = .ok (.istore 4, 2) := by decide +kernel
theorem d_Ma_useObject_14 : decode b_Ma_useObject 14 = .ok (.aload_n 1, 1) := by decide +kernel
theorem d_Ma_useObject_15 : decode b_Ma_useObject 15 = .ok (.invokevirtual 401, 3) := by decide +kernel
theorem d_Ma_useObject_18 : decode b_Ma_useObject 18 = .ok (.istore 5, 2) := by decide +kernel
theorem d_Ma_useObject_20 : decode b_Ma_useObject 20 = .ok (.iload 4, 2) := by decide +kernel
theorem d_Ma_useObject_22 : decode b_Ma_useObject 22 = .ok (.bipush 54, 2) := by decide +kernel
theorem d_Ma_useObject_24 : decode b_Ma_useObject 24 = .ok (.if_icmp .eq 10, 3) := by decide +kernel
theorem d_Ma_useObject_27 : decode b_Ma_useObject 27 = .ok (.iload 4, 2) := by decide +kernel
theorem d_Ma_useObject_29 : decode b_Ma_useObject 29 = .ok (.bipush 55, 2) := by decide +kernel
theorem d_Ma_useObject_31 : decode b_Ma_useObject 31 = .ok (.if_icmp .ne 91, 3) := by decide +kernel
theorem d_Ma_useObject_34 : decode b_Ma_useObject 34 = .ok (.iload 5, 2) := by decide +kernel
theorem d_Ma_useObject_36 : decode b_Ma_useObject 36 = .ok (.ifCond .eq 37, 3) := by decide +kernel
theorem d_Ma_useObject_39 : decode b_Ma_useObject 39 = .ok (.aload_n 0, 1) := by decide +kernel
theorem d_Ma_useObject_40 : decode b_Ma_useObject 40 = .ok (.iload 5, 2) := by decide +kernel
theorem d_Ma_useObject_42 : decode b_Ma_useObject 42 = .ok (.aload_n 0, 1) := by decide +kernel
theorem d_Ma_useObject_43 : decode b_Ma_useObject 43 = .ok (.getfield 69, 3) := by decide +kernel
theorem d_Ma_useObject_46 : decode b_Ma_useObject 46 = .ok (.aload_n 0, 1) := by decide +kernel
theorem d_Ma_useObject_47 : decode b_Ma_useObject 47 = .ok (.getfield 69, 3) := by decide +kernel
theorem d_Ma_useObject_50 : decode b_Ma_useObject 50 = .ok (.getfield 224, 3) := by decide +kernel
theorem d_Ma_useObject_53 : decode b_Ma_useObject 53 = .ok (.getfield 228, 3) := by decide +kernel
theorem d_Ma_useObject_56 : decode b_Ma_useObject 56 = .ok (.iload_n 3, 1) := by decide +kernel
theorem d_Ma_useObject_57 : decode b_Ma_useObject 57 = .ok (.iconst 1, 1) := by decide +kernel
theorem d_Ma_useObject_58 : decode b_Ma_useObject 58 = .ok (.iadd, 1) := by decide +kernel
theorem d_Ma_useObject_59 : decode b_Ma_useObject 59 = .ok (.iaload, 1) := by decide +kernel
theorem d_Ma_useObject_60 : decode b_Ma_useObject 60 = .ok (.invokevirtual 248, 3) := by decide +kernel
theorem d_Ma_useObject_63 : decode b_Ma_useObject 63 = .ok (.invokevirtual 431, 3) := by decide +kernel
theorem d_Ma_useObject_66 : decode b_Ma_useObject 66 = .ok (.ifCond .eq 7, 3) := by decide +kernel
theorem d_Ma_useObject_69 : decode b_Ma_useObject 69 = .ok (.iconst 1, 1) := by decide +kernel
theorem d_Ma_useObject_70 : decode b_Ma_useObject 70 = .ok (.goto 4, 3) := by decide +kernel
theorem d_Ma_useObject_73 : decode b_Ma_useObject 73 = .ok (.iconst 0, 1) := by decide +kernel
theorem d_Ma_useObject_74 : decode b_Ma_useObject 74 = .ok (.istore 6, 2) := by decide +kernel
theorem d_Ma_useObject_76 : decode b_Ma_useObject 76 = .ok (.iload 4, 2) := by decide +kernel
theorem d_Ma_useObject_78 : decode b_Ma_useObject 78 = .ok (.bipush 55, 2) := by decide +kernel
theorem d_Ma_useObject_80 : decode b_Ma_useObject 80 = .ok (.if_icmp .ne 19, 3) := by decide +kernel
theorem d_Ma_useObject_83 : decode b_Ma_useObject 83 = .ok (.aload_n 1, 1) := by decide +kernel
theorem d_Ma_useObject_84 : decode b_Ma_useObject 84 = .ok (.iload 6, 2) := by decide +kernel
theorem d_Ma_useObject_86 : decode b_Ma_useObject 86 = .ok (.ifCond .eq 7, 3) := by decide +kernel
theorem d_Ma_useObject_89 : decode b_Ma_useObject 89 = .ok (.iconst 1, 1) := by decide +kernel
theorem d_Ma_useObject_90 : decode b_Ma_useObject 90 = .ok (.goto 4, 3) := by decide +kernel
theorem d_Ma_useObject_93 : decode b_Ma_useObject 93 = .ok (.iconst 0, 1) := by decide +kernel
theorem d_Ma_useObject_94 : decode b_Ma_useObject 94 = .ok (.invokevirtual 384, 3) := by decide +kernel
theorem d_Ma_useObject_97 : decode b_Ma_useObject 97 = .ok (.iconst 0, 1) := by decide +kernel
theorem d_Ma_useObject_98 : decode b_Ma_useObject 98 = .ok (.ireturn, 1) := by decide +kernel
theorem d_Ma_useObject_99 : decode b_Ma_useObject 99 = .ok (.aload_n 1, 1) := by decide +kernel
theorem d_Ma_useObject_100 : decode b_Ma_useObject 100 = .ok (.iload 5, 2) := by decide +kernel
theorem d_Ma_useObject_102 : decode b_Ma_useObject 102 = .ok (.invokevirtual 336, 3) := by decide +kernel
theorem d_Ma_useObject_105 : decode b_Ma_useObject 105 = .ok (.iload 5, 2) := by decide +kernel
theorem d_Ma_useObject_107 : decode b_Ma_useObject 107 = .ok (.ifCond .eq 8, 3) := by decide +kernel
theorem d_Ma_useObject_110 : decode b_Ma_useObject 110 = .ok (.iload 6, 2) := by decide +kernel
theorem d_Ma_useObject_112 : decode b_Ma_useObject 112 = .ok (.ifCond .eq 7, 3) := by decide +kernel
theorem d_Ma_useObject_115 : decode b_Ma_useObject 115 = .ok (.iconst 0, 1) := by decide +kernel
theorem d_Ma_useObject_116 : decode b_Ma_useObject 116 = .ok (.goto 5, 3) := by decide +kernel
theorem d_Ma_useObject_119 : decode b_Ma_useObject 119 = .ok (.bipush 6, 2) := by decide +kernel
theorem d_Ma_useObject_121 : decode b_Ma_useObject 121 = .ok (.ireturn, 1) := by decide +kernel
theorem d_Ma_useObject_122 : decode b_Ma_useObject 122 = .ok (.iload 5, 2) := by decide +kernel
theorem d_Ma_useObject_124 : decode b_Ma_useObject 124 = .ok (.ifCond .ne 5, 3) := by decide +kernel
theorem d_Ma_useObject_127 : decode b_Ma_useObject 127 = .ok (.iconst 2, 1) := by decide +kernel
theorem d_Ma_useObject_128 : decode b_Ma_useObject 128 = .ok (.ireturn, 1) := by decide +kernel
theorem d_Ma_useObject_129 : decode b_Ma_useObject 129 = .ok (.iload 4, 2) := by decide +kernel
theorem d_Ma_useObject_131 : decode b_Ma_useObject 131 = .ok (.bipush 56, 2) := by decide +kernel
theorem d_Ma_useObject_133 : decode b_Ma_useObject 133 = .ok (.if_icmp .ne 12, 3) := by decide +kernel
theorem d_Ma_useObject_136 : decode b_Ma_useObject 136 = .ok (.aload_n 0, 1) := by decide +kernel
theorem d_Ma_useObject_137 : decode b_Ma_useObject 137 = .ok (.iload 5, 2) := by decide +kernel
theorem d_Ma_useObject_139 : decode b_Ma_useObject 139 = .ok (.putfield 66, 3) := by decide +kernel
theorem d_Ma_useObject_142 : decode b_Ma_useObject 142 = .ok (.bipush (-2), 2) := by decide +kernel
theorem d_Ma_useObject_144 : decode b_Ma_useObject 144 = .ok (.ireturn, 1) := by decide +kernel
theorem d_Ma_useObject_145 : decode b_Ma_useObject 145 = .ok (.iload 4, 2) := by decide +kernel
theorem d_Ma_useObject_147 : decode b_Ma_useObject 147 = .ok (.bipush 60, 2) := by decide +kernel
theorem d_Ma_useObject_149 : decode b_Ma_useObject 149 = .ok (.if_icmp .ne 15, 3) := by decide +kernel
theorem d_Ma_useObject_152 : decode b_Ma_useObject 152 = .ok (.aload_n 0, 1) := by decide +kernel
theorem d_Ma_useObject_153 : decode b_Ma_useObject 153 = .ok (.getfield 12, 3) := by decide +kernel
theorem d_Ma_useObject_156 : decode b_Ma_useObject 156 = .ok (.iload 5, 2) := by decide +kernel
theorem d_Ma_useObject_158 : decode b_Ma_useObject 158 = .ok (.iload_n 2, 1) := by decide +kernel
theorem d_Ma_useObject_159 : decode b_Ma_useObject 159 = .ok (.invokevirtual 434, 3) := by decide +kernel
theorem d_Ma_useObject_162 : decode b_Ma_useObject 162 = .ok (.iconst 0, 1) := by decide +kernel
theorem d_Ma_useObject_163 : decode b_Ma_useObject 163 = .ok (.ireturn, 1) := by decide +kernel
theorem d_Ma_useObject_164 : decode b_Ma_useObject 164 = .ok (.aload_n 0, 1) := by decide +kernel
theorem d_Ma_useObject_165 : decode b_Ma_useObject 165 = .ok (.getfield 12, 3) := by decide +kernel
theorem d_Ma_useObject_168 : decode b_Ma_useObject 168 = .ok (.iload 5, 2) := by decide +kernel
theorem d_Ma_useObject_170 : decode b_Ma_useObject 170 = .ok (.invokevirtual 437, 3) := by decide +kernel
theorem d_Ma_useObject_173 : decode b_Ma_useObject 173 = .ok (.ifCond .eq 16, 3) := by decide +kernel
theorem d_Ma_useObject_176 : decode b_Ma_useObject 176 = .ok (.aload_n 0, 1) := by decide +kernel
theorem d_Ma_useObject_177 : decode b_Ma_useObject 177 = .ok (.getfield 12, 3) := by decide +kernel
theorem d_Ma_useObject_180 : decode b_Ma_useObject 180 = .ok (.iload 5, 2) := by decide +kernel
theorem d_Ma_useObject_182 : decode b_Ma_useObject 182 = .ok (.iload_n 2, 1) := by decide +kernel
theorem d_Ma_useObject_183 : decode b_Ma_useObject 183 = .ok (.invokevirtual 237, 3) := by decide +kernel
theorem d_Ma_useObject_186 : decode b_Ma_useObject 186 = .ok (.ifCond .eq 6, 3) := by decide +kernel
theorem d_Ma_useObject_189 : decode b_Ma_useObject 189 = .ok (.bipush 7, 2) := by decide +kernel
theorem d_Ma_useObject_191 : decode b_Ma_useObject 191 = .ok (.ireturn, 1) := by decide +kernel
theorem d_Ma_useObject_192 : decode b_Ma_useObject 192 = .ok (.aload_n 0, 1) := by decide +kernel
theorem d_Ma_useObject_193 : decode b_Ma_useObject 193 = .ok (.getfield 12, 3) := by decide +kernel
theorem d_Ma_useObject_196 : decode b_Ma_useObject 196 = .ok (.iload 5, 2) := by decide +kernel
theorem d_Ma_useObject_198 : decode b_Ma_useObject 198 = .ok (.invokevirtual 440, 3) := by decide +kernel
theorem d_Ma_useObject_201 : decode b_Ma_useObject 201 = .ok (.iconst 0, 1) := by decide +kernel
theorem d_Ma_useObject_202 : decode b_Ma_useObject 202 = .ok (.ireturn, 1) := by decide +kernel
abbrev ru_Ma_useObject : Room := { frames := 2, cells := 0, slots := 0, locals := 45 }
def wj_Ma_useObject_121 (y : Ly) (Post : St → Int32 → Prop) (a0 : Nat) (a1 : Nat) (s_j121 : St) (z0j121 : Int32) : Prop := Post s_j121 z0j121
def wj_Ma_useObject_115 (y : Ly) (Post : St → Int32 → Prop) (a0 : Nat) (a1 : Nat) (s_j115 : St) : Prop := wj_Ma_useObject_121 y Post a0 a1 s_j115 0
def wj_Ma_useObject_94 (y : Ly) (Post : St → Int32 → Prop) (a0 : Nat) (a1 : Nat) (s_j94 : St) (z1j94 : Int32) : Prop := wu_Ru_pushNumber y (fun (s_7 : St) => Post s_7 0) s_j94 a1 z1j94
def wj_Ma_useObject_74 (y : Ly) (Post : St → Int32 → Prop) (a0 : Nat) (a1 : Nat) (s_j74 : St) (x4j74 : Int32) (x5j74 : Int32) (z0j74 : Int32) : Prop := ((¬ x4j74 = 55 → wu_Ru_pushReference y (fun (s_5 : St) => ((x5j74 = 0 → wj_Ma_useObject_115 y Post a0 a1 s_5) ∧ (¬ (x5j74 = 0) → ((z0j74 = 0 → wj_Ma_useObject_121 y Post a0 a1 s_5 6) ∧ (¬ (z0j74 = 0) → wj_Ma_useObject_115 y Post a0 a1 s_5))))) s_j74 a1 x5j74) ∧ (x4j74 = 55 → ((z0j74 = 0 → wj_Ma_useObject_94 y Post a0 a1 s_j74 0) ∧ (¬ (z0j74 = 0) → wj_Ma_useObject_94 y Post a0 a1 s_j74 1))))
def wj_Ma_useObject_73 (y : Ly) (Post : St → Int32 → Prop) (a0 : Nat) (a1 : Nat) (s_j73 : St) (x4j73 : Int32) (x5j73 : Int32) : Prop := wj_Ma_useObject_74 y Post a0 a1 s_j73 x4j73 x5j73 0
def wj_Ma_useObject_34 (y : Ly) (Post : St → Int32 → Prop) (a0 : Nat) (a1 : Nat) (s_j34 : St) (x3j34 : Int32) (x4j34 : Int32) (x5j34 : Int32) : Prop := ((x5j34 = 0 → wj_Ma_useObject_73 y Post a0 a1 s_j34 x4j34 x5j34) ∧ (¬ (x5j34 = 0) → xA y s_j34 (lk (lk a0 0) 10) 0 (x3j34 + 1) (fun x_8 : Int32 => wu_Wd_number y (fun (s_10 : St) (r_9 : Int32) => wu_Ma_isOf y (fun (s_12 : St) (r_11 : Int32) => ((r_11 = 0 → wj_Ma_useObject_73 y Post a0 a1 s_12 x4j34 x5j34) ∧ (¬ (r_11 = 0) → wj_Ma_useObject_74 y Post a0 a1 s_12 x4j34 x5j34 1))) s_10 a0 x5j34 r_9) s_j34 (lk a0 0) x_8)))
def wj_Ma_useObject_189 (y : Ly) (Post : St → Int32 → Prop) (a0 : Nat) (a1 : Nat) (s_j189 : St) : Prop := Post s_j189 7
def wu_Ma_useObject (y : Ly) (Post : St → Int32 → Prop) (σ : St) (a0 : Nat) (a1 : Nat) (v2 : Int32) (v3 : Int32) : Prop := xA y σ (lk (lk a0 0) 10) 0 v3 (fun x_1 : Int32 => wu_Ru_popNumber y (fun (s_3 : St) (r_2 : Int32) => ((x_1 = 54 → wj_Ma_useObject_34 y Post a0 a1 s_3 v3 x_1 r_2) ∧ (¬ (x_1 = 54) → ((¬ x_1 = 55 → ((¬ r_2 = 0 → ((¬ x_1 = 56 → ((¬ x_1 = 60 → wu_Hp_locks y (fun (s_14 : St) (r_13 : Int32) => ((r_13 = 0 → wj_Ma_useObject_189 y Post a0 a1 s_14) ∧ (¬ (r_13 = 0) → wu_Hp_lockedByOther y (fun (s_16 : St) (r_15 : Int32) => ((r_15 = 0 → wu_Hp_leave y (fun (s_18 : St) => Post s_18 0) s_16 (lk a0 1) r_2) ∧ (¬ (r_15 = 0) → wj_Ma_useObject_189 y Post a0 a1 s_16))) s_14 (lk a0 1) r_2 v2))) s_3 (lk a0 1) r_2) ∧ (x_1 = 60 → wu_Hp_enter y (fun (s_20 : St) => Post s_20 0) s_3 (lk a0 1) r_2 v2))) ∧ (x_1 = 56 → xP (uV s_3 a0 18 r_2) (fun s_21 : St => Post s_21 (-2))))) ∧ (r_2 = 0 → Post s_3 2))) ∧ (x_1 = 55 → wj_Ma_useObject_34 y Post a0 a1 s_3 v3 x_1 r_2))))) σ a1)
set_option maxHeartbeats 4000000 in
set_option maxRecDepth 100000 in
theorem cu_Ma_useObject (l : Launch) (D : va_G) (g : Nat → ClassId) (ad : Nat → Nat) (y : Ly) (Post : St → Int32 → Prop) (σ : St) (a0 : Nat) (a1 : Nat) (v2 : Int32) (v3 : Int32) (sz : Nat) (h_a0 : cl a0 = 4) (h_a1 : cl a1 = 7) (h : wu_Ma_useObject y Post σ a0 a1 v2 v3) : Met l y_Ma_useObject (mw y_Ma_useObject b_Ma_useObject 7 (some .int)) ru_Ma_useObject (PC g D [] [.ref (ad a0), .ref (ad a1), .int v2, .int v3] sz (ws g ad y σ)) (va_Qi (fun (r : Int32) (u : St) => Post u r) (QW D (va_A (ws g ad y σ) sz) (fun u => ws g ad y u)) (va_A (ws g ad y σ) sz)) 0 0 (va_A (ws g ad y σ) sz) := by
  refine ofI (by decide +kernel) (Nat.le_of_ble_eq_true rfl) ?_
  intro p e s m args below meth c A Q ls H locs G hsz hP hD hS hl hret
  subst hsz
  have hl : lv_has ls 7 [(0, .ref (ad a0)), (1, .ref (ad a1)), (2, .int v2), (3, .int v3)] := hl
  unfold wu_Ma_useObject at h
  refine lv_aload_n G.1 G.2.1 d_Ma_useObject_0 rfl (lv_at hl 0 rfl) ?_
  refine ugf (v := .ref (ad (lk a0 0))) G hP h_a0 iMa rfl 0 (by decide) rfl q1065 rfl rfl d_Ma_useObject_1 ?_
  refine ugf (v := .ref (ad (lk (lk a0 0) 10))) G hP (lk_4_0 h_a0) iWd rfl 10 (by decide) rfl q845 rfl rfl d_Ma_useObject_4 ?_
  refine ugf (v := .ref (yP y (lk (lk a0 0) 10) 0)) G hP (lk_9_10 (lk_4_0 h_a0)) iIn rfl 0 (by decide) rfl q385 rfl rfl d_Ma_useObject_7 ?_
  refine lv_iload_n G.1 G.2.1 d_Ma_useObject_10 rfl (lv_at hl 3 rfl) ?_
  refine uiald G hP (kdp (lk_9_10 (lk_4_0 h_a0)) rfl) (typ (lk_9_10 (lk_4_0 h_a0)) rfl) h d_Ma_useObject_11 (fun x_1 h => ?_)
  refine lv_istore (lv' := [(4, .int x_1), (0, .ref (ad a0)), (1, .ref (ad a1)), (2, .int v2), (3, .int v3)]) G.1 G.2.1 d_Ma_useObject_12 hl (by decide) rfl (fun ls hl => ?_)
  refine lv_aload_n G.1 G.2.1 d_Ma_useObject_14 rfl (lv_at hl 2 rfl) ?_
  refine ucVi (As := []) (rest := []) G hP hD hS (cu_Ru_popNumber l D g ad y _ σ a1 H.size h_a1 h) w9_Ru_popNumber q1940 ⟨Nat.le_of_ble_eq_true rfl, Nat.le_of_ble_eq_true rfl⟩ rfl rfl h_a1 (q := (RRu, TRu, 19)) rfl rfl hl.1 rfl (Nat.le_of_ble_eq_true rfl) rfl ⟨Nat.le_refl _, Nat.le_refl _⟩ d_Ma_useObject_15 (fun r_2 s_3 H locs h hP hD hS => ?_)
  refine lv_istore (lv' := [(5, .int r_2), (4, .int x_1), (0, .ref (ad a0)), (1, .ref (ad a1)), (2, .int v2), (3, .int v3)]) G.1 G.2.1 d_Ma_useObject_18 hl (by decide) rfl (fun ls hl => ?_)
  refine lv_iload G.1 G.2.1 d_Ma_useObject_20 (lv_at hl 1 rfl) ?_
  refine W.eq (g2 := F0 m 22 ls [.int x_1]) rfl ?_
  refine lv_bipush (v := 54) G.1 G.2.1 d_Ma_useObject_22 (by decide) ?_
  have J_34 : ∀ (s_j34 : St) (x3j34 : Int32) (x4j34 : Int32) (x5j34 : Int32) (H : Heap) (locs : List Loc), wj_Ma_useObject_34 y Post a0 a1 s_j34 x3j34 x4j34 x5j34 → va_P D CL (ws g ad y s_j34) H → va_D A (ws g ad y s_j34) → va_S A s.heap H locs → ∀ ls, lv_has ls 7 [(0, .ref (ad a0)), (1, .ref (ad a1)), (3, .int x3j34), (4, .int x4j34), (5, .int x5j34)] → W p l e ru_Ma_useObject s m args below meth c H locs 0 0 Q (F0 m 34 ls []) := by
    intro s_j34 x3j34 x4j34 x5j34 H locs h hP hD hS ls hl
    unfold wj_Ma_useObject_34 at h
    refine lv_iload G.1 G.2.1 d_Ma_useObject_34 (lv_at hl 4 rfl) ?_
    have J_74 : ∀ (s_j74 : St) (x4j74 : Int32) (x5j74 : Int32) (z0j74 : Int32) (H : Heap) (locs : List Loc), wj_Ma_useObject_74 y Post a0 a1 s_j74 x4j74 x5j74 z0j74 → va_P D CL (ws g ad y s_j74) H → va_D A (ws g ad y s_j74) → va_S A s.heap H locs → ∀ ls, lv_has ls 7 [(1, .ref (ad a1)), (4, .int x4j74), (5, .int x5j74)] → W p l e ru_Ma_useObject s m args below meth c H locs 0 0 Q (F0 m 74 ls [.int z0j74]) := by
      intro s_j74 x4j74 x5j74 z0j74 H locs h hP hD hS ls hl
      unfold wj_Ma_useObject_74 at h
      refine lv_istore (lv' := [(6, .int z0j74), (1, .ref (ad a1)), (4, .int x4j74), (5, .int x5j74)]) G.1 G.2.1 d_Ma_useObject_74 hl (by decide) rfl (fun ls hl => ?_)
      refine lv_iload G.1 G.2.1 d_Ma_useObject_76 (lv_at hl 2 rfl) ?_
      refine lv_bipush (v := 55) G.1 G.2.1 d_Ma_useObject_78 (by decide) ?_
      refine lv_icmp_ne (tgt := 99) G.1 G.2.1 d_Ma_useObject_80 (by decide) (fun c80 => ?_) (fun c80 => ?_)
      · skip
        have h := h.1 c80
        refine lv_aload_n G.1 G.2.1 d_Ma_useObject_99 rfl (lv_at hl 1 rfl) ?_
        refine lv_iload G.1 G.2.1 d_Ma_useObject_100 (lv_at hl 3 rfl) ?_
        refine ucVv (As := [.int x5j74]) (rest := []) G hP hD hS (cu_Ru_pushReference l D g ad y _ s_j74 a1 x5j74 H.size h_a1 h) w9_Ru_pushReference q1961 ⟨Nat.le_of_ble_eq_true rfl, Nat.le_of_ble_eq_true rfl⟩ rfl rfl h_a1 (q := (RRu, TRu, 19)) rfl rfl hl.1 rfl (Nat.le_of_ble_eq_true rfl) rfl ⟨Nat.le_refl _, Nat.le_refl _⟩ d_Ma_useObject_102 (fun s_5 H locs h hP hD hS => ?_)
        refine lv_iload G.1 G.2.1 d_Ma_useObject_105 (lv_at hl 3 rfl) ?_
        have J_121 : ∀ (s_j121 : St) (z0j121 : Int32) (H : Heap) (locs : List Loc), wj_Ma_useObject_121 y Post a0 a1 s_j121 z0j121 → va_P D CL (ws g ad y s_j121) H → va_D A (ws g ad y s_j121) → va_S A s.heap H locs → ∀ ls, lv_has ls 7 [] → W p l e ru_Ma_useObject s m args below meth c H locs 0 0 Q (F0 m 121 ls [.int z0j121]) := by
          intro s_j121 z0j121 H locs h hP hD hS ls hl
          unfold wj_Ma_useObject_121 at h
          exact hret _ _ _ _ _ _ _ ls h hP hD hS (Nat.le_refl _) (Nat.le_refl _) d_Ma_useObject_121
        have J_115 : ∀ (s_j115 : St) (H : Heap) (locs : List Loc), wj_Ma_useObject_115 y Post a0 a1 s_j115 → va_P D CL (ws g ad y s_j115) H → va_D A (ws g ad y s_j115) → va_S A s.heap H locs → ∀ ls, lv_has ls 7 [] → W p l e ru_Ma_useObject s m args below meth c H locs 0 0 Q (F0 m 115 ls []) := by
          intro s_j115 H locs h hP hD hS ls hl
          unfold wj_Ma_useObject_115 at h
          refine lv_iconst (v := 0) G.1 G.2.1 d_Ma_useObject_115 (by decide) ?_
          refine lv_goto (tgt := 121) G.1 G.2.1 d_Ma_useObject_116 (by decide) ?_
          exact J_121 s_j115 0 H locs h hP hD hS ls (lv_sub hl [] rfl)
        refine lv_if_eq (tgt := 115) G.1 G.2.1 d_Ma_useObject_107 (by decide) (fun c107 => ?_) (fun c107 => ?_)
        · skip
          have h := h.1 c107
          exact J_115 s_5 H locs h hP hD hS ls (lv_sub hl [] rfl)
        · skip
          have h := h.2 c107
          refine lv_iload G.1 G.2.1 d_Ma_useObject_110 (lv_at hl 0 rfl) ?_
          refine lv_if_eq (tgt := 119) G.1 G.2.1 d_Ma_useObject_112 (by decide) (fun c112 => ?_) (fun c112 => ?_)
          · skip
            have h := h.1 c112
            refine W.eq (g2 := F0 m 119 ls []) rfl ?_
            refine lv_bipush (v := 6) G.1 G.2.1 d_Ma_useObject_119 (by decide) ?_
            exact J_121 s_5 6 H locs h hP hD hS ls (lv_sub hl [] rfl)
          · skip
            have h := h.2 c112
            exact J_115 s_5 H locs h hP hD hS ls (lv_sub hl [] rfl)
      · skip
        have h := h.2 c80
        refine lv_aload_n G.1 G.2.1 d_Ma_useObject_83 rfl (lv_at hl 1 rfl) ?_
        refine lv_iload G.1 G.2.1 d_Ma_useObject_84 (lv_at hl 0 rfl) ?_
        have J_94 : ∀ (s_j94 : St) (z1j94 : Int32) (H : Heap) (locs : List Loc), wj_Ma_useObject_94 y Post a0 a1 s_j94 z1j94 → va_P D CL (ws g ad y s_j94) H → va_D A (ws g ad y s_j94) → va_S A s.heap H locs → ∀ ls, lv_has ls 7 [] → W p l e ru_Ma_useObject s m args below meth c H locs 0 0 Q (F0 m 94 ls [.int z1j94, .ref (ad a1)]) := by
          intro s_j94 z1j94 H locs h hP hD hS ls hl
          unfold wj_Ma_useObject_94 at h
          refine ucVv (As := [.int z1j94]) (rest := []) G hP hD hS (cu_Ru_pushNumber l D g ad y _ s_j94 a1 z1j94 H.size h_a1 h) w9_Ru_pushNumber q1955 ⟨Nat.le_of_ble_eq_true rfl, Nat.le_of_ble_eq_true rfl⟩ rfl rfl h_a1 (q := (RRu, TRu, 19)) rfl rfl hl.1 rfl (Nat.le_of_ble_eq_true rfl) rfl ⟨Nat.le_refl _, Nat.le_refl _⟩ d_Ma_useObject_94 (fun s_7 H locs h hP hD hS => ?_)
          refine lv_iconst (v := 0) G.1 G.2.1 d_Ma_useObject_97 (by decide) ?_
          exact hret _ _ _ _ _ _ _ ls h hP hD hS (Nat.le_refl _) (Nat.le_refl _) d_Ma_useObject_98
        refine lv_if_eq (tgt := 93) G.1 G.2.1 d_Ma_useObject_86 (by decide) (fun c86 => ?_) (fun c86 => ?_)
        · skip
          have h := h.1 c86
          refine lv_iconst (v := 0) G.1 G.2.1 d_Ma_useObject_93 (by decide) ?_
          exact J_94 s_j74 0 H locs h hP hD hS ls (lv_sub hl [] rfl)
        · skip
          have h := h.2 c86
          refine lv_iconst (v := 1) G.1 G.2.1 d_Ma_useObject_89 (by decide) ?_
          refine lv_goto (tgt := 94) G.1 G.2.1 d_Ma_useObject_90 (by decide) ?_
          exact J_94 s_j74 1 H locs h hP hD hS ls (lv_sub hl [] rfl)
    have J_73 : ∀ (s_j73 : St) (x4j73 : Int32) (x5j73 : Int32) (H : Heap) (locs : List Loc), wj_Ma_useObject_73 y Post a0 a1 s_j73 x4j73 x5j73 → va_P D CL (ws g ad y s_j73) H → va_D A (ws g ad y s_j73) → va_S A s.heap H locs → ∀ ls, lv_has ls 7 [(1, .ref (ad a1)), (4, .int x4j73), (5, .int x5j73)] → W p l e ru_Ma_useObject s m args below meth c H locs 0 0 Q (F0 m 73 ls []) := by
      intro s_j73 x4j73 x5j73 H locs h hP hD hS ls hl
      unfold wj_Ma_useObject_73 at h
      refine lv_iconst (v := 0) G.1 G.2.1 d_Ma_useObject_73 (by decide) ?_
      exact J_74 s_j73 x4j73 x5j73 0 H locs h hP hD hS ls (lv_sub hl [0, 1, 2] rfl)
    refine lv_if_eq (tgt := 73) G.1 G.2.1 d_Ma_useObject_36 (by decide) (fun c36 => ?_) (fun c36 => ?_)
    · skip
      have h := h.1 c36
      exact J_73 s_j34 x4j34 x5j34 H locs h hP hD hS ls (lv_sub hl [1, 3, 4] rfl)
    · skip
      have h := h.2 c36
      refine lv_aload_n G.1 G.2.1 d_Ma_useObject_39 rfl (lv_at hl 0 rfl) ?_
      refine lv_iload G.1 G.2.1 d_Ma_useObject_40 (lv_at hl 4 rfl) ?_
      refine lv_aload_n G.1 G.2.1 d_Ma_useObject_42 rfl (lv_at hl 0 rfl) ?_
      refine ugf (v := .ref (ad (lk a0 0))) G hP h_a0 iMa rfl 0 (by decide) rfl q1065 rfl rfl d_Ma_useObject_43 ?_
      refine lv_aload_n G.1 G.2.1 d_Ma_useObject_46 rfl (lv_at hl 0 rfl) ?_
      refine ugf (v := .ref (ad (lk a0 0))) G hP h_a0 iMa rfl 0 (by decide) rfl q1065 rfl rfl d_Ma_useObject_47 ?_
      refine ugf (v := .ref (ad (lk (lk a0 0) 10))) G hP (lk_4_0 h_a0) iWd rfl 10 (by decide) rfl q845 rfl rfl d_Ma_useObject_50 ?_
      refine ugf (v := .ref (yP y (lk (lk a0 0) 10) 0)) G hP (lk_9_10 (lk_4_0 h_a0)) iIn rfl 0 (by decide) rfl q385 rfl rfl d_Ma_useObject_53 ?_
      refine lv_iload_n G.1 G.2.1 d_Ma_useObject_56 rfl (lv_at hl 2 rfl) ?_
      refine W.eq (g2 := F0 m 57 ls [.int x3j34, .ref (yP y (lk (lk a0 0) 10) 0), .ref (ad (lk a0 0)), .int x5j34, .ref (ad a0)]) rfl ?_
      refine lv_iconst (v := 1) G.1 G.2.1 d_Ma_useObject_57 (by decide) ?_
      refine lv_iadd G.1 G.2.1 d_Ma_useObject_58 ?_
      refine uiald G hP (kdp (lk_9_10 (lk_4_0 h_a0)) rfl) (typ (lk_9_10 (lk_4_0 h_a0)) rfl) h d_Ma_useObject_59 (fun x_8 h => ?_)
      refine ucVi (As := [.int x_8]) (rest := [.int x5j34, .ref (ad a0)]) G hP hD hS (cu_Wd_number l D g ad y _ s_j34 (lk a0 0) x_8 H.size (lk_4_0 h_a0) h) w9_Wd_number q1866 ⟨Nat.le_of_ble_eq_true rfl, Nat.le_of_ble_eq_true rfl⟩ rfl rfl (lk_4_0 h_a0) (q := (RWd, TWd, 17)) rfl rfl hl.1 rfl (Nat.le_of_ble_eq_true rfl) rfl ⟨Nat.le_refl _, Nat.le_refl _⟩ d_Ma_useObject_60 (fun r_9 s_10 H locs h hP hD hS => ?_)
      refine ucVi (As := [.int x5j34, .int r_9]) (rest := []) G hP hD hS (cu_Ma_isOf l D g ad y _ s_10 a0 x5j34 r_9 H.size h_a0 h) w9_Ma_isOf q2024 ⟨Nat.le_of_ble_eq_true rfl, Nat.le_of_ble_eq_true rfl⟩ rfl rfl h_a0 (q := (RMa, TMa, 19)) rfl rfl hl.1 rfl (Nat.le_of_ble_eq_true rfl) rfl ⟨Nat.le_refl _, Nat.le_refl _⟩ d_Ma_useObject_63 (fun r_11 s_12 H locs h hP hD hS => ?_)
      refine lv_if_eq (tgt := 73) G.1 G.2.1 d_Ma_useObject_66 (by decide) (fun c66 => ?_) (fun c66 => ?_)
      · skip
        have h := h.1 c66
        exact J_73 s_12 x4j34 x5j34 H locs h hP hD hS ls (lv_sub hl [1, 3, 4] rfl)
      · skip
        have h := h.2 c66
        refine lv_iconst (v := 1) G.1 G.2.1 d_Ma_useObject_69 (by decide) ?_
        refine lv_goto (tgt := 74) G.1 G.2.1 d_Ma_useObject_70 (by decide) ?_
        exact J_74 s_12 x4j34 x5j34 1 H locs h hP hD hS ls (lv_sub hl [1, 3, 4] rfl)
  refine lv_icmp_eq (tgt := 34) G.1 G.2.1 d_Ma_useObject_24 (by decide) (fun c24 => ?_) (fun c24 => ?_)
  · skip
    have h := h.1 c24
    exact J_34 s_3 v3 x_1 r_2 H locs h hP hD hS ls (lv_sub hl [2, 3, 5, 1, 0] rfl)
  · skip
    have h := h.2 c24
    refine lv_iload G.1 G.2.1 d_Ma_useObject_27 (lv_at hl 1 rfl) ?_
    refine lv_bipush (v := 55) G.1 G.2.1 d_Ma_useObject_29 (by decide) ?_
    refine lv_icmp_ne (tgt := 122) G.1 G.2.1 d_Ma_useObject_31 (by decide) (fun c31 => ?_) (fun c31 => ?_)
    · skip
      have h := h.1 c31
      refine lv_iload G.1 G.2.1 d_Ma_useObject_122 (lv_at hl 0 rfl) ?_
      refine lv_if_ne (tgt := 129) G.1 G.2.1 d_Ma_useObject_124 (by decide) (fun c124 => ?_) (fun c124 => ?_)
      · skip
        have h := h.1 c124
        refine lv_iload G.1 G.2.1 d_Ma_useObject_129 (lv_at hl 1 rfl) ?_
        refine lv_bipush (v := 56) G.1 G.2.1 d_Ma_useObject_131 (by decide) ?_
        refine lv_icmp_ne (tgt := 145) G.1 G.2.1 d_Ma_useObject_133 (by decide) (fun c133 => ?_) (fun c133 => ?_)
        · skip
          have h := h.1 c133
          refine lv_iload G.1 G.2.1 d_Ma_useObject_145 (lv_at hl 1 rfl) ?_
          refine lv_bipush (v := 60) G.1 G.2.1 d_Ma_useObject_147 (by decide) ?_
          refine W.eq (g2 := F0 m 149 ls [.int 60, .int x_1]) rfl ?_
          refine lv_icmp_ne (tgt := 164) G.1 G.2.1 d_Ma_useObject_149 (by decide) (fun c149 => ?_) (fun c149 => ?_)
          · skip
            have h := h.1 c149
            refine lv_aload_n G.1 G.2.1 d_Ma_useObject_164 rfl (lv_at hl 2 rfl) ?_
            refine ugf (v := .ref (ad (lk a0 1))) G hP h_a0 iMa rfl 1 (by decide) rfl q1067 rfl rfl d_Ma_useObject_165 ?_
            refine lv_iload G.1 G.2.1 d_Ma_useObject_168 (lv_at hl 0 rfl) ?_
            refine ucVi (As := [.int r_2]) (rest := []) G hP hD hS (cu_Hp_locks l D g ad y _ s_3 (lk a0 1) r_2 H.size (lk_4_1 h_a0) h) w9_Hp_locks q2036 ⟨Nat.le_of_ble_eq_true rfl, Nat.le_of_ble_eq_true rfl⟩ rfl rfl (lk_4_1 h_a0) (q := (RHp, THp, 15)) rfl rfl hl.1 rfl (Nat.le_of_ble_eq_true rfl) rfl ⟨Nat.le_refl _, Nat.le_refl _⟩ d_Ma_useObject_170 (fun r_13 s_14 H locs h hP hD hS => ?_)
            have J_189 : ∀ (s_j189 : St) (H : Heap) (locs : List Loc), wj_Ma_useObject_189 y Post a0 a1 s_j189 → va_P D CL (ws g ad y s_j189) H → va_D A (ws g ad y s_j189) → va_S A s.heap H locs → ∀ ls, lv_has ls 7 [] → W p l e ru_Ma_useObject s m args below meth c H locs 0 0 Q (F0 m 189 ls []) := by
              intro s_j189 H locs h hP hD hS ls hl
              unfold wj_Ma_useObject_189 at h
              refine lv_bipush (v := 7) G.1 G.2.1 d_Ma_useObject_189 (by decide) ?_
              exact hret _ _ _ _ _ _ _ ls h hP hD hS (Nat.le_refl _) (Nat.le_refl _) d_Ma_useObject_191
            refine lv_if_eq (tgt := 189) G.1 G.2.1 d_Ma_useObject_173 (by decide) (fun c173 => ?_) (fun c173 => ?_)
            · skip
              have h := h.1 c173
              exact J_189 s_14 H locs h hP hD hS ls (lv_sub hl [] rfl)
            · skip
              have h := h.2 c173
              refine lv_aload_n G.1 G.2.1 d_Ma_useObject_176 rfl (lv_at hl 2 rfl) ?_
              refine ugf (v := .ref (ad (lk a0 1))) G hP h_a0 iMa rfl 1 (by decide) rfl q1067 rfl rfl d_Ma_useObject_177 ?_
              refine lv_iload G.1 G.2.1 d_Ma_useObject_180 (lv_at hl 0 rfl) ?_
              refine lv_iload_n G.1 G.2.1 d_Ma_useObject_182 rfl (lv_at hl 4 rfl) ?_
              refine ucVi (As := [.int r_2, .int v2]) (rest := []) G hP hD hS (cu_Hp_lockedByOther l D g ad y _ s_14 (lk a0 1) r_2 v2 H.size (lk_4_1 h_a0) h) w9_Hp_lockedByOther q1845 ⟨Nat.le_of_ble_eq_true rfl, Nat.le_of_ble_eq_true rfl⟩ rfl rfl (lk_4_1 h_a0) (q := (RHp, THp, 15)) rfl rfl hl.1 rfl (Nat.le_of_ble_eq_true rfl) rfl ⟨Nat.le_refl _, Nat.le_refl _⟩ d_Ma_useObject_183 (fun r_15 s_16 H locs h hP hD hS => ?_)
              refine lv_if_eq (tgt := 192) G.1 G.2.1 d_Ma_useObject_186 (by decide) (fun c186 => ?_) (fun c186 => ?_)
              · skip
                have h := h.1 c186
                refine W.eq (g2 := F0 m 192 ls []) rfl ?_
                refine lv_aload_n G.1 G.2.1 d_Ma_useObject_192 rfl (lv_at hl 2 rfl) ?_
                refine ugf (v := .ref (ad (lk a0 1))) G hP h_a0 iMa rfl 1 (by decide) rfl q1067 rfl rfl d_Ma_useObject_193 ?_
                refine lv_iload G.1 G.2.1 d_Ma_useObject_196 (lv_at hl 0 rfl) ?_
                refine ucVv (As := [.int r_2]) (rest := []) G hP hD hS (cu_Hp_leave l D g ad y _ s_16 (lk a0 1) r_2 H.size (lk_4_1 h_a0) h) w9_Hp_leave q2040 ⟨Nat.le_of_ble_eq_true rfl, Nat.le_of_ble_eq_true rfl⟩ rfl rfl (lk_4_1 h_a0) (q := (RHp, THp, 15)) rfl rfl hl.1 rfl (Nat.le_of_ble_eq_true rfl) rfl ⟨Nat.le_refl _, Nat.le_refl _⟩ d_Ma_useObject_198 (fun s_18 H locs h hP hD hS => ?_)
                refine lv_iconst (v := 0) G.1 G.2.1 d_Ma_useObject_201 (by decide) ?_
                exact hret _ _ _ _ _ _ _ ls h hP hD hS (Nat.le_refl _) (Nat.le_refl _) d_Ma_useObject_202
              · skip
                have h := h.2 c186
                exact J_189 s_16 H locs h hP hD hS ls (lv_sub hl [] rfl)
          · skip
            have h := h.2 c149
            refine lv_aload_n G.1 G.2.1 d_Ma_useObject_152 rfl (lv_at hl 2 rfl) ?_
            refine ugf (v := .ref (ad (lk a0 1))) G hP h_a0 iMa rfl 1 (by decide) rfl q1067 rfl rfl d_Ma_useObject_153 ?_
            refine lv_iload G.1 G.2.1 d_Ma_useObject_156 (lv_at hl 0 rfl) ?_
            refine lv_iload_n G.1 G.2.1 d_Ma_useObject_158 rfl (lv_at hl 4 rfl) ?_
            refine ucVv (As := [.int r_2, .int v2]) (rest := []) G hP hD hS (cu_Hp_enter l D g ad y _ s_3 (lk a0 1) r_2 v2 H.size (lk_4_1 h_a0) h) w9_Hp_enter q2028 ⟨Nat.le_of_ble_eq_true rfl, Nat.le_of_ble_eq_true rfl⟩ rfl rfl (lk_4_1 h_a0) (q := (RHp, THp, 15)) rfl rfl hl.1 rfl (Nat.le_of_ble_eq_true rfl) rfl ⟨Nat.le_refl _, Nat.le_refl _⟩ d_Ma_useObject_159 (fun s_20 H locs h hP hD hS => ?_)
            refine lv_iconst (v := 0) G.1 G.2.1 d_Ma_useObject_162 (by decide) ?_
            exact hret _ _ _ _ _ _ _ ls h hP hD hS (Nat.le_refl _) (Nat.le_refl _) d_Ma_useObject_163
        · skip
          have h := h.2 c133
          refine lv_aload_n G.1 G.2.1 d_Ma_useObject_136 rfl (lv_at hl 2 rfl) ?_
          refine lv_iload G.1 G.2.1 d_Ma_useObject_137 (lv_at hl 0 rfl) ?_
          refine W.eq (g2 := F0 m 139 ls [.int r_2, .ref (ad a0)]) rfl ?_
          refine upf G hP hD hS h 18 putV h_a0 iMa tMa tMa_ok nMa rfl (by decide) rfl q1094 rfl rfl fV rfl rfl d_Ma_useObject_139 (fun s_21 H locs h hP hD hS => ?_)
          refine lv_bipush (v := (-2)) G.1 G.2.1 d_Ma_useObject_142 (by decide) ?_
          exact hret _ _ _ _ _ _ _ ls h hP hD hS (Nat.le_refl _) (Nat.le_refl _) d_Ma_useObject_144
      · skip
        have h := h.2 c124
        refine lv_iconst (v := 2) G.1 G.2.1 d_Ma_useObject_127 (by decide) ?_
        exact hret _ _ _ _ _ _ _ ls h hP hD hS (Nat.le_refl _) (Nat.le_refl _) d_Ma_useObject_128
    · skip
      have h := h.2 c31
      exact J_34 s_3 v3 x_1 r_2 H locs h hP hD hS ls (lv_sub hl [2, 3, 5, 1, 0] rfl)
def y_Ma_handlerFor : MethodName := ⟨"ClassWorks$Machine", "handlerFor", "(LClassWorks$Runner;I)I"⟩
abbrev b_Ma_handlerFor : ByteArray := prog_6_method_27_code
theorem q852 : Cond.fieldLink "ClassWorks$Machine" 339 "ClassWorks$World" "handlers" "LClassWorks$Ints;" ∈ lw_ok := lw_okmem (List.mem_of_getElem? (i := 852) (by decide +kernel)) rfl
theorem d_Ma_handlerFor_0 : decode b_Ma_handlerFor 0 = .ok (.aload_n 1, 1) := by decide +kernel
theorem d_Ma_handlerFor_1 : decode b_Ma_handlerFor 1 = .ok (.getfield 158, 3) := by decide +kernel
theorem d_Ma_handlerFor_4 : decode b_Ma_handlerFor 4 = .ok (.iconst 1, 1) := by decide +kernel
theorem d_Ma_handlerFor_5 : decode b_Ma_handlerFor 5 = .ok (.isub, 1) := by decide +kernel
theorem d_Ma_handlerFor_6 : decode b_Ma_handlerFor 6 = .ok (.istore_n 3, 1) := by decide +kernel
theorem d_Ma_handlerFor_7 : decode b_Ma_handlerFor 7 = .ok (.aload_n 0, 1) := by decide +kernel
theorem d_Ma_handlerFor_8 : decode b_Ma_handlerFor 8 = .ok (.getfield 69, 3) := by decide +kernel
theorem d_Ma_handlerFor_11 : decode b_Ma_handlerFor 11 = .ok (.aload_n 1, 1) := by decide +kernel
theorem d_Ma_handlerFor_12 : decode b_Ma_handlerFor 12 = .ok (.getfield 211, 3) := by decide +kernel
theorem d_Ma_handlerFor_15 : decode b_Ma_handlerFor 15 = .ok (.iload_n 3, 1) := by decide +kernel
theorem d_Ma_handlerFor_16 : decode b_Ma_handlerFor 16 = .ok (.iaload, 1) := by decide +kernel
theorem d_Ma_handlerFor_17 : decode b_Ma_handlerFor 17 = .ok (.aload_n 1, 1) := by decide +kernel
theorem d_Ma_handlerFor_18 : decode b_Ma_handlerFor 18 = .ok (.getfield 214, 3) := by decide +kernel
theorem d_Ma_handlerFor_21 : decode b_Ma_handlerFor 21 = .ok (.iload_n 3, 1) := by decide +kernel
theorem d_Ma_handlerFor_22 : decode b_Ma_handlerFor 22 = .ok (.iaload, 1) := by decide +kernel
theorem d_Ma_handlerFor_23 : decode b_Ma_handlerFor 23 = .ok (.bipush 6, 2) := by decide +kernel
theorem d_Ma_handlerFor_25 : decode b_Ma_handlerFor 25 = .ok (.invokevirtual 349, 3) := by decide +kernel
theorem d_Ma_handlerFor_28 : decode b_Ma_handlerFor 28 = .ok (.istore 4, 2) := by decide +kernel
theorem d_Ma_handlerFor_30 : decode b_Ma_handlerFor 30 = .ok (.aload_n 0, 1) := by decide +kernel
theorem d_Ma_handlerFor_31 : decode b_Ma_handlerFor 31 = .ok (.getfield 69, 3) := by decide +kernel
theorem d_Ma_handlerFor_34 : decode b_Ma_handlerFor 34 = .ok (.aload_n 1, 1) := by decide +kernel
theorem d_Ma_handlerFor_35 : decode b_Ma_handlerFor 35 = .ok (.getfield 211, 3) := by decide +kernel
theorem d_Ma_handlerFor_38 : decode b_Ma_handlerFor 38 = .ok (.iload_n 3, 1) := by decide +kernel
theorem d_Ma_handlerFor_39 : decode b_Ma_handlerFor 39 = .ok (.iaload, 1) := by decide +kernel
theorem d_Ma_handlerFor_40 : decode b_Ma_handlerFor 40 = .ok (.aload_n 1, 1) := by decide +kernel
theorem d_Ma_handlerFor_41 : decode b_Ma_handlerFor 41 = .ok (.getfield 214, 3) := by decide +kernel
theorem d_Ma_handlerFor_44 : decode b_Ma_handlerFor 44 = .ok (.iload_n 3, 1) := by decide +kernel
theorem d_Ma_handlerFor_45 : decode b_Ma_handlerFor 45 = .ok (.iaload, 1) := by decide +kernel
theorem d_Ma_handlerFor_46 : decode b_Ma_handlerFor 46 = .ok (.bipush 7, 2) := by decide +kernel
theorem d_Ma_handlerFor_48 : decode b_Ma_handlerFor 48 = .ok (.invokevirtual 349, 3) := by decide +kernel
theorem d_Ma_handlerFor_51 : decode b_Ma_handlerFor 51 = .ok (.istore 5, 2) := by decide +kernel
theorem d_Ma_handlerFor_53 : decode b_Ma_handlerFor 53 = .ok (.iconst 0, 1) := by decide +kernel
theorem d_Ma_handlerFor_54 : decode b_Ma_handlerFor 54 = .ok (.istore 6, 2) := by decide +kernel
theorem d_Ma_handlerFor_56 : decode b_Ma_handlerFor 56 = .ok (.iload 6, 2) := by decide +kernel
theorem d_Ma_handlerFor_58 : decode b_Ma_handlerFor 58 = .ok (.iload 5, 2) := by decide +kernel
theorem d_Ma_handlerFor_60 : decode b_Ma_handlerFor 60 = .ok (.if_icmp .ge 108, 3) := by decide +kernel
theorem d_Ma_handlerFor_63 : decode b_Ma_handlerFor 63 = .ok (.iload 4, 2) := by decide +kernel
theorem d_Ma_handlerFor_65 : decode b_Ma_handlerFor 65 = .ok (.iload 6, 2) := by decide +kernel
theorem d_Ma_handlerFor_67 : decode b_Ma_handlerFor 67 = .ok (.iconst 4, 1) := by decide +kernel
theorem d_Ma_handlerFor_68 : decode b_Ma_handlerFor 68 = .ok (.imul, 1) := by decide +kernel
theorem d_Ma_handlerFor_69 : decode b_Ma_handlerFor 69 = .ok (.iadd, 1) := by decide +kernel
theorem d_Ma_handlerFor_70 : decode b_Ma_handlerFor 70 = .ok (.istore 7, 2) := by decide +kernel
theorem d_Ma_handlerFor_72 : decode b_Ma_handlerFor 72 = .ok (.aload_n 0, 1) := by decide +kernel
theorem d_Ma_handlerFor_73 : decode b_Ma_handlerFor 73 = .ok (.getfield 69, 3) := by decide +kernel
theorem d_Ma_handlerFor_76 : decode b_Ma_handlerFor 76 = .ok (.getfield 339, 3) := by decide +kernel
theorem d_Ma_handlerFor_79 : decode b_Ma_handlerFor 79 = .ok (.getfield 228, 3) := by decide +kernel
theorem d_Ma_handlerFor_82 : decode b_Ma_handlerFor 82 = .ok (.astore 8, 2) := by decide +kernel
theorem d_Ma_handlerFor_84 : decode b_Ma_handlerFor 84 = .ok (.aload 8, 2) := by decide +kernel
theorem d_Ma_handlerFor_86 : decode b_Ma_handlerFor 86 = .ok (.iload 7, 2) := by decide +kernel
theorem d_Ma_handlerFor_88 : decode b_Ma_handlerFor 88 = .ok (.iaload, 1) := by decide +kernel
theorem d_Ma_handlerFor_89 : decode b_Ma_handlerFor 89 = .ok (.aload_n 1, 1) := by decide +kernel
theorem d_Ma_handlerFor_90 : decode b_Ma_handlerFor 90 = .ok (.getfield 217, 3) := by decide +kernel
theorem d_Ma_handlerFor_93 : decode b_Ma_handlerFor 93 = .ok (.iload_n 3, 1) := by decide +kernel
theorem d_Ma_handlerFor_94 : decode b_Ma_handlerFor 94 = .ok (.iaload, 1) := by decide +kernel
theorem d_Ma_handlerFor_95 : decode b_Ma_handlerFor 95 = .ok (.if_icmp .gt 67, 3) := by decide +kernel
theorem d_Ma_handlerFor_98 : decode b_Ma_handlerFor 98 = .ok (.aload_n 1, 1) := by decide +kernel
theorem d_Ma_handlerFor_99 : decode b_Ma_handlerFor 99 = .ok (.getfield 217, 3) := by decide +kernel
theorem d_Ma_handlerFor_102 : decode b_Ma_handlerFor 102 = .ok (.iload_n 3, 1) := by decide +kernel
theorem d_Ma_handlerFor_103 : decode b_Ma_handlerFor 103 = .ok (.iaload, 1) := by decide +kernel
theorem d_Ma_handlerFor_104 : decode b_Ma_handlerFor 104 = .ok (.aload 8, 2) := by decide +kernel
theorem d_Ma_handlerFor_106 : decode b_Ma_handlerFor 106 = .ok (.iload 7, 2) := by decide +kernel
theorem d_Ma_handlerFor_108 : decode b_Ma_handlerFor 108 = .ok (.iconst 1, 1) := by decide +kernel
theorem d_Ma_handlerFor_109 : decode b_Ma_handlerFor 109 = .ok (.iadd, 1) := by decide +kernel
theorem d_Ma_handlerFor_110 : decode b_Ma_handlerFor 110 = .ok (.iaload, 1) := by decide +kernel
theorem d_Ma_handlerFor_111 : decode b_Ma_handlerFor 111 = .ok (.if_icmp .ge 51, 3) := by decide +kernel
theorem d_Ma_handlerFor_114 : decode b_Ma_handlerFor 114 = .ok (.aload 8, 2) := by decide +kernel
theorem d_Ma_handlerFor_116 : decode b_Ma_handlerFor 116 = .ok (.iload 7, 2) := by decide +kernel
theorem d_Ma_handlerFor_118 : decode b_Ma_handlerFor 118 = .ok (.iconst 3, 1) := by decide +kernel
theorem d_Ma_handlerFor_119 : decode b_Ma_handlerFor 119 = .ok (.iadd, 1) := by decide +kernel
theorem d_Ma_handlerFor_120 : decode b_Ma_handlerFor 120 = .ok (.iaload, 1) := by decide +kernel
theorem d_Ma_handlerFor_121 : decode b_Ma_handlerFor 121 = .ok (.istore 9, 2) := by decide +kernel
theorem d_Ma_handlerFor_123 : decode b_Ma_handlerFor 123 = .ok (.aload_n 0, 1) := by decide +kernel
theorem d_Ma_handlerFor_124 : decode b_Ma_handlerFor 124 = .ok (.getfield 69, 3) := by decide +kernel
theorem d_Ma_handlerFor_127 : decode b_Ma_handlerFor 127 = .ok (.iload 9, 2) := by decide +kernel
theorem d_Ma_handlerFor_129 : decode b_Ma_handlerFor 129 = .ok (.invokevirtual 248, 3) := by decide +kernel
theorem d_Ma_handlerFor_132 : decode b_Ma_handlerFor 132 = .ok (.istore 10, 2) := by decide +kernel
theorem d_Ma_handlerFor_134 : decode b_Ma_handlerFor 134 = .ok (.iload 9, 2) := by decide +kernel
theorem d_Ma_handlerFor_136 : decode b_Ma_handlerFor 136 = .ok (.bipush 6, 2) := by decide +kernel
theorem d_Ma_handlerFor_138 : decode b_Ma_handlerFor 138 = .ok (.if_icmp .eq 21, 3) := by decide +kernel
theorem d_Ma_handlerFor_141 : decode b_Ma_handlerFor 141 = .ok (.iload 10, 2) := by decide +kernel
theorem d_Ma_handlerFor_143 : decode b_Ma_handlerFor 143 = .ok (.ifCond .lt 19, 3) := by decide +kernel
theorem d_Ma_handlerFor_146 : decode b_Ma_handlerFor 146 = .ok (.aload_n 0, 1) := by decide +kernel
theorem d_Ma_handlerFor_147 : decode b_Ma_handlerFor 147 = .ok (.getfield 69, 3) := by decide +kernel
theorem d_Ma_handlerFor_150 : decode b_Ma_handlerFor 150 = .ok (.iload_n 2, 1) := by decide +kernel
theorem d_Ma_handlerFor_151 : decode b_Ma_handlerFor 151 = .ok (.iload 10, 2) := by decide +kernel
theorem d_Ma_handlerFor_153 : decode b_Ma_handlerFor 153 = .ok (.invokevirtual 346, 3) := by decide +kernel
theorem d_Ma_handlerFor_156 : decode b_Ma_handlerFor 156 = .ok (.ifCond .eq 6, 3) := by decide +kernel
theorem d_Ma_handlerFor_159 : decode b_Ma_handlerFor 159 = .ok (.iload 7, 2) := by decide +kernel
theorem d_Ma_handlerFor_161 : decode b_Ma_handlerFor 161 = .ok (.ireturn, 1) := by decide +kernel
theorem d_Ma_handlerFor_162 : decode b_Ma_handlerFor 162 = .ok (.iinc 6 1, 3) := by decide +kernel
theorem d_Ma_handlerFor_165 : decode b_Ma_handlerFor 165 = .ok (.goto (-109), 3) := by decide +kernel
theorem d_Ma_handlerFor_168 : decode b_Ma_handlerFor 168 = .ok (.iconst (-1), 1) := by decide +kernel
theorem d_Ma_handlerFor_169 : decode b_Ma_handlerFor 169 = .ok (.ireturn, 1) := by decide +kernel
abbrev ru_Ma_handlerFor : Room := { frames := 1, cells := 0, slots := 0, locals := 23 }
def wj_Ma_handlerFor_162 (y : Ly) (Post : St → Int32 → Prop) (K_56 : St → Int32 → Int32 → Int32 → Int32 → Int32 → Prop) (a0 : Nat) (a1 : Nat) (s_j162 : St) (x2j162 : Int32) (x3j162 : Int32) (x4j162 : Int32) (x5j162 : Int32) (x6j162 : Int32) : Prop := K_56 s_j162 x2j162 x3j162 x4j162 x5j162 (x6j162 + 1)
def wj_Ma_handlerFor_159 (y : Ly) (Post : St → Int32 → Prop) (a0 : Nat) (a1 : Nat) (s_j159 : St) (x7j159 : Int32) : Prop := Post s_j159 x7j159
def wb_Ma_handlerFor_56 (y : Ly) (Post : St → Int32 → Prop) (K_56 : St → Int32 → Int32 → Int32 → Int32 → Int32 → Prop) (a0 : Nat) (a1 : Nat) (s_h56 : St) (x2h56 : Int32) (x3h56 : Int32) (x4h56 : Int32) (x5h56 : Int32) (x6h56 : Int32) : Prop := ((x5h56 ≤ x6h56 → Post s_h56 (-1)) ∧ (¬ (x5h56 ≤ x6h56) → xA y s_h56 (lk (lk a0 0) 11) 0 (x4h56 + (x6h56 * 4)) (fun x_9 : Int32 => xA y s_h56 a1 13 x3h56 (fun x_10 : Int32 => ((x_10 < x_9 → wj_Ma_handlerFor_162 y Post K_56 a0 a1 s_h56 x2h56 x3h56 x4h56 x5h56 x6h56) ∧ (¬ (x_10 < x_9) → xA y s_h56 a1 13 x3h56 (fun x_11 : Int32 => xA y s_h56 (lk (lk a0 0) 11) 0 ((x4h56 + (x6h56 * 4)) + 1) (fun x_12 : Int32 => ((x_12 ≤ x_11 → wj_Ma_handlerFor_162 y Post K_56 a0 a1 s_h56 x2h56 x3h56 x4h56 x5h56 x6h56) ∧ (¬ (x_12 ≤ x_11) → xA y s_h56 (lk (lk a0 0) 11) 0 ((x4h56 + (x6h56 * 4)) + 3) (fun x_13 : Int32 => wu_Wd_number y (fun (s_15 : St) (r_14 : Int32) => ((x_13 = 6 → wj_Ma_handlerFor_159 y Post a0 a1 s_15 (x4h56 + (x6h56 * 4))) ∧ (¬ (x_13 = 6) → ((r_14 < 0 → wj_Ma_handlerFor_162 y Post K_56 a0 a1 s_15 x2h56 x3h56 x4h56 x5h56 x6h56) ∧ (¬ (r_14 < 0) → wu_Wd_below y (fun (s_17 : St) (r_16 : Int32) => ((r_16 = 0 → wj_Ma_handlerFor_162 y Post K_56 a0 a1 s_17 x2h56 x3h56 x4h56 x5h56 x6h56) ∧ (¬ (r_16 = 0) → wj_Ma_handlerFor_159 y Post a0 a1 s_17 (x4h56 + (x6h56 * 4))))) s_15 (lk a0 0) x2h56 r_14))))) s_h56 (lk a0 0) x_13)))))))))))
def wl_Ma_handlerFor_56 (y : Ly) (Post : St → Int32 → Prop) (a0 : Nat) (a1 : Nat) (s_h56 : St) (x2h56 : Int32) (x3h56 : Int32) (x4h56 : Int32) (x5h56 : Int32) (x6h56 : Int32) : Prop := ∃ (I : St → Int32 → Int32 → Int32 → Int32 → Int32 → Prop) (μ : St → Int32 → Int32 → Int32 → Int32 → Int32 → Nat), I s_h56 x2h56 x3h56 x4h56 x5h56 x6h56 ∧ ∀ (u : St) (t0 : Int32) (t1 : Int32) (t2 : Int32) (t3 : Int32) (t4 : Int32), I u t0 t1 t2 t3 t4 → wb_Ma_handlerFor_56 y Post (fun z t0q t1q t2q t3q t4q => I z t0q t1q t2q t3q t4q ∧ μ z t0q t1q t2q t3q t4q < μ u t0 t1 t2 t3 t4) a0 a1 u t0 t1 t2 t3 t4
def wu_Ma_handlerFor (y : Ly) (Post : St → Int32 → Prop) (σ : St) (a0 : Nat) (a1 : Nat) (v2 : Int32) : Prop := xA y σ a1 11 ((sV σ a1 10) - 1) (fun x_1 : Int32 => xA y σ a1 12 ((sV σ a1 10) - 1) (fun x_2 : Int32 => wu_Wd_method y (fun (s_4 : St) (r_3 : Int32) => xA y s_4 a1 11 ((sV σ a1 10) - 1) (fun x_5 : Int32 => xA y s_4 a1 12 ((sV σ a1 10) - 1) (fun x_6 : Int32 => wu_Wd_method y (fun (s_8 : St) (r_7 : Int32) => wl_Ma_handlerFor_56 y Post a0 a1 s_8 v2 ((sV σ a1 10) - 1) r_3 r_7 0) s_4 (lk a0 0) x_5 x_6 7))) σ (lk a0 0) x_1 x_2 6))
set_option maxHeartbeats 4000000 in
set_option maxRecDepth 100000 in
theorem cu_Ma_handlerFor (l : Launch) (D : va_G) (g : Nat → ClassId) (ad : Nat → Nat) (y : Ly) (Post : St → Int32 → Prop) (σ : St) (a0 : Nat) (a1 : Nat) (v2 : Int32) (sz : Nat) (h_a0 : cl a0 = 4) (h_a1 : cl a1 = 7) (h : wu_Ma_handlerFor y Post σ a0 a1 v2) : Met l y_Ma_handlerFor (mw y_Ma_handlerFor b_Ma_handlerFor 11 (some .int)) ru_Ma_handlerFor (PC g D [] [.ref (ad a0), .ref (ad a1), .int v2] sz (ws g ad y σ)) (va_Qi (fun (r : Int32) (u : St) => Post u r) (QW D (va_A (ws g ad y σ) sz) (fun u => ws g ad y u)) (va_A (ws g ad y σ) sz)) 0 0 (va_A (ws g ad y σ) sz) := by
  refine ofI (by decide +kernel) (Nat.le_of_ble_eq_true rfl) ?_
  intro p e s m args below meth c A Q ls H locs G hsz hP hD hS hl hret
  subst hsz
  have hl : lv_has ls 11 [(0, .ref (ad a0)), (1, .ref (ad a1)), (2, .int v2)] := hl
  unfold wu_Ma_handlerFor at h
  refine lv_aload_n G.1 G.2.1 d_Ma_handlerFor_0 rfl (lv_at hl 1 rfl) ?_
  refine ugf (v := .int (sV σ a1 10)) G hP h_a1 iRu rfl 10 (by decide) rfl q1006 rfl rfl d_Ma_handlerFor_1 ?_
  refine lv_iconst (v := 1) G.1 G.2.1 d_Ma_handlerFor_4 (by decide) ?_
  refine lv_isub G.1 G.2.1 d_Ma_handlerFor_5 ?_
  refine lv_istore_n (lv' := [(3, .int ((sV σ a1 10) - 1)), (0, .ref (ad a0)), (1, .ref (ad a1)), (2, .int v2)]) G.1 G.2.1 d_Ma_handlerFor_6 rfl hl (by decide) rfl (fun ls hl => ?_)
  refine lv_aload_n G.1 G.2.1 d_Ma_handlerFor_7 rfl (lv_at hl 1 rfl) ?_
  refine ugf (v := .ref (ad (lk a0 0))) G hP h_a0 iMa rfl 0 (by decide) rfl q1065 rfl rfl d_Ma_handlerFor_8 ?_
  refine lv_aload_n G.1 G.2.1 d_Ma_handlerFor_11 rfl (lv_at hl 2 rfl) ?_
  refine ugf (v := .ref (yP y a1 11)) G hP h_a1 iRu rfl 11 (by decide) rfl q1009 rfl rfl d_Ma_handlerFor_12 ?_
  refine lv_iload_n G.1 G.2.1 d_Ma_handlerFor_15 rfl (lv_at hl 0 rfl) ?_
  refine uiald G hP (kdp h_a1 rfl) (typ h_a1 rfl) h d_Ma_handlerFor_16 (fun x_1 h => ?_)
  refine W.eq (g2 := F0 m 17 ls [.int x_1, .ref (ad (lk a0 0))]) rfl ?_
  refine lv_aload_n G.1 G.2.1 d_Ma_handlerFor_17 rfl (lv_at hl 2 rfl) ?_
  refine ugf (v := .ref (yP y a1 12)) G hP h_a1 iRu rfl 12 (by decide) rfl q1012 rfl rfl d_Ma_handlerFor_18 ?_
  refine lv_iload_n G.1 G.2.1 d_Ma_handlerFor_21 rfl (lv_at hl 0 rfl) ?_
  refine uiald G hP (kdp h_a1 rfl) (typ h_a1 rfl) h d_Ma_handlerFor_22 (fun x_2 h => ?_)
  refine lv_bipush (v := 6) G.1 G.2.1 d_Ma_handlerFor_23 (by decide) ?_
  refine ucVi (As := [.int x_1, .int x_2, .int 6]) (rest := []) G hP hD hS (cu_Wd_method l D g ad y _ σ (lk a0 0) x_1 x_2 6 H.size (lk_4_0 h_a0) h) w9_Wd_method q1923 ⟨Nat.le_of_ble_eq_true rfl, Nat.le_of_ble_eq_true rfl⟩ rfl rfl (lk_4_0 h_a0) (q := (RWd, TWd, 17)) rfl rfl hl.1 rfl (Nat.le_of_ble_eq_true rfl) rfl ⟨Nat.le_refl _, Nat.le_refl _⟩ d_Ma_handlerFor_25 (fun r_3 s_4 H locs h hP hD hS => ?_)
  refine lv_istore (lv' := [(4, .int r_3), (3, .int ((sV σ a1 10) - 1)), (0, .ref (ad a0)), (1, .ref (ad a1)), (2, .int v2)]) G.1 G.2.1 d_Ma_handlerFor_28 hl (by decide) rfl (fun ls hl => ?_)
  refine lv_aload_n G.1 G.2.1 d_Ma_handlerFor_30 rfl (lv_at hl 2 rfl) ?_
  refine ugf (v := .ref (ad (lk a0 0))) G hP h_a0 iMa rfl 0 (by decide) rfl q1065 rfl rfl d_Ma_handlerFor_31 ?_
  refine lv_aload_n G.1 G.2.1 d_Ma_handlerFor_34 rfl (lv_at hl 3 rfl) ?_
  refine ugf (v := .ref (yP y a1 11)) G hP h_a1 iRu rfl 11 (by decide) rfl q1009 rfl rfl d_Ma_handlerFor_35 ?_
  refine lv_iload_n G.1 G.2.1 d_Ma_handlerFor_38 rfl (lv_at hl 1 rfl) ?_
  refine W.eq (g2 := F0 m 39 ls [.int ((sV σ a1 10) - 1), .ref (yP y a1 11), .ref (ad (lk a0 0))]) rfl ?_
  refine uiald G hP (kdp h_a1 rfl) (typ h_a1 rfl) h d_Ma_handlerFor_39 (fun x_5 h => ?_)
  refine lv_aload_n G.1 G.2.1 d_Ma_handlerFor_40 rfl (lv_at hl 3 rfl) ?_
  refine ugf (v := .ref (yP y a1 12)) G hP h_a1 iRu rfl 12 (by decide) rfl q1012 rfl rfl d_Ma_handlerFor_41 ?_
  refine lv_iload_n G.1 G.2.1 d_Ma_handlerFor_44 rfl (lv_at hl 1 rfl) ?_
  refine uiald G hP (kdp h_a1 rfl) (typ h_a1 rfl) h d_Ma_handlerFor_45 (fun x_6 h => ?_)
  refine lv_bipush (v := 7) G.1 G.2.1 d_Ma_handlerFor_46 (by decide) ?_
  refine ucVi (As := [.int x_5, .int x_6, .int 7]) (rest := []) G hP hD hS (cu_Wd_method l D g ad y _ s_4 (lk a0 0) x_5 x_6 7 H.size (lk_4_0 h_a0) h) w9_Wd_method q1923 ⟨Nat.le_of_ble_eq_true rfl, Nat.le_of_ble_eq_true rfl⟩ rfl rfl (lk_4_0 h_a0) (q := (RWd, TWd, 17)) rfl rfl hl.1 rfl (Nat.le_of_ble_eq_true rfl) rfl ⟨Nat.le_refl _, Nat.le_refl _⟩ d_Ma_handlerFor_48 (fun r_7 s_8 H locs h hP hD hS => ?_)
  refine lv_istore (lv' := [(5, .int r_7), (4, .int r_3), (3, .int ((sV σ a1 10) - 1)), (0, .ref (ad a0)), (1, .ref (ad a1)), (2, .int v2)]) G.1 G.2.1 d_Ma_handlerFor_51 hl (by decide) rfl (fun ls hl => ?_)
  refine lv_iconst (v := 0) G.1 G.2.1 d_Ma_handlerFor_53 (by decide) ?_
  refine lv_istore (lv' := [(6, .int 0), (5, .int r_7), (4, .int r_3), (3, .int ((sV σ a1 10) - 1)), (0, .ref (ad a0)), (1, .ref (ad a1)), (2, .int v2)]) G.1 G.2.1 d_Ma_handlerFor_54 hl (by decide) rfl (fun ls hl => ?_)
  unfold wl_Ma_handlerFor_56 at h
  obtain ⟨I_56, μ_56, hI_56, hB_56⟩ := h
  have L_56 : ∀ (n_56 : Nat) (s_h56 : St) (x2h56 : Int32) (x3h56 : Int32) (x4h56 : Int32) (x5h56 : Int32) (x6h56 : Int32), μ_56 s_h56 x2h56 x3h56 x4h56 x5h56 x6h56 < n_56 → I_56 s_h56 x2h56 x3h56 x4h56 x5h56 x6h56 → ∀ (H : Heap) (locs : List Loc), va_P D CL (ws g ad y s_h56) H → va_D A (ws g ad y s_h56) → va_S A s.heap H locs → ∀ ls, lv_has ls 11 [(0, .ref (ad a0)), (1, .ref (ad a1)), (2, .int x2h56), (3, .int x3h56), (4, .int x4h56), (5, .int x5h56), (6, .int x6h56)] → W p l e ru_Ma_handlerFor s m args below meth c H locs 0 0 Q (F0 m 56 ls []) := by
    intro n_56
    induction n_56 with
    | zero => intro s_h56 x2h56 x3h56 x4h56 x5h56 x6h56 hμ; exact absurd hμ (Nat.not_lt_zero _)
    | succ n_56 ih_56 =>
      intro s_h56 x2h56 x3h56 x4h56 x5h56 x6h56 hμ_56 hJ H locs hP hD hS ls hl
      obtain ⟨K_56, hK_56, h⟩ : ∃ K : St → Int32 → Int32 → Int32 → Int32 → Int32 → Prop, (∀ z (t0 : Int32) (t1 : Int32) (t2 : Int32) (t3 : Int32) (t4 : Int32), K z t0 t1 t2 t3 t4 → I_56 z t0 t1 t2 t3 t4 ∧ μ_56 z t0 t1 t2 t3 t4 < μ_56 s_h56 x2h56 x3h56 x4h56 x5h56 x6h56) ∧ wb_Ma_handlerFor_56 y Post K a0 a1 s_h56 x2h56 x3h56 x4h56 x5h56 x6h56 := ⟨_, fun _ _ _ _ _ _ h => h, hB_56 s_h56 x2h56 x3h56 x4h56 x5h56 x6h56 hJ⟩
      unfold wb_Ma_handlerFor_56 at h
      refine lv_iload G.1 G.2.1 d_Ma_handlerFor_56 (lv_at hl 6 rfl) ?_
      refine lv_iload G.1 G.2.1 d_Ma_handlerFor_58 (lv_at hl 5 rfl) ?_
      refine lv_icmp_ge (tgt := 168) G.1 G.2.1 d_Ma_handlerFor_60 (by decide) (fun c60 => ?_) (fun c60 => ?_)
      · skip
        have h := h.1 c60
        refine lv_iconst (v := (-1)) G.1 G.2.1 d_Ma_handlerFor_168 (by decide) ?_
        exact hret _ _ _ _ _ _ _ ls h hP hD hS (Nat.le_refl _) (Nat.le_refl _) d_Ma_handlerFor_169
      · skip
        have h := h.2 c60
        refine lv_iload G.1 G.2.1 d_Ma_handlerFor_63 (lv_at hl 4 rfl) ?_
        refine lv_iload G.1 G.2.1 d_Ma_handlerFor_65 (lv_at hl 6 rfl) ?_
        refine lv_iconst (v := 4) G.1 G.2.1 d_Ma_handlerFor_67 (by decide) ?_
        refine lv_imul G.1 G.2.1 d_Ma_handlerFor_68 ?_
        refine lv_iadd G.1 G.2.1 d_Ma_handlerFor_69 ?_
        refine lv_istore (lv' := [(7, .int (x4h56 + (x6h56 * 4))), (0, .ref (ad a0)), (1, .ref (ad a1)), (2, .int x2h56), (3, .int x3h56), (4, .int x4h56), (5, .int x5h56), (6, .int x6h56)]) G.1 G.2.1 d_Ma_handlerFor_70 hl (by decide) rfl (fun ls hl => ?_)
        refine lv_aload_n G.1 G.2.1 d_Ma_handlerFor_72 rfl (lv_at hl 1 rfl) ?_
        refine ugf (v := .ref (ad (lk a0 0))) G hP h_a0 iMa rfl 0 (by decide) rfl q1065 rfl rfl d_Ma_handlerFor_73 ?_
        refine W.eq (g2 := F0 m 76 ls [.ref (ad (lk a0 0))]) rfl ?_
        refine ugf (v := .ref (ad (lk (lk a0 0) 11))) G hP (lk_4_0 h_a0) iWd rfl 11 (by decide) rfl q852 rfl rfl d_Ma_handlerFor_76 ?_
        refine ugf (v := .ref (yP y (lk (lk a0 0) 11) 0)) G hP (lk_9_11 (lk_4_0 h_a0)) iIn rfl 0 (by decide) rfl q385 rfl rfl d_Ma_handlerFor_79 ?_
        refine lv_astore (lv' := [(8, .ref (yP y (lk (lk a0 0) 11) 0)), (7, .int (x4h56 + (x6h56 * 4))), (0, .ref (ad a0)), (1, .ref (ad a1)), (2, .int x2h56), (3, .int x3h56), (4, .int x4h56), (5, .int x5h56), (6, .int x6h56)]) G.1 G.2.1 d_Ma_handlerFor_82 hl (by decide) rfl (fun ls hl => ?_)
        refine lv_aload G.1 G.2.1 d_Ma_handlerFor_84 (lv_at hl 0 rfl) ?_
        refine lv_iload G.1 G.2.1 d_Ma_handlerFor_86 (lv_at hl 1 rfl) ?_
        refine uiald G hP (kdp (lk_9_11 (lk_4_0 h_a0)) rfl) (typ (lk_9_11 (lk_4_0 h_a0)) rfl) h d_Ma_handlerFor_88 (fun x_9 h => ?_)
        refine lv_aload_n G.1 G.2.1 d_Ma_handlerFor_89 rfl (lv_at hl 3 rfl) ?_
        refine ugf (v := .ref (yP y a1 13)) G hP h_a1 iRu rfl 13 (by decide) rfl q1015 rfl rfl d_Ma_handlerFor_90 ?_
        refine lv_iload_n G.1 G.2.1 d_Ma_handlerFor_93 rfl (lv_at hl 5 rfl) ?_
        refine uiald G hP (kdp h_a1 rfl) (typ h_a1 rfl) h d_Ma_handlerFor_94 (fun x_10 h => ?_)
        have J_162 : ∀ (s_j162 : St) (x2j162 : Int32) (x3j162 : Int32) (x4j162 : Int32) (x5j162 : Int32) (x6j162 : Int32) (H : Heap) (locs : List Loc), wj_Ma_handlerFor_162 y Post K_56 a0 a1 s_j162 x2j162 x3j162 x4j162 x5j162 x6j162 → va_P D CL (ws g ad y s_j162) H → va_D A (ws g ad y s_j162) → va_S A s.heap H locs → ∀ ls, lv_has ls 11 [(0, .ref (ad a0)), (1, .ref (ad a1)), (2, .int x2j162), (3, .int x3j162), (4, .int x4j162), (5, .int x5j162), (6, .int x6j162)] → W p l e ru_Ma_handlerFor s m args below meth c H locs 0 0 Q (F0 m 162 ls []) := by
          intro s_j162 x2j162 x3j162 x4j162 x5j162 x6j162 H locs h hP hD hS ls hl
          unfold wj_Ma_handlerFor_162 at h
          refine lv_iinc (v := x6j162 + 1) (lv' := [(6, .int (x6j162 + 1)), (0, .ref (ad a0)), (1, .ref (ad a1)), (2, .int x2j162), (3, .int x3j162), (4, .int x4j162), (5, .int x5j162)]) G.1 G.2.1 d_Ma_handlerFor_162 hl (k := 6) rfl rfl (by decide) rfl (fun ls hl => ?_)
          refine lv_goto (tgt := 56) G.1 G.2.1 d_Ma_handlerFor_165 (by decide) ?_
          have h := hK_56 s_j162 x2j162 x3j162 x4j162 x5j162 (x6j162 + 1) h
          exact ih_56 s_j162 x2j162 x3j162 x4j162 x5j162 (x6j162 + 1) (Nat.lt_of_lt_of_le h.2 (Nat.le_of_lt_succ hμ_56)) h.1 H locs hP hD hS ls (lv_sub hl [1, 2, 3, 4, 5, 6, 0] rfl)
        refine lv_icmp_gt (tgt := 162) G.1 G.2.1 d_Ma_handlerFor_95 (by decide) (fun c95 => ?_) (fun c95 => ?_)
        · skip
          have h := h.1 c95
          exact J_162 s_h56 x2h56 x3h56 x4h56 x5h56 x6h56 H locs h hP hD hS ls (lv_sub hl [2, 3, 4, 5, 6, 7, 8] rfl)
        · skip
          have h := h.2 c95
          refine lv_aload_n G.1 G.2.1 d_Ma_handlerFor_98 rfl (lv_at hl 3 rfl) ?_
          refine W.eq (g2 := F0 m 99 ls [.ref (ad a1)]) rfl ?_
          refine ugf (v := .ref (yP y a1 13)) G hP h_a1 iRu rfl 13 (by decide) rfl q1015 rfl rfl d_Ma_handlerFor_99 ?_
          refine lv_iload_n G.1 G.2.1 d_Ma_handlerFor_102 rfl (lv_at hl 5 rfl) ?_
          refine uiald G hP (kdp h_a1 rfl) (typ h_a1 rfl) h d_Ma_handlerFor_103 (fun x_11 h => ?_)
          refine lv_aload G.1 G.2.1 d_Ma_handlerFor_104 (lv_at hl 0 rfl) ?_
          refine lv_iload G.1 G.2.1 d_Ma_handlerFor_106 (lv_at hl 1 rfl) ?_
          refine lv_iconst (v := 1) G.1 G.2.1 d_Ma_handlerFor_108 (by decide) ?_
          refine lv_iadd G.1 G.2.1 d_Ma_handlerFor_109 ?_
          refine uiald G hP (kdp (lk_9_11 (lk_4_0 h_a0)) rfl) (typ (lk_9_11 (lk_4_0 h_a0)) rfl) h d_Ma_handlerFor_110 (fun x_12 h => ?_)
          refine lv_icmp_ge (tgt := 162) G.1 G.2.1 d_Ma_handlerFor_111 (by decide) (fun c111 => ?_) (fun c111 => ?_)
          · skip
            have h := h.1 c111
            exact J_162 s_h56 x2h56 x3h56 x4h56 x5h56 x6h56 H locs h hP hD hS ls (lv_sub hl [2, 3, 4, 5, 6, 7, 8] rfl)
          · skip
            have h := h.2 c111
            refine lv_aload G.1 G.2.1 d_Ma_handlerFor_114 (lv_at hl 0 rfl) ?_
            refine lv_iload G.1 G.2.1 d_Ma_handlerFor_116 (lv_at hl 1 rfl) ?_
            refine lv_iconst (v := 3) G.1 G.2.1 d_Ma_handlerFor_118 (by decide) ?_
            refine W.eq (g2 := F0 m 119 ls [.int 3, .int (x4h56 + (x6h56 * 4)), .ref (yP y (lk (lk a0 0) 11) 0)]) rfl ?_
            refine lv_iadd G.1 G.2.1 d_Ma_handlerFor_119 ?_
            refine uiald G hP (kdp (lk_9_11 (lk_4_0 h_a0)) rfl) (typ (lk_9_11 (lk_4_0 h_a0)) rfl) h d_Ma_handlerFor_120 (fun x_13 h => ?_)
            refine lv_istore (lv' := [(9, .int x_13), (8, .ref (yP y (lk (lk a0 0) 11) 0)), (7, .int (x4h56 + (x6h56 * 4))), (0, .ref (ad a0)), (1, .ref (ad a1)), (2, .int x2h56), (3, .int x3h56), (4, .int x4h56), (5, .int x5h56), (6, .int x6h56)]) G.1 G.2.1 d_Ma_handlerFor_121 hl (by decide) rfl (fun ls hl => ?_)
            refine lv_aload_n G.1 G.2.1 d_Ma_handlerFor_123 rfl (lv_at hl 3 rfl) ?_
            refine ugf (v := .ref (ad (lk a0 0))) G hP h_a0 iMa rfl 0 (by decide) rfl q1065 rfl rfl d_Ma_handlerFor_124 ?_
            refine lv_iload G.1 G.2.1 d_Ma_handlerFor_127 (lv_at hl 0 rfl) ?_
            refine ucVi (As := [.int x_13]) (rest := []) G hP hD hS (cu_Wd_number l D g ad y _ s_h56 (lk a0 0) x_13 H.size (lk_4_0 h_a0) h) w9_Wd_number q1866 ⟨Nat.le_of_ble_eq_true rfl, Nat.le_of_ble_eq_true rfl⟩ rfl rfl (lk_4_0 h_a0) (q := (RWd, TWd, 17)) rfl rfl hl.1 rfl (Nat.le_of_ble_eq_true rfl) rfl ⟨Nat.le_refl _, Nat.le_refl _⟩ d_Ma_handlerFor_129 (fun r_14 s_15 H locs h hP hD hS => ?_)
            refine lv_istore (lv' := [(10, .int r_14), (9, .int x_13), (8, .ref (yP y (lk (lk a0 0) 11) 0)), (7, .int (x4h56 + (x6h56 * 4))), (0, .ref (ad a0)), (1, .ref (ad a1)), (2, .int x2h56), (3, .int x3h56), (4, .int x4h56), (5, .int x5h56), (6, .int x6h56)]) G.1 G.2.1 d_Ma_handlerFor_132 hl (by decide) rfl (fun ls hl => ?_)
            refine lv_iload G.1 G.2.1 d_Ma_handlerFor_134 (lv_at hl 1 rfl) ?_
            refine lv_bipush (v := 6) G.1 G.2.1 d_Ma_handlerFor_136 (by decide) ?_
            have J_159 : ∀ (s_j159 : St) (x7j159 : Int32) (H : Heap) (locs : List Loc), wj_Ma_handlerFor_159 y Post a0 a1 s_j159 x7j159 → va_P D CL (ws g ad y s_j159) H → va_D A (ws g ad y s_j159) → va_S A s.heap H locs → ∀ ls, lv_has ls 11 [(7, .int x7j159)] → W p l e ru_Ma_handlerFor s m args below meth c H locs 0 0 Q (F0 m 159 ls []) := by
              intro s_j159 x7j159 H locs h hP hD hS ls hl
              unfold wj_Ma_handlerFor_159 at h
              refine lv_iload G.1 G.2.1 d_Ma_handlerFor_159 (lv_at hl 0 rfl) ?_
              exact hret _ _ _ _ _ _ _ ls h hP hD hS (Nat.le_refl _) (Nat.le_refl _) d_Ma_handlerFor_161
            refine lv_icmp_eq (tgt := 159) G.1 G.2.1 d_Ma_handlerFor_138 (by decide) (fun c138 => ?_) (fun c138 => ?_)
            · skip
              have h := h.1 c138
              exact J_159 s_15 (x4h56 + (x6h56 * 4)) H locs h hP hD hS ls (lv_sub hl [3] rfl)
            · skip
              have h := h.2 c138
              refine lv_iload G.1 G.2.1 d_Ma_handlerFor_141 (lv_at hl 0 rfl) ?_
              refine W.eq (g2 := F0 m 143 ls [.int r_14]) rfl ?_
              refine lv_if_lt (tgt := 162) G.1 G.2.1 d_Ma_handlerFor_143 (by decide) (fun c143 => ?_) (fun c143 => ?_)
              · skip
                have h := h.1 c143
                exact J_162 s_15 x2h56 x3h56 x4h56 x5h56 x6h56 H locs h hP hD hS ls (lv_sub hl [4, 5, 6, 7, 8, 9, 10] rfl)
              · skip
                have h := h.2 c143
                refine lv_aload_n G.1 G.2.1 d_Ma_handlerFor_146 rfl (lv_at hl 4 rfl) ?_
                refine ugf (v := .ref (ad (lk a0 0))) G hP h_a0 iMa rfl 0 (by decide) rfl q1065 rfl rfl d_Ma_handlerFor_147 ?_
                refine lv_iload_n G.1 G.2.1 d_Ma_handlerFor_150 rfl (lv_at hl 6 rfl) ?_
                refine lv_iload G.1 G.2.1 d_Ma_handlerFor_151 (lv_at hl 0 rfl) ?_
                refine ucVi (As := [.int x2h56, .int r_14]) (rest := []) G hP hD hS (cu_Wd_below l D g ad y _ s_15 (lk a0 0) x2h56 r_14 H.size (lk_4_0 h_a0) h) w9_Wd_below q1889 ⟨Nat.le_of_ble_eq_true rfl, Nat.le_of_ble_eq_true rfl⟩ rfl rfl (lk_4_0 h_a0) (q := (RWd, TWd, 17)) rfl rfl hl.1 rfl (Nat.le_of_ble_eq_true rfl) rfl ⟨Nat.le_refl _, Nat.le_refl _⟩ d_Ma_handlerFor_153 (fun r_16 s_17 H locs h hP hD hS => ?_)
                refine lv_if_eq (tgt := 162) G.1 G.2.1 d_Ma_handlerFor_156 (by decide) (fun c156 => ?_) (fun c156 => ?_)
                · skip
                  have h := h.1 c156
                  exact J_162 s_17 x2h56 x3h56 x4h56 x5h56 x6h56 H locs h hP hD hS ls (lv_sub hl [4, 5, 6, 7, 8, 9, 10] rfl)
                · skip
                  have h := h.2 c156
                  exact J_159 s_17 (x4h56 + (x6h56 * 4)) H locs h hP hD hS ls (lv_sub hl [3] rfl)
  exact L_56 _ s_8 v2 ((sV σ a1 10) - 1) r_3 r_7 0 (Nat.lt_succ_self _) hI_56 H locs hP hD hS ls (lv_sub hl [4, 5, 6, 3, 2, 1, 0] rfl)
def y_Ma_breakOpenStarts : MethodName := ⟨"ClassWorks$Machine", "breakOpenStarts", "(LClassWorks$Runner;I)V"⟩
abbrev b_Ma_breakOpenStarts : ByteArray := prog_6_method_22_code
theorem d_Ma_breakOpenStarts_0 : decode b_Ma_breakOpenStarts 0 = .ok (.iconst 0, 1) := by decide +kernel
theorem d_Ma_breakOpenStarts_1 : decode b_Ma_breakOpenStarts 1 = .ok (.istore_n 3, 1) := by decide +kernel
theorem d_Ma_breakOpenStarts_2 : decode b_Ma_breakOpenStarts 2 = .ok (.iload_n 3, 1) := by decide +kernel
theorem d_Ma_breakOpenStarts_3 : decode b_Ma_breakOpenStarts 3 = .ok (.bipush 51, 2) := by decide +kernel
theorem d_Ma_breakOpenStarts_5 : decode b_Ma_breakOpenStarts 5 = .ok (.if_icmp .ge 23, 3) := by decide +kernel
theorem d_Ma_breakOpenStarts_8 : decode b_Ma_breakOpenStarts 8 = .ok (.aload_n 1, 1) := by decide +kernel
theorem d_Ma_breakOpenStarts_9 : decode b_Ma_breakOpenStarts 9 = .ok (.invokevirtual 151, 3) := by decide +kernel
theorem d_Ma_breakOpenStarts_12 : decode b_Ma_breakOpenStarts 12 = .ok (.ifCond .eq 16, 3) := by decide +kernel
theorem d_Ma_breakOpenStarts_15 : decode b_Ma_breakOpenStarts 15 = .ok (.aload_n 0, 1) := by decide +kernel
theorem d_Ma_breakOpenStarts_16 : decode b_Ma_breakOpenStarts 16 = .ok (.aload_n 1, 1) := by decide +kernel
theorem d_Ma_breakOpenStarts_17 : decode b_Ma_breakOpenStarts 17 = .ok (.iload_n 2, 1) := by decide +kernel
theorem d_Ma_breakOpenStarts_18 : decode b_Ma_breakOpenStarts 18 = .ok (.iconst 3, 1) := by decide +kernel
theorem d_Ma_breakOpenStarts_19 : decode b_Ma_breakOpenStarts 19 = .ok (.invokevirtual 295, 3) := by decide +kernel
theorem d_Ma_breakOpenStarts_22 : decode b_Ma_breakOpenStarts 22 = .ok (.iinc 3 1, 3) := by decide +kernel
theorem d_Ma_breakOpenStarts_25 : decode b_Ma_breakOpenStarts 25 = .ok (.goto (-23), 3) := by decide +kernel
theorem d_Ma_breakOpenStarts_28 : decode b_Ma_breakOpenStarts 28 = .ok (.return_, 1) := by decide +kernel
abbrev ru_Ma_breakOpenStarts : Room := { frames := 2, cells := 0, slots := 0, locals := 49 }
def wj_Ma_breakOpenStarts_28 (y : Ly) (Post : St → Prop) (a0 : Nat) (a1 : Nat) (s_j28 : St) : Prop := Post s_j28
def wb_Ma_breakOpenStarts_2 (y : Ly) (Post : St → Prop) (K_2 : St → Int32 → Int32 → Prop) (a0 : Nat) (a1 : Nat) (s_h2 : St) (x2h2 : Int32) (x3h2 : Int32) : Prop := ((51 ≤ x3h2 → wj_Ma_breakOpenStarts_28 y Post a0 a1 s_h2) ∧ (¬ (51 ≤ x3h2) → wu_Ru_startIsOpen y (fun (s_2 : St) (r_1 : Int32) => ((r_1 = 0 → wj_Ma_breakOpenStarts_28 y Post a0 a1 s_2) ∧ (¬ (r_1 = 0) → wu_Ma_endStart y (fun (s_4 : St) => K_2 s_4 x2h2 (x3h2 + 1)) s_2 a0 a1 x2h2 3))) s_h2 a1))
def wl_Ma_breakOpenStarts_2 (y : Ly) (Post : St → Prop) (a0 : Nat) (a1 : Nat) (s_h2 : St) (x2h2 : Int32) (x3h2 : Int32) : Prop := ∃ (I : St → Int32 → Int32 → Prop) (μ : St → Int32 → Int32 → Nat), I s_h2 x2h2 x3h2 ∧ ∀ (u : St) (t0 : Int32) (t1 : Int32), I u t0 t1 → wb_Ma_breakOpenStarts_2 y Post (fun z t0q t1q => I z t0q t1q ∧ μ z t0q t1q < μ u t0 t1) a0 a1 u t0 t1
def wu_Ma_breakOpenStarts (y : Ly) (Post : St → Prop) (σ : St) (a0 : Nat) (a1 : Nat) (v2 : Int32) : Prop := wl_Ma_breakOpenStarts_2 y Post a0 a1 σ v2 0
set_option maxHeartbeats 4000000 in
set_option maxRecDepth 100000 in
theorem cu_Ma_breakOpenStarts (l : Launch) (D : va_G) (g : Nat → ClassId) (ad : Nat → Nat) (y : Ly) (Post : St → Prop) (σ : St) (a0 : Nat) (a1 : Nat) (v2 : Int32) (sz : Nat) (h_a0 : cl a0 = 4) (h_a1 : cl a1 = 7) (h : wu_Ma_breakOpenStarts y Post σ a0 a1 v2) : Met l y_Ma_breakOpenStarts (mw y_Ma_breakOpenStarts b_Ma_breakOpenStarts 4 (none)) ru_Ma_breakOpenStarts (PC g D [] [.ref (ad a0), .ref (ad a1), .int v2] sz (ws g ad y σ)) (va_Qv (fun u : St => Post u) (QW D (va_A (ws g ad y σ) sz) (fun u => ws g ad y u)) (va_A (ws g ad y σ) sz)) 0 0 (va_A (ws g ad y σ) sz) := by
  refine ofV (by decide +kernel) (Nat.le_of_ble_eq_true rfl) ?_
  intro p e s m args below meth c A Q ls H locs G hsz hP hD hS hl hret
  subst hsz
  have hl : lv_has ls 4 [(0, .ref (ad a0)), (1, .ref (ad a1)), (2, .int v2)] := hl
  unfold wu_Ma_breakOpenStarts at h
  refine lv_iconst (v := 0) G.1 G.2.1 d_Ma_breakOpenStarts_0 (by decide) ?_
  refine lv_istore_n (lv' := [(3, .int 0), (0, .ref (ad a0)), (1, .ref (ad a1)), (2, .int v2)]) G.1 G.2.1 d_Ma_breakOpenStarts_1 rfl hl (by decide) rfl (fun ls hl => ?_)
  unfold wl_Ma_breakOpenStarts_2 at h
  obtain ⟨I_2, μ_2, hI_2, hB_2⟩ := h
  have L_2 : ∀ (n_2 : Nat) (s_h2 : St) (x2h2 : Int32) (x3h2 : Int32), μ_2 s_h2 x2h2 x3h2 < n_2 → I_2 s_h2 x2h2 x3h2 → ∀ (H : Heap) (locs : List Loc), va_P D CL (ws g ad y s_h2) H → va_D A (ws g ad y s_h2) → va_S A s.heap H locs → ∀ ls, lv_has ls 4 [(0, .ref (ad a0)), (1, .ref (ad a1)), (2, .int x2h2), (3, .int x3h2)] → W p l e ru_Ma_breakOpenStarts s m args below meth c H locs 0 0 Q (F0 m 2 ls []) := by
    intro n_2
    induction n_2 with
    | zero => intro s_h2 x2h2 x3h2 hμ; exact absurd hμ (Nat.not_lt_zero _)
    | succ n_2 ih_2 =>
      intro s_h2 x2h2 x3h2 hμ_2 hJ H locs hP hD hS ls hl
      obtain ⟨K_2, hK_2, h⟩ : ∃ K : St → Int32 → Int32 → Prop, (∀ z (t0 : Int32) (t1 : Int32), K z t0 t1 → I_2 z t0 t1 ∧ μ_2 z t0 t1 < μ_2 s_h2 x2h2 x3h2) ∧ wb_Ma_breakOpenStarts_2 y Post K a0 a1 s_h2 x2h2 x3h2 := ⟨_, fun _ _ _ h => h, hB_2 s_h2 x2h2 x3h2 hJ⟩
      unfold wb_Ma_breakOpenStarts_2 at h
      refine lv_iload_n G.1 G.2.1 d_Ma_breakOpenStarts_2 rfl (lv_at hl 3 rfl) ?_
      refine lv_bipush (v := 51) G.1 G.2.1 d_Ma_breakOpenStarts_3 (by decide) ?_
      have J_28 : ∀ (s_j28 : St) (H : Heap) (locs : List Loc), wj_Ma_breakOpenStarts_28 y Post a0 a1 s_j28 → va_P D CL (ws g ad y s_j28) H → va_D A (ws g ad y s_j28) → va_S A s.heap H locs → ∀ ls, lv_has ls 4 [] → W p l e ru_Ma_breakOpenStarts s m args below meth c H locs 0 0 Q (F0 m 28 ls []) := by
        intro s_j28 H locs h hP hD hS ls hl
        unfold wj_Ma_breakOpenStarts_28 at h
        exact hret _ _ _ _ _ _ ls h hP hD hS (Nat.le_refl _) (Nat.le_refl _) d_Ma_breakOpenStarts_28
      refine lv_icmp_ge (tgt := 28) G.1 G.2.1 d_Ma_breakOpenStarts_5 (by decide) (fun c5 => ?_) (fun c5 => ?_)
      · skip
        have h := h.1 c5
        exact J_28 s_h2 H locs h hP hD hS ls (lv_sub hl [] rfl)
      · skip
        have h := h.2 c5
        refine lv_aload_n G.1 G.2.1 d_Ma_breakOpenStarts_8 rfl (lv_at hl 1 rfl) ?_
        refine ucVi (As := []) (rest := []) G hP hD hS (cu_Ru_startIsOpen l D g ad y _ s_h2 a1 H.size h_a1 h) w9_Ru_startIsOpen q1793 ⟨Nat.le_of_ble_eq_true rfl, Nat.le_of_ble_eq_true rfl⟩ rfl rfl h_a1 (q := (RRu, TRu, 19)) rfl rfl hl.1 rfl (Nat.le_of_ble_eq_true rfl) rfl ⟨Nat.le_refl _, Nat.le_refl _⟩ d_Ma_breakOpenStarts_9 (fun r_1 s_2 H locs h hP hD hS => ?_)
        refine lv_if_eq (tgt := 28) G.1 G.2.1 d_Ma_breakOpenStarts_12 (by decide) (fun c12 => ?_) (fun c12 => ?_)
        · skip
          have h := h.1 c12
          exact J_28 s_2 H locs h hP hD hS ls (lv_sub hl [] rfl)
        · skip
          have h := h.2 c12
          refine lv_aload_n G.1 G.2.1 d_Ma_breakOpenStarts_15 rfl (lv_at hl 0 rfl) ?_
          refine lv_aload_n G.1 G.2.1 d_Ma_breakOpenStarts_16 rfl (lv_at hl 1 rfl) ?_
          refine lv_iload_n G.1 G.2.1 d_Ma_breakOpenStarts_17 rfl (lv_at hl 2 rfl) ?_
          refine lv_iconst (v := 3) G.1 G.2.1 d_Ma_breakOpenStarts_18 (by decide) ?_
          refine ucVv (As := [.ref (ad a1), .int x2h2, .int 3]) (rest := []) G hP hD hS (cu_Ma_endStart l D g ad y _ s_2 a0 a1 x2h2 3 H.size h_a0 h_a1 h) w9_Ma_endStart q1924 ⟨Nat.le_of_ble_eq_true rfl, Nat.le_of_ble_eq_true rfl⟩ rfl rfl h_a0 (q := (RMa, TMa, 19)) rfl rfl hl.1 rfl (Nat.le_of_ble_eq_true rfl) rfl ⟨Nat.le_refl _, Nat.le_refl _⟩ d_Ma_breakOpenStarts_19 (fun s_4 H locs h hP hD hS => ?_)
          refine W.eq (g2 := F0 m 22 ls []) rfl ?_
          refine lv_iinc (v := x3h2 + 1) (lv' := [(3, .int (x3h2 + 1)), (0, .ref (ad a0)), (1, .ref (ad a1)), (2, .int x2h2)]) G.1 G.2.1 d_Ma_breakOpenStarts_22 hl (k := 3) rfl rfl (by decide) rfl (fun ls hl => ?_)
          refine lv_goto (tgt := 2) G.1 G.2.1 d_Ma_breakOpenStarts_25 (by decide) ?_
          have h := hK_2 s_4 x2h2 (x3h2 + 1) h
          exact ih_2 s_4 x2h2 (x3h2 + 1) (Nat.lt_of_lt_of_le h.2 (Nat.le_of_lt_succ hμ_2)) h.1 H locs hP hD hS ls (lv_sub hl [1, 2, 3, 0] rfl)
  exact L_2 _ σ v2 0 (Nat.lt_succ_self _) hI_2 H locs hP hD hS ls (lv_sub hl [1, 2, 3, 0] rfl)
