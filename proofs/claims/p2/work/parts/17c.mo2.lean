theorem q2575 : Cond.methodLink "ClassWorksModel" 134 Lib.objectInit ∈ lw_ok := lw_okmem (List.mem_of_getElem? (i := 2575) (by decide +kernel)) rfl
theorem q3070 : Cond.fieldLink "ClassWorksModel" 121 "ClassWorksModel" "kMake" "I" ∈ lw_ok := lw_okmem (List.mem_of_getElem? (i := 3070) (by decide +kernel)) rfl
theorem q3071 : Cond.fieldLink "ClassWorksModel" 127 "ClassWorksModel" "kStart" "I" ∈ lw_ok := lw_okmem (List.mem_of_getElem? (i := 3071) (by decide +kernel)) rfl
theorem q3072 : Cond.fieldLink "ClassWorksModel" 153 "ClassWorksModel" "kThing" "I" ∈ lw_ok := lw_okmem (List.mem_of_getElem? (i := 3072) (by decide +kernel)) rfl
theorem q3073 : Cond.fieldLink "ClassWorksModel" 158 "ClassWorksModel" "kClass" "I" ∈ lw_ok := lw_okmem (List.mem_of_getElem? (i := 3073) (by decide +kernel)) rfl
theorem q3074 : Cond.fieldLink "ClassWorksModel" 163 "ClassWorksModel" "kFinal" "I" ∈ lw_ok := lw_okmem (List.mem_of_getElem? (i := 3074) (by decide +kernel)) rfl
theorem q3075 : Cond.fieldLink "ClassWorksModel" 168 "ClassWorksModel" "kAbstract" "I" ∈ lw_ok := lw_okmem (List.mem_of_getElem? (i := 3075) (by decide +kernel)) rfl
theorem q3076 : Cond.fieldLink "ClassWorksModel" 173 "ClassWorksModel" "kFace" "I" ∈ lw_ok := lw_okmem (List.mem_of_getElem? (i := 3076) (by decide +kernel)) rfl
theorem q3077 : Cond.fieldLink "ClassWorksModel" 178 "ClassWorksModel" "kField" "I" ∈ lw_ok := lw_okmem (List.mem_of_getElem? (i := 3077) (by decide +kernel)) rfl
theorem q3078 : Cond.fieldLink "ClassWorksModel" 183 "ClassWorksModel" "kMethod" "I" ∈ lw_ok := lw_okmem (List.mem_of_getElem? (i := 3078) (by decide +kernel)) rfl
theorem q3079 : Cond.fieldLink "ClassWorksModel" 188 "ClassWorksModel" "kPrivate" "I" ∈ lw_ok := lw_okmem (List.mem_of_getElem? (i := 3079) (by decide +kernel)) rfl
theorem q3080 : Cond.fieldLink "ClassWorksModel" 192 "ClassWorksModel" "kRoom" "I" ∈ lw_ok := lw_okmem (List.mem_of_getElem? (i := 3080) (by decide +kernel)) rfl
theorem q3081 : Cond.fieldLink "ClassWorksModel" 197 "ClassWorksModel" "kFrame" "I" ∈ lw_ok := lw_okmem (List.mem_of_getElem? (i := 3081) (by decide +kernel)) rfl
theorem q3082 : Cond.fieldLink "ClassWorksModel" 202 "ClassWorksModel" "kHandler" "I" ∈ lw_ok := lw_okmem (List.mem_of_getElem? (i := 3082) (by decide +kernel)) rfl
theorem q3083 : Cond.fieldLink "ClassWorksModel" 207 "ClassWorksModel" "kEnd" "I" ∈ lw_ok := lw_okmem (List.mem_of_getElem? (i := 3083) (by decide +kernel)) rfl
theorem q3084 : Cond.fieldLink "ClassWorksModel" 212 "ClassWorksModel" "kRow" "I" ∈ lw_ok := lw_okmem (List.mem_of_getElem? (i := 3084) (by decide +kernel)) rfl
theorem q3085 : Cond.fieldLink "ClassWorksModel" 217 "ClassWorksModel" "kNone" "I" ∈ lw_ok := lw_okmem (List.mem_of_getElem? (i := 3085) (by decide +kernel)) rfl
theorem q3086 : Cond.fieldLink "ClassWorksModel" 222 "ClassWorksModel" "kUnset" "I" ∈ lw_ok := lw_okmem (List.mem_of_getElem? (i := 3086) (by decide +kernel)) rfl
theorem q3087 : Cond.fieldLink "ClassWorksModel" 227 "ClassWorksModel" "kUnmade" "I" ∈ lw_ok := lw_okmem (List.mem_of_getElem? (i := 3087) (by decide +kernel)) rfl
theorem q3088 : Cond.fieldLink "ClassWorksModel" 232 "ClassWorksModel" "kAny" "I" ∈ lw_ok := lw_okmem (List.mem_of_getElem? (i := 3088) (by decide +kernel)) rfl
theorem q3089 : Cond.fieldLink "ClassWorksModel" 237 "ClassWorksModel" "kRun" "I" ∈ lw_ok := lw_okmem (List.mem_of_getElem? (i := 3089) (by decide +kernel)) rfl
theorem q3090 : Cond.fieldLink "ClassWorksModel" 242 "ClassWorksModel" "kNop" "I" ∈ lw_ok := lw_okmem (List.mem_of_getElem? (i := 3090) (by decide +kernel)) rfl
theorem q3091 : Cond.fieldLink "ClassWorksModel" 245 "ClassWorksModel" "kNum" "I" ∈ lw_ok := lw_okmem (List.mem_of_getElem? (i := 3091) (by decide +kernel)) rfl
theorem q3092 : Cond.fieldLink "ClassWorksModel" 248 "ClassWorksModel" "kNull" "I" ∈ lw_ok := lw_okmem (List.mem_of_getElem? (i := 3092) (by decide +kernel)) rfl
theorem q3093 : Cond.fieldLink "ClassWorksModel" 251 "ClassWorksModel" "kStatic" "I" ∈ lw_ok := lw_okmem (List.mem_of_getElem? (i := 3093) (by decide +kernel)) rfl
set_option maxHeartbeats 4000000 in
set_option maxRecDepth 100000 in
/-- the names -/
theorem mo_p1 {p : Program} {l : Launch} {e : Env} {s : State} {m : MethodId} {args : Array Value} {below : List Frame} {meth : Method} {c : Code} {H : Heap} {locs : List Loc} {Q : State → Prop} {ls : Array Slot} {A0 : Nat → Prop} {D : va_G} {g : Nat → ClassId} {h1 : Nat} (K V : Nat → Nat) (G : GV l p s m args meth c y_Mo_init b_Mo_init 3 none g D (sl_Mo K V) A0) (hP : va_P D CL [(h1, .inr (14, Zs))] H) (hD : va_D A0 [(h1, .inr (14, Zs))]) (hS : va_S A0 s.heap H locs) (hl : lv_has ls 3 [(0, .ref h1)])
    (kk : ∀ (fs : List Value) (r6 r8 : Int32) (H1 : Heap) (locs1 : List Loc), fs.length = 131 → fs[6]? = some (.int r6) → fs[8]? = some (.int r8) → (∀ j, 30 ≤ j → fs[j]? = Zs[j]?) → va_P D CL [(h1, .inr (14, fs))] H1 → va_D A0 [(h1, .inr (14, fs))] → va_S A0 s.heap H1 locs1 → W p l e rm_Mo_init s m args below meth c H1 locs1 5 11280 Q (F0 m 289 ls [])) : W p l e rm_Mo_init s m args below meth c H locs 0 0 Q (F0 m 0 ls []) := by
  obtain ⟨fs0, hfs0⟩ : ∃ z : List Value, z = Zs := ⟨_, rfl⟩
  rw [← hfs0] at hP hD
  have l0 : fs0.length = 131 := by rw [hfs0]; rfl
  have z0 : ∀ j : Nat, fs0[j]? = Zs[j]? := fun j => by rw [hfs0]
  refine lv_aload_n G.1 G.2.1 d_Mo_init_0 rfl (lv_at hl 0 rfl) ?_
  refine kobj G q2575 q361 q362 hl.1 d_Mo_init_1 (Nat.le_of_ble_eq_true rfl) (Nat.le_of_ble_eq_true rfl) ?_
  refine lv_aload_n G.1 G.2.1 d_Mo_init_4 rfl (lv_at hl 0 rfl) ?_
  refine lv_sipush (v := nI 6144) G.1 G.2.1 d_Mo_init_5 (by decide) ?_
  refine mo_arrK (ty := .byte) (nn := 6144) (c1 := 1) (s1 := 6144) (a0 := (6144, .inl (fun _ => nI 0))) G q403 rfl (fun _ h => h) 1 rfl hP hD hS (fun _ => rfl) (by omega) (Nat.le_of_ble_eq_true rfl) d_Mo_init_8 l0 0 (by decide) q3064 rfl (fun _ => rfl) (fun _ => rfl) d_Mo_init_10 (Nat.le_of_ble_eq_true rfl) (Nat.le_of_ble_eq_true rfl) (Nat.le_of_ble_eq_true rfl) (Nat.le_of_ble_eq_true rfl) (fun q1 fs1 H locs l1 v1 n1 hP hD hS => ?_)
  refine lv_aload_n G.1 G.2.1 d_Mo_init_13 rfl (lv_at hl 0 rfl) ?_
  refine lv_sipush (v := nI 512) G.1 G.2.1 d_Mo_init_14 (by decide) ?_
  refine mo_arrK (ty := .byte) (nn := 512) (c1 := 2) (s1 := 6656) (a0 := (512, .inl (fun _ => nI 0))) G q403 rfl (fun _ h => h) 1 rfl hP hD hS (fun _ => rfl) (by omega) (Nat.le_of_ble_eq_true rfl) d_Mo_init_17 l1 1 (by decide) q3065 rfl (fun _ => rfl) (fun _ => rfl) d_Mo_init_19 (Nat.le_of_ble_eq_true rfl) (Nat.le_of_ble_eq_true rfl) (Nat.le_of_ble_eq_true rfl) (Nat.le_of_ble_eq_true rfl) (fun q2 fs2 H locs l2 v2 n2 hP hD hS => ?_)
  refine lv_aload_n G.1 G.2.1 d_Mo_init_22 rfl (lv_at hl 0 rfl) ?_
  refine lv_sipush (v := nI 512) G.1 G.2.1 d_Mo_init_23 (by decide) ?_
  refine mo_arrK (ty := .int) (nn := 512) (c1 := 3) (s1 := 7168) (a0 := (512, .inl (fun _ => nI 0))) G q404 rfl (fun _ h => h) 0 rfl hP hD hS (fun _ => rfl) (by omega) (Nat.le_of_ble_eq_true rfl) d_Mo_init_26 l2 2 (by decide) q3066 rfl (fun _ => rfl) (fun _ => rfl) d_Mo_init_28 (Nat.le_of_ble_eq_true rfl) (Nat.le_of_ble_eq_true rfl) (Nat.le_of_ble_eq_true rfl) (Nat.le_of_ble_eq_true rfl) (fun q3 fs3 H locs l3 v3 n3 hP hD hS => ?_)
  refine lv_aload_n G.1 G.2.1 d_Mo_init_31 rfl (lv_at hl 0 rfl) ?_
  refine lv_sipush (v := nI 4096) G.1 G.2.1 d_Mo_init_32 (by decide) ?_
  refine mo_arrK (ty := .int) (nn := 4096) (c1 := 4) (s1 := 11264) (a0 := (4096, .inl (fun _ => nI 0))) G q404 rfl (fun _ h => h) 0 rfl hP hD hS (fun _ => rfl) (by omega) (Nat.le_of_ble_eq_true rfl) d_Mo_init_35 l3 3 (by decide) q3067 rfl (fun _ => rfl) (fun _ => rfl) d_Mo_init_37 (Nat.le_of_ble_eq_true rfl) (Nat.le_of_ble_eq_true rfl) (Nat.le_of_ble_eq_true rfl) (Nat.le_of_ble_eq_true rfl) (fun q4 fs4 H locs l4 v4 n4 hP hD hS => ?_)
  refine lv_aload_n G.1 G.2.1 d_Mo_init_40 rfl (lv_at hl 0 rfl) ?_
  refine lv_bipush (v := nI 16) G.1 G.2.1 d_Mo_init_41 (by decide) ?_
  refine mo_arrK (ty := .byte) (nn := 16) (c1 := 5) (s1 := 11280) (a0 := (16, .inl (fun _ => nI 0))) G q403 rfl (fun _ h => h) 1 rfl hP hD hS (fun _ => rfl) (by omega) (Nat.le_of_ble_eq_true rfl) d_Mo_init_43 l4 5 (by decide) q3069 rfl (fun _ => rfl) (fun _ => rfl) d_Mo_init_45 (Nat.le_of_ble_eq_true rfl) (Nat.le_of_ble_eq_true rfl) (Nat.le_of_ble_eq_true rfl) (Nat.le_of_ble_eq_true rfl) (fun q5 fs5 H locs l5 v5 n5 hP hD hS => ?_)
  have hf : mk_f q1 q2 q3 q4 q5 0 fs5 := ⟨l5, (n5 0 (by decide)).trans ((n4 0 (by decide)).trans ((n3 0 (by decide)).trans ((n2 0 (by decide)).trans (v1)))), (n5 1 (by decide)).trans ((n4 1 (by decide)).trans ((n3 1 (by decide)).trans (v2))), (n5 2 (by decide)).trans ((n4 2 (by decide)).trans (v3)), (n5 3 (by decide)).trans (v4), ((n5 4 (by decide)).trans ((n4 4 (by decide)).trans ((n3 4 (by decide)).trans ((n2 4 (by decide)).trans ((n1 4 (by decide)).trans (z0 4)))))).trans rfl, v5⟩
  have hz : ∀ j, 30 ≤ j → fs5[j]? = Zs[j]? := fun j hj => (n5 j (by omega)).trans ((n4 j (by omega)).trans ((n3 j (by omega)).trans ((n2 j (by omega)).trans ((n1 j (by omega)).trans (z0 j)))))
  have hP : va_P D CL ((h1, .inr (14, fs5)) :: mk_w g q1 q2 q3 q4 q5 (fun _ => nI 0) (fun _ => nI 0) (fun _ => nI 0) (fun _ => nI 0) (fun _ => nI 0)) H := hP.sub [0, 5, 4, 3, 2, 1] rfl
  have hD : va_D A0 ((h1, .inr (14, fs5)) :: mk_w g q1 q2 q3 q4 q5 (fun _ => nI 0) (fun _ => nI 0) (fun _ => nI 0) (fun _ => nI 0) (fun _ => nI 0)) := hD.sub [0, 5, 4, 3, 2, 1] (by decide) rfl
  have hI := MI_0
  have hb : 0 ≤ 0 := Nat.le_refl _
  refine mo_key (pc := 48) G hP hD hS hl hf hI (z_Mo_140 (K 140) (V 140)) (sm_Mo_140 K V) (G.2.2.2.2.2.2.2.2.2.2.1.2 _ (sm_Mo_140 K V)).1 1 (by rw [z_Mo_140_len]; decide) (by omega) rfl 6 (by decide) (by decide) q3070 rfl (fun _ => rfl) (fun _ => rfl) (Nat.le_of_ble_eq_true rfl) (Nat.le_of_ble_eq_true rfl) d_Mo_init_48 d_Mo_init_49 d_Mo_init_50 d_Mo_init_52 d_Mo_init_55 (fun r6 kq6 fs6 fb fz fn fh fk H locs hf hk6 hI v6 n6 hP hD hS => ?_)
  have hb : kq6 ≤ 1 := by omega
  have hz : ∀ j, 30 ≤ j → fs6[j]? = Zs[j]? := fun j hj => (n6 j (by omega) (by omega)).trans (hz j hj)
  have g6 := v6
  refine mo_key (pc := 58) G hP hD hS hl hf hI (z_Mo_146 (K 146) (V 146)) (sm_Mo_146 K V) (G.2.2.2.2.2.2.2.2.2.2.1.2 _ (sm_Mo_146 K V)).1 1 (by rw [z_Mo_146_len]; decide) (by omega) rfl 7 (by decide) (by decide) q3071 rfl (fun _ => rfl) (fun _ => rfl) (Nat.le_of_ble_eq_true rfl) (Nat.le_of_ble_eq_true rfl) d_Mo_init_58 d_Mo_init_59 d_Mo_init_60 d_Mo_init_62 d_Mo_init_65 (fun r7 kq7 fs7 fb fz fn fh fk H locs hf hk7 hI v7 n7 hP hD hS => ?_)
  have hb : kq7 ≤ 2 := by omega
  have hz : ∀ j, 30 ≤ j → fs7[j]? = Zs[j]? := fun j hj => (n7 j (by omega) (by omega)).trans (hz j hj)
  have g6 := (n7 6 (by decide) (by decide)).trans g6
  refine mo_keys (pc := 68) G hP hD hS hl hf hI (z_Mo_148 (K 148) (V 148)) (sm_Mo_148 K V) (G.2.2.2.2.2.2.2.2.2.2.1.2 _ (sm_Mo_148 K V)).1 21 (z_Mo_148_cbl _ _) (by omega) (by rw [z_Mo_148_len]; decide) (z_Mo_148_rl _ _) 8 (by decide) (by decide) q3072 rfl (fun _ => rfl) (fun _ => rfl) (Nat.le_of_ble_eq_true rfl) (Nat.le_of_ble_eq_true rfl) d_Mo_init_68 d_Mo_init_69 d_Mo_init_70 d_Mo_init_72 d_Mo_init_75 (fun r8 kq8 fs8 fb fz fn fh fk H locs hf hk8 hI v8 n8 hP hD hS => ?_)
  have hb : kq8 ≤ 23 := by omega
  have hz : ∀ j, 30 ≤ j → fs8[j]? = Zs[j]? := fun j hj => (n8 j (by omega) (by omega)).trans (hz j hj)
  have g6 := (n8 6 (by decide) (by decide)).trans g6
  have g8 := v8
  refine mo_key (pc := 78) G hP hD hS hl hf hI (z_Mo_156 (K 156) (V 156)) (sm_Mo_156 K V) (G.2.2.2.2.2.2.2.2.2.2.1.2 _ (sm_Mo_156 K V)).1 1 (by rw [z_Mo_156_len]; decide) (by omega) rfl 9 (by decide) (by decide) q3073 rfl (fun _ => rfl) (fun _ => rfl) (Nat.le_of_ble_eq_true rfl) (Nat.le_of_ble_eq_true rfl) d_Mo_init_78 d_Mo_init_79 d_Mo_init_80 d_Mo_init_82 d_Mo_init_85 (fun r9 kq9 fs9 fb fz fn fh fk H locs hf hk9 hI v9 n9 hP hD hS => ?_)
  have hb : kq9 ≤ 24 := by omega
  have hz : ∀ j, 30 ≤ j → fs9[j]? = Zs[j]? := fun j hj => (n9 j (by omega) (by omega)).trans (hz j hj)
  have g6 := (n9 6 (by decide) (by decide)).trans g6
  have g8 := (n9 8 (by decide) (by decide)).trans g8
  refine mo_key (pc := 88) G hP hD hS hl hf hI (z_Mo_161 (K 161) (V 161)) (sm_Mo_161 K V) (G.2.2.2.2.2.2.2.2.2.2.1.2 _ (sm_Mo_161 K V)).1 1 (by rw [z_Mo_161_len]; decide) (by omega) rfl 10 (by decide) (by decide) q3074 rfl (fun _ => rfl) (fun _ => rfl) (Nat.le_of_ble_eq_true rfl) (Nat.le_of_ble_eq_true rfl) d_Mo_init_88 d_Mo_init_89 d_Mo_init_90 d_Mo_init_92 d_Mo_init_95 (fun r10 kq10 fs10 fb fz fn fh fk H locs hf hk10 hI v10 n10 hP hD hS => ?_)
  have hb : kq10 ≤ 25 := by omega
  have hz : ∀ j, 30 ≤ j → fs10[j]? = Zs[j]? := fun j hj => (n10 j (by omega) (by omega)).trans (hz j hj)
  have g6 := (n10 6 (by decide) (by decide)).trans g6
  have g8 := (n10 8 (by decide) (by decide)).trans g8
  refine mo_key (pc := 98) G hP hD hS hl hf hI (z_Mo_166 (K 166) (V 166)) (sm_Mo_166 K V) (G.2.2.2.2.2.2.2.2.2.2.1.2 _ (sm_Mo_166 K V)).1 1 (by rw [z_Mo_166_len]; decide) (by omega) rfl 11 (by decide) (by decide) q3075 rfl (fun _ => rfl) (fun _ => rfl) (Nat.le_of_ble_eq_true rfl) (Nat.le_of_ble_eq_true rfl) d_Mo_init_98 d_Mo_init_99 d_Mo_init_100 d_Mo_init_102 d_Mo_init_105 (fun r11 kq11 fs11 fb fz fn fh fk H locs hf hk11 hI v11 n11 hP hD hS => ?_)
  have hb : kq11 ≤ 26 := by omega
  have hz : ∀ j, 30 ≤ j → fs11[j]? = Zs[j]? := fun j hj => (n11 j (by omega) (by omega)).trans (hz j hj)
  have g6 := (n11 6 (by decide) (by decide)).trans g6
  have g8 := (n11 8 (by decide) (by decide)).trans g8
  refine mo_key (pc := 108) G hP hD hS hl hf hI (z_Mo_171 (K 171) (V 171)) (sm_Mo_171 K V) (G.2.2.2.2.2.2.2.2.2.2.1.2 _ (sm_Mo_171 K V)).1 1 (by rw [z_Mo_171_len]; decide) (by omega) rfl 12 (by decide) (by decide) q3076 rfl (fun _ => rfl) (fun _ => rfl) (Nat.le_of_ble_eq_true rfl) (Nat.le_of_ble_eq_true rfl) d_Mo_init_108 d_Mo_init_109 d_Mo_init_110 d_Mo_init_112 d_Mo_init_115 (fun r12 kq12 fs12 fb fz fn fh fk H locs hf hk12 hI v12 n12 hP hD hS => ?_)
  have hb : kq12 ≤ 27 := by omega
  have hz : ∀ j, 30 ≤ j → fs12[j]? = Zs[j]? := fun j hj => (n12 j (by omega) (by omega)).trans (hz j hj)
  have g6 := (n12 6 (by decide) (by decide)).trans g6
  have g8 := (n12 8 (by decide) (by decide)).trans g8
  refine mo_key (pc := 118) G hP hD hS hl hf hI (z_Mo_176 (K 176) (V 176)) (sm_Mo_176 K V) (G.2.2.2.2.2.2.2.2.2.2.1.2 _ (sm_Mo_176 K V)).1 1 (by rw [z_Mo_176_len]; decide) (by omega) rfl 13 (by decide) (by decide) q3077 rfl (fun _ => rfl) (fun _ => rfl) (Nat.le_of_ble_eq_true rfl) (Nat.le_of_ble_eq_true rfl) d_Mo_init_118 d_Mo_init_119 d_Mo_init_120 d_Mo_init_122 d_Mo_init_125 (fun r13 kq13 fs13 fb fz fn fh fk H locs hf hk13 hI v13 n13 hP hD hS => ?_)
  have hb : kq13 ≤ 28 := by omega
  have hz : ∀ j, 30 ≤ j → fs13[j]? = Zs[j]? := fun j hj => (n13 j (by omega) (by omega)).trans (hz j hj)
  have g6 := (n13 6 (by decide) (by decide)).trans g6
  have g8 := (n13 8 (by decide) (by decide)).trans g8
  refine mo_key (pc := 128) G hP hD hS hl hf hI (z_Mo_181 (K 181) (V 181)) (sm_Mo_181 K V) (G.2.2.2.2.2.2.2.2.2.2.1.2 _ (sm_Mo_181 K V)).1 1 (by rw [z_Mo_181_len]; decide) (by omega) rfl 14 (by decide) (by decide) q3078 rfl (fun _ => rfl) (fun _ => rfl) (Nat.le_of_ble_eq_true rfl) (Nat.le_of_ble_eq_true rfl) d_Mo_init_128 d_Mo_init_129 d_Mo_init_130 d_Mo_init_132 d_Mo_init_135 (fun r14 kq14 fs14 fb fz fn fh fk H locs hf hk14 hI v14 n14 hP hD hS => ?_)
  have hb : kq14 ≤ 29 := by omega
  have hz : ∀ j, 30 ≤ j → fs14[j]? = Zs[j]? := fun j hj => (n14 j (by omega) (by omega)).trans (hz j hj)
  have g6 := (n14 6 (by decide) (by decide)).trans g6
  have g8 := (n14 8 (by decide) (by decide)).trans g8
  refine mo_key (pc := 138) G hP hD hS hl hf hI (z_Mo_186 (K 186) (V 186)) (sm_Mo_186 K V) (G.2.2.2.2.2.2.2.2.2.2.1.2 _ (sm_Mo_186 K V)).1 1 (by rw [z_Mo_186_len]; decide) (by omega) rfl 15 (by decide) (by decide) q3079 rfl (fun _ => rfl) (fun _ => rfl) (Nat.le_of_ble_eq_true rfl) (Nat.le_of_ble_eq_true rfl) d_Mo_init_138 d_Mo_init_139 d_Mo_init_140 d_Mo_init_142 d_Mo_init_145 (fun r15 kq15 fs15 fb fz fn fh fk H locs hf hk15 hI v15 n15 hP hD hS => ?_)
  have hb : kq15 ≤ 30 := by omega
  have hz : ∀ j, 30 ≤ j → fs15[j]? = Zs[j]? := fun j hj => (n15 j (by omega) (by omega)).trans (hz j hj)
  have g6 := (n15 6 (by decide) (by decide)).trans g6
  have g8 := (n15 8 (by decide) (by decide)).trans g8
  refine mo_key (pc := 148) G hP hD hS hl hf hI (z_Mo_191 (K 191) (V 191)) (sm_Mo_191 K V) (G.2.2.2.2.2.2.2.2.2.2.1.2 _ (sm_Mo_191 K V)).1 1 (by rw [z_Mo_191_len]; decide) (by omega) rfl 16 (by decide) (by decide) q3080 rfl (fun _ => rfl) (fun _ => rfl) (Nat.le_of_ble_eq_true rfl) (Nat.le_of_ble_eq_true rfl) d_Mo_init_148 d_Mo_init_149 d_Mo_init_150 d_Mo_init_152 d_Mo_init_155 (fun r16 kq16 fs16 fb fz fn fh fk H locs hf hk16 hI v16 n16 hP hD hS => ?_)
  have hb : kq16 ≤ 31 := by omega
  have hz : ∀ j, 30 ≤ j → fs16[j]? = Zs[j]? := fun j hj => (n16 j (by omega) (by omega)).trans (hz j hj)
  have g6 := (n16 6 (by decide) (by decide)).trans g6
  have g8 := (n16 8 (by decide) (by decide)).trans g8
  refine mo_key (pc := 158) G hP hD hS hl hf hI (z_Mo_195 (K 195) (V 195)) (sm_Mo_195 K V) (G.2.2.2.2.2.2.2.2.2.2.1.2 _ (sm_Mo_195 K V)).1 1 (by rw [z_Mo_195_len]; decide) (by omega) rfl 17 (by decide) (by decide) q3081 rfl (fun _ => rfl) (fun _ => rfl) (Nat.le_of_ble_eq_true rfl) (Nat.le_of_ble_eq_true rfl) d_Mo_init_158 d_Mo_init_159 d_Mo_init_160 d_Mo_init_162 d_Mo_init_165 (fun r17 kq17 fs17 fb fz fn fh fk H locs hf hk17 hI v17 n17 hP hD hS => ?_)
  have hb : kq17 ≤ 32 := by omega
  have hz : ∀ j, 30 ≤ j → fs17[j]? = Zs[j]? := fun j hj => (n17 j (by omega) (by omega)).trans (hz j hj)
  have g6 := (n17 6 (by decide) (by decide)).trans g6
  have g8 := (n17 8 (by decide) (by decide)).trans g8
  refine mo_key (pc := 168) G hP hD hS hl hf hI (z_Mo_200 (K 200) (V 200)) (sm_Mo_200 K V) (G.2.2.2.2.2.2.2.2.2.2.1.2 _ (sm_Mo_200 K V)).1 1 (by rw [z_Mo_200_len]; decide) (by omega) rfl 18 (by decide) (by decide) q3082 rfl (fun _ => rfl) (fun _ => rfl) (Nat.le_of_ble_eq_true rfl) (Nat.le_of_ble_eq_true rfl) d_Mo_init_168 d_Mo_init_169 d_Mo_init_170 d_Mo_init_172 d_Mo_init_175 (fun r18 kq18 fs18 fb fz fn fh fk H locs hf hk18 hI v18 n18 hP hD hS => ?_)
  have hb : kq18 ≤ 33 := by omega
  have hz : ∀ j, 30 ≤ j → fs18[j]? = Zs[j]? := fun j hj => (n18 j (by omega) (by omega)).trans (hz j hj)
  have g6 := (n18 6 (by decide) (by decide)).trans g6
  have g8 := (n18 8 (by decide) (by decide)).trans g8
  refine mo_key (pc := 178) G hP hD hS hl hf hI (z_Mo_205 (K 205) (V 205)) (sm_Mo_205 K V) (G.2.2.2.2.2.2.2.2.2.2.1.2 _ (sm_Mo_205 K V)).1 1 (by rw [z_Mo_205_len]; decide) (by omega) rfl 19 (by decide) (by decide) q3083 rfl (fun _ => rfl) (fun _ => rfl) (Nat.le_of_ble_eq_true rfl) (Nat.le_of_ble_eq_true rfl) d_Mo_init_178 d_Mo_init_179 d_Mo_init_180 d_Mo_init_182 d_Mo_init_185 (fun r19 kq19 fs19 fb fz fn fh fk H locs hf hk19 hI v19 n19 hP hD hS => ?_)
  have hb : kq19 ≤ 34 := by omega
  have hz : ∀ j, 30 ≤ j → fs19[j]? = Zs[j]? := fun j hj => (n19 j (by omega) (by omega)).trans (hz j hj)
  have g6 := (n19 6 (by decide) (by decide)).trans g6
  have g8 := (n19 8 (by decide) (by decide)).trans g8
  refine mo_key (pc := 188) G hP hD hS hl hf hI (z_Mo_210 (K 210) (V 210)) (sm_Mo_210 K V) (G.2.2.2.2.2.2.2.2.2.2.1.2 _ (sm_Mo_210 K V)).1 1 (by rw [z_Mo_210_len]; decide) (by omega) rfl 20 (by decide) (by decide) q3084 rfl (fun _ => rfl) (fun _ => rfl) (Nat.le_of_ble_eq_true rfl) (Nat.le_of_ble_eq_true rfl) d_Mo_init_188 d_Mo_init_189 d_Mo_init_190 d_Mo_init_192 d_Mo_init_195 (fun r20 kq20 fs20 fb fz fn fh fk H locs hf hk20 hI v20 n20 hP hD hS => ?_)
  have hb : kq20 ≤ 35 := by omega
  have hz : ∀ j, 30 ≤ j → fs20[j]? = Zs[j]? := fun j hj => (n20 j (by omega) (by omega)).trans (hz j hj)
  have g6 := (n20 6 (by decide) (by decide)).trans g6
  have g8 := (n20 8 (by decide) (by decide)).trans g8
  refine mo_key (pc := 198) G hP hD hS hl hf hI (z_Mo_215 (K 215) (V 215)) (sm_Mo_215 K V) (G.2.2.2.2.2.2.2.2.2.2.1.2 _ (sm_Mo_215 K V)).1 1 (by rw [z_Mo_215_len]; decide) (by omega) rfl 21 (by decide) (by decide) q3085 rfl (fun _ => rfl) (fun _ => rfl) (Nat.le_of_ble_eq_true rfl) (Nat.le_of_ble_eq_true rfl) d_Mo_init_198 d_Mo_init_199 d_Mo_init_200 d_Mo_init_202 d_Mo_init_205 (fun r21 kq21 fs21 fb fz fn fh fk H locs hf hk21 hI v21 n21 hP hD hS => ?_)
  have hb : kq21 ≤ 36 := by omega
  have hz : ∀ j, 30 ≤ j → fs21[j]? = Zs[j]? := fun j hj => (n21 j (by omega) (by omega)).trans (hz j hj)
  have g6 := (n21 6 (by decide) (by decide)).trans g6
  have g8 := (n21 8 (by decide) (by decide)).trans g8
  refine mo_key (pc := 208) G hP hD hS hl hf hI (z_Mo_220 (K 220) (V 220)) (sm_Mo_220 K V) (G.2.2.2.2.2.2.2.2.2.2.1.2 _ (sm_Mo_220 K V)).1 1 (by rw [z_Mo_220_len]; decide) (by omega) rfl 22 (by decide) (by decide) q3086 rfl (fun _ => rfl) (fun _ => rfl) (Nat.le_of_ble_eq_true rfl) (Nat.le_of_ble_eq_true rfl) d_Mo_init_208 d_Mo_init_209 d_Mo_init_210 d_Mo_init_212 d_Mo_init_215 (fun r22 kq22 fs22 fb fz fn fh fk H locs hf hk22 hI v22 n22 hP hD hS => ?_)
  have hb : kq22 ≤ 37 := by omega
  have hz : ∀ j, 30 ≤ j → fs22[j]? = Zs[j]? := fun j hj => (n22 j (by omega) (by omega)).trans (hz j hj)
  have g6 := (n22 6 (by decide) (by decide)).trans g6
  have g8 := (n22 8 (by decide) (by decide)).trans g8
  refine mo_key (pc := 218) G hP hD hS hl hf hI (z_Mo_225 (K 225) (V 225)) (sm_Mo_225 K V) (G.2.2.2.2.2.2.2.2.2.2.1.2 _ (sm_Mo_225 K V)).1 1 (by rw [z_Mo_225_len]; decide) (by omega) rfl 23 (by decide) (by decide) q3087 rfl (fun _ => rfl) (fun _ => rfl) (Nat.le_of_ble_eq_true rfl) (Nat.le_of_ble_eq_true rfl) d_Mo_init_218 d_Mo_init_219 d_Mo_init_220 d_Mo_init_222 d_Mo_init_225 (fun r23 kq23 fs23 fb fz fn fh fk H locs hf hk23 hI v23 n23 hP hD hS => ?_)
  have hb : kq23 ≤ 38 := by omega
  have hz : ∀ j, 30 ≤ j → fs23[j]? = Zs[j]? := fun j hj => (n23 j (by omega) (by omega)).trans (hz j hj)
  have g6 := (n23 6 (by decide) (by decide)).trans g6
  have g8 := (n23 8 (by decide) (by decide)).trans g8
  refine mo_key (pc := 228) G hP hD hS hl hf hI (z_Mo_230 (K 230) (V 230)) (sm_Mo_230 K V) (G.2.2.2.2.2.2.2.2.2.2.1.2 _ (sm_Mo_230 K V)).1 1 (by rw [z_Mo_230_len]; decide) (by omega) rfl 24 (by decide) (by decide) q3088 rfl (fun _ => rfl) (fun _ => rfl) (Nat.le_of_ble_eq_true rfl) (Nat.le_of_ble_eq_true rfl) d_Mo_init_228 d_Mo_init_229 d_Mo_init_230 d_Mo_init_232 d_Mo_init_235 (fun r24 kq24 fs24 fb fz fn fh fk H locs hf hk24 hI v24 n24 hP hD hS => ?_)
  have hb : kq24 ≤ 39 := by omega
  have hz : ∀ j, 30 ≤ j → fs24[j]? = Zs[j]? := fun j hj => (n24 j (by omega) (by omega)).trans (hz j hj)
  have g6 := (n24 6 (by decide) (by decide)).trans g6
  have g8 := (n24 8 (by decide) (by decide)).trans g8
  refine mo_key (pc := 238) G hP hD hS hl hf hI (z_Mo_235 (K 235) (V 235)) (sm_Mo_235 K V) (G.2.2.2.2.2.2.2.2.2.2.1.2 _ (sm_Mo_235 K V)).1 1 (by rw [z_Mo_235_len]; decide) (by omega) rfl 25 (by decide) (by decide) q3089 rfl (fun _ => rfl) (fun _ => rfl) (Nat.le_of_ble_eq_true rfl) (Nat.le_of_ble_eq_true rfl) d_Mo_init_238 d_Mo_init_239 d_Mo_init_240 d_Mo_init_242 d_Mo_init_245 (fun r25 kq25 fs25 fb fz fn fh fk H locs hf hk25 hI v25 n25 hP hD hS => ?_)
  have hb : kq25 ≤ 40 := by omega
  have hz : ∀ j, 30 ≤ j → fs25[j]? = Zs[j]? := fun j hj => (n25 j (by omega) (by omega)).trans (hz j hj)
  have g6 := (n25 6 (by decide) (by decide)).trans g6
  have g8 := (n25 8 (by decide) (by decide)).trans g8
  refine mo_keys (pc := 248) G hP hD hS hl hf hI (z_Mo_240 (K 240) (V 240)) (sm_Mo_240 K V) (G.2.2.2.2.2.2.2.2.2.2.1.2 _ (sm_Mo_240 K V)).1 62 (z_Mo_240_cbl _ _) (by omega) (by rw [z_Mo_240_len]; decide) (z_Mo_240_rl _ _) 26 (by decide) (by decide) q3090 rfl (fun _ => rfl) (fun _ => rfl) (Nat.le_of_ble_eq_true rfl) (Nat.le_of_ble_eq_true rfl) d_Mo_init_248 d_Mo_init_249 d_Mo_init_250 d_Mo_init_252 d_Mo_init_255 (fun r26 kq26 fs26 fb fz fn fh fk H locs hf hk26 hI v26 n26 hP hD hS => ?_)
  have hb : kq26 ≤ 102 := by omega
  have hz : ∀ j, 30 ≤ j → fs26[j]? = Zs[j]? := fun j hj => (n26 j (by omega) (by omega)).trans (hz j hj)
  have g6 := (n26 6 (by decide) (by decide)).trans g6
  have g8 := (n26 8 (by decide) (by decide)).trans g8
  have g26 := v26
  refine lv_aload_n G.1 G.2.1 d_Mo_init_258 rfl (lv_at hl 0 rfl) ?_
  refine lv_aload_n G.1 G.2.1 d_Mo_init_259 rfl (lv_at hl 0 rfl) ?_
  refine kg (ci := 14) (v := .int r26) G iMo hP 0 rfl rfl 26 (by decide) q3090 rfl g26 d_Mo_init_260 ?_
  refine lv_iconst (v := nI 1) G.1 G.2.1 d_Mo_init_263 (by decide) ?_
  refine lv_iadd G.1 G.2.1 d_Mo_init_264 ?_
  refine mo_put (X := mk_w g q1 q2 q3 q4 q5 fb fz fn fh fk) G hP hD hS hf.1 27 (by decide) q3091 rfl rfl rfl d_Mo_init_265 (fun fs27 H locs l27 v27 n27 hP hD hS => ?_)
  have hz : ∀ j, 30 ≤ j → fs27[j]? = Zs[j]? := fun j hj => (n27 j (by omega)).trans (hz j hj)
  have g6 := (n27 6 (by decide)).trans g6
  have g8 := (n27 8 (by decide)).trans g8
  have g26 := (n27 26 (by decide)).trans g26
  refine lv_aload_n G.1 G.2.1 d_Mo_init_268 rfl (lv_at hl 0 rfl) ?_
  refine lv_aload_n G.1 G.2.1 d_Mo_init_269 rfl (lv_at hl 0 rfl) ?_
  refine kg (ci := 14) (v := .int r26) G iMo hP 0 rfl rfl 26 (by decide) q3090 rfl g26 d_Mo_init_270 ?_
  refine lv_iconst (v := nI 2) G.1 G.2.1 d_Mo_init_273 (by decide) ?_
  refine lv_iadd G.1 G.2.1 d_Mo_init_274 ?_
  refine mo_put (X := mk_w g q1 q2 q3 q4 q5 fb fz fn fh fk) G hP hD hS l27 28 (by decide) q3092 rfl rfl rfl d_Mo_init_275 (fun fs28 H locs l28 v28 n28 hP hD hS => ?_)
  have hz : ∀ j, 30 ≤ j → fs28[j]? = Zs[j]? := fun j hj => (n28 j (by omega)).trans (hz j hj)
  have g6 := (n28 6 (by decide)).trans g6
  have g8 := (n28 8 (by decide)).trans g8
  have g26 := (n28 26 (by decide)).trans g26
  refine lv_aload_n G.1 G.2.1 d_Mo_init_278 rfl (lv_at hl 0 rfl) ?_
  refine lv_aload_n G.1 G.2.1 d_Mo_init_279 rfl (lv_at hl 0 rfl) ?_
  refine kg (ci := 14) (v := .int r26) G iMo hP 0 rfl rfl 26 (by decide) q3090 rfl g26 d_Mo_init_280 ?_
  refine lv_bipush (v := nI 52) G.1 G.2.1 d_Mo_init_283 (by decide) ?_
  refine lv_iadd G.1 G.2.1 d_Mo_init_285 ?_
  refine mo_put (X := mk_w g q1 q2 q3 q4 q5 fb fz fn fh fk) G hP hD hS l28 29 (by decide) q3093 rfl rfl rfl d_Mo_init_286 (fun fs29 H locs l29 v29 n29 hP hD hS => ?_)
  have hz : ∀ j, 30 ≤ j → fs29[j]? = Zs[j]? := fun j hj => (n29 j (by omega)).trans (hz j hj)
  have g6 := (n29 6 (by decide)).trans g6
  have g8 := (n29 8 (by decide)).trans g8
  have g26 := (n29 26 (by decide)).trans g26
  exact kk fs29 r6 r8 H locs l29 g6 g8 hz (va_Pl (a := [_]) hP) (va_Dl (a := [_]) hD) hS
theorem q2626 : Cond.code y_Mo_signature b_Mo_signature 7 (some .int) ∈ lw_ok := lw_okmem (List.mem_of_getElem? (i := 2626) (by decide +kernel)) rfl
theorem q2625 : Cond.instanceMethod y_Mo_signature ∈ lw_ok := lw_okmem (List.mem_of_getElem? (i := 2625) (by decide +kernel)) rfl
theorem q172 : Cond.selects y_Mo_signature.cls y_Mo_signature y_Mo_signature ∈ lw_ok := lw_okmem (List.mem_of_getElem? (i := 172) (by decide +kernel)) rfl
theorem w_Mo_signature : CWv y_Mo_signature b_Mo_signature 7 (some .int) 3 ∧ Cond.instanceMethod y_Mo_signature ∈ lw_ok ∧ Cond.selects y_Mo_signature.cls y_Mo_signature y_Mo_signature ∈ lw_ok := ⟨⟨q2626, q348, by decide +kernel, by decide +kernel, by decide +kernel⟩, q2625, q172⟩
theorem q2623 : Cond.methodLink "ClassWorksModel" 254 y_Mo_signature ∈ lw_ok := lw_okmem (List.mem_of_getElem? (i := 2623) (by decide +kernel)) rfl
theorem q3102 : Cond.fieldLink "ClassWorksModel" 258 "ClassWorksModel" "plainSig" "I" ∈ lw_ok := lw_okmem (List.mem_of_getElem? (i := 3102) (by decide +kernel)) rfl
set_option maxHeartbeats 4000000 in
set_option maxRecDepth 100000 in
/-- the signatures -/
theorem mo_p2 {p : Program} {l : Launch} {e : Env} {s : State} {m : MethodId} {args : Array Value} {below : List Frame} {meth : Method} {c : Code} {H : Heap} {locs : List Loc} {Q : State → Prop} {ls : Array Slot} {A0 : Nat → Prop} {D : va_G} {g : Nat → ClassId} {sl : List SL} {h1 : Nat} {fs : List Value} {r6 r8 : Int32} (G : GV l p s m args meth c y_Mo_init b_Mo_init 3 none g D sl A0) (hP : va_P D CL [(h1, .inr (14, fs))] H) (hD : va_D A0 [(h1, .inr (14, fs))]) (hS : va_S A0 s.heap H locs) (hl : lv_has ls 3 [(0, .ref h1)]) (l0 : fs.length = 131) (g6 : fs[6]? = some (.int r6)) (g8 : fs[8]? = some (.int r8)) (hz : ∀ j, 30 ≤ j → fs[j]? = Zs[j]?)
    (kk : ∀ (fs : List Value) (r6 r8 r38 : Int32) (H1 : Heap) (locs1 : List Loc), fs.length = 131 → fs[6]? = some (.int r6) → fs[8]? = some (.int r8) → fs[38]? = some (.int r38) → (∀ j, 39 ≤ j → fs[j]? = Zs[j]?) → va_P D CL [(h1, .inr (14, fs))] H1 → va_D A0 [(h1, .inr (14, fs))] → va_S A0 s.heap H1 locs1 → W p l e rm_Mo_init s m args below meth c H1 locs1 12 14353 Q (F0 m 356 ls [])) : W p l e rm_Mo_init s m args below meth c H locs 5 11280 Q (F0 m 289 ls []) := by
  obtain ⟨fs0, hfs0⟩ : ∃ z : List Value, z = fs := ⟨_, rfl⟩
  rw [← hfs0] at hP hD l0 g6 g8 hz
  refine lv_aload_n G.1 G.2.1 d_Mo_init_289 rfl (lv_at hl 0 rfl) ?_
  refine lv_sipush (v := nI 256) G.1 G.2.1 d_Mo_init_290 (by decide) ?_
  refine mo_arrK (ty := .int) (nn := 256) (c1 := 6) (s1 := 11536) (a0 := (256, .inl (fun _ => nI 0))) G q404 rfl (fun _ h => h) 0 rfl hP hD hS (fun _ => rfl) (by omega) (Nat.le_of_ble_eq_true rfl) d_Mo_init_293 l0 30 (by decide) q3094 rfl (fun _ => rfl) (fun _ => rfl) d_Mo_init_295 (Nat.le_of_ble_eq_true rfl) (Nat.le_of_ble_eq_true rfl) (Nat.le_of_ble_eq_true rfl) (Nat.le_of_ble_eq_true rfl) (fun q1 fs1 H locs l1 v1 n1 hP hD hS => ?_)
  refine lv_aload_n G.1 G.2.1 d_Mo_init_298 rfl (lv_at hl 0 rfl) ?_
  refine lv_sipush (v := nI 256) G.1 G.2.1 d_Mo_init_299 (by decide) ?_
  refine mo_arrK (ty := .int) (nn := 256) (c1 := 7) (s1 := 11792) (a0 := (256, .inl (fun _ => nI 0))) G q404 rfl (fun _ h => h) 0 rfl hP hD hS (fun _ => rfl) (by omega) (Nat.le_of_ble_eq_true rfl) d_Mo_init_302 l1 31 (by decide) q3095 rfl (fun _ => rfl) (fun _ => rfl) d_Mo_init_304 (Nat.le_of_ble_eq_true rfl) (Nat.le_of_ble_eq_true rfl) (Nat.le_of_ble_eq_true rfl) (Nat.le_of_ble_eq_true rfl) (fun q2 fs2 H locs l2 v2 n2 hP hD hS => ?_)
  refine lv_aload_n G.1 G.2.1 d_Mo_init_307 rfl (lv_at hl 0 rfl) ?_
  refine lv_sipush (v := nI 256) G.1 G.2.1 d_Mo_init_308 (by decide) ?_
  refine mo_arrK (ty := .int) (nn := 256) (c1 := 8) (s1 := 12048) (a0 := (256, .inl (fun _ => nI 0))) G q404 rfl (fun _ h => h) 0 rfl hP hD hS (fun _ => rfl) (by omega) (Nat.le_of_ble_eq_true rfl) d_Mo_init_311 l2 32 (by decide) q3096 rfl (fun _ => rfl) (fun _ => rfl) d_Mo_init_313 (Nat.le_of_ble_eq_true rfl) (Nat.le_of_ble_eq_true rfl) (Nat.le_of_ble_eq_true rfl) (Nat.le_of_ble_eq_true rfl) (fun q3 fs3 H locs l3 v3 n3 hP hD hS => ?_)
  refine lv_aload_n G.1 G.2.1 d_Mo_init_316 rfl (lv_at hl 0 rfl) ?_
  refine lv_sipush (v := nI 256) G.1 G.2.1 d_Mo_init_317 (by decide) ?_
  refine mo_arrK (ty := .int) (nn := 256) (c1 := 9) (s1 := 12304) (a0 := (256, .inl (fun _ => nI 0))) G q404 rfl (fun _ h => h) 0 rfl hP hD hS (fun _ => rfl) (by omega) (Nat.le_of_ble_eq_true rfl) d_Mo_init_320 l3 33 (by decide) q3097 rfl (fun _ => rfl) (fun _ => rfl) d_Mo_init_322 (Nat.le_of_ble_eq_true rfl) (Nat.le_of_ble_eq_true rfl) (Nat.le_of_ble_eq_true rfl) (Nat.le_of_ble_eq_true rfl) (fun q4 fs4 H locs l4 v4 n4 hP hD hS => ?_)
  refine lv_aload_n G.1 G.2.1 d_Mo_init_325 rfl (lv_at hl 0 rfl) ?_
  refine lv_sipush (v := nI 1024) G.1 G.2.1 d_Mo_init_326 (by decide) ?_
  refine mo_arrK (ty := .int) (nn := 1024) (c1 := 10) (s1 := 13328) (a0 := (1024, .inl (fun _ => nI 0))) G q404 rfl (fun _ h => h) 0 rfl hP hD hS (fun _ => rfl) (by omega) (Nat.le_of_ble_eq_true rfl) d_Mo_init_329 l4 34 (by decide) q3098 rfl (fun _ => rfl) (fun _ => rfl) d_Mo_init_331 (Nat.le_of_ble_eq_true rfl) (Nat.le_of_ble_eq_true rfl) (Nat.le_of_ble_eq_true rfl) (Nat.le_of_ble_eq_true rfl) (fun q5 fs5 H locs l5 v5 n5 hP hD hS => ?_)
  refine lv_aload_n G.1 G.2.1 d_Mo_init_334 rfl (lv_at hl 0 rfl) ?_
  refine lv_sipush (v := nI 1024) G.1 G.2.1 d_Mo_init_335 (by decide) ?_
  refine mo_arrK (ty := .int) (nn := 1024) (c1 := 11) (s1 := 14352) (a0 := (1024, .inl (fun _ => nI 0))) G q404 rfl (fun _ h => h) 0 rfl hP hD hS (fun _ => rfl) (by omega) (Nat.le_of_ble_eq_true rfl) d_Mo_init_338 l5 35 (by decide) q3099 rfl (fun _ => rfl) (fun _ => rfl) d_Mo_init_340 (Nat.le_of_ble_eq_true rfl) (Nat.le_of_ble_eq_true rfl) (Nat.le_of_ble_eq_true rfl) (Nat.le_of_ble_eq_true rfl) (fun q6 fs6 H locs l6 v6 n6 hP hD hS => ?_)
  have g36 : fs6[36]? = some (.int (nI 0)) := (n6 36 (by decide)).trans ((n5 36 (by decide)).trans ((n4 36 (by decide)).trans ((n3 36 (by decide)).trans ((n2 36 (by decide)).trans ((n1 36 (by decide)).trans ((hz 36 (by decide)).trans rfl))))))
  have g37 : fs6[37]? = some (.int (nI 0)) := (n6 37 (by decide)).trans ((n5 37 (by decide)).trans ((n4 37 (by decide)).trans ((n3 37 (by decide)).trans ((n2 37 (by decide)).trans ((n1 37 (by decide)).trans ((hz 37 (by decide)).trans rfl))))))
  have g6 := (n6 6 (by decide)).trans ((n5 6 (by decide)).trans ((n4 6 (by decide)).trans ((n3 6 (by decide)).trans ((n2 6 (by decide)).trans ((n1 6 (by decide)).trans (g6))))))
  have g8 := (n6 8 (by decide)).trans ((n5 8 (by decide)).trans ((n4 8 (by decide)).trans ((n3 8 (by decide)).trans ((n2 8 (by decide)).trans ((n1 8 (by decide)).trans (g8))))))
  have hz : ∀ j, 36 ≤ j → fs6[j]? = Zs[j]? := fun j hj => (n6 j (by omega)).trans ((n5 j (by omega)).trans ((n4 j (by omega)).trans ((n3 j (by omega)).trans ((n2 j (by omega)).trans ((n1 j (by omega)).trans (hz j (by omega)))))))
  refine lv_aload_n G.1 G.2.1 d_Mo_init_343 rfl (lv_at hl 0 rfl) ?_
  refine lv_aload_n G.1 G.2.1 d_Mo_init_344 rfl (lv_at hl 0 rfl) ?_
  refine lv_iconst (v := nI 1) G.1 G.2.1 d_Mo_init_345 (by decide) ?_
  refine kNew (ty := .int) (N' := 1) (a0 := (1, .inl (fun _ => nI 0))) G q404 rfl (fun _ h => h) 0 rfl hP hD hS (fun _ => rfl) (nI_pos (by omega)) (nI_clamp (by omega)) (Nat.le_of_ble_eq_true rfl) (Nat.le_of_ble_eq_true rfl) (Nat.le_of_ble_eq_true rfl) d_Mo_init_346 (fun q7 H hP hD hS => ?_)
  refine W.widen (k := 12) (n := 14353) (by omega) (by omega) ?_
  refine lv_iconst (v := nI 0) G.1 G.2.1 d_Mo_init_348 (by decide) ?_
  refine lv_iconst (v := nI 0) G.1 G.2.1 d_Mo_init_349 (by decide) ?_
  refine kEi (wr := []) G (kV (As := [.ref q7, .int (nI 0), .int (nI 0)]) (rest := [.ref h1]) G hP hD hS [0, 6, 5, 4, 3, 2, 1, 7] rfl rfl (c_Mo_signature l D g h1 q7 fs6 q1 q2 q3 q4 q5 q6 (fun _ => nI 0) H.size l6 ((n6 30 (by decide)).trans ((n5 30 (by decide)).trans ((n4 30 (by decide)).trans ((n3 30 (by decide)).trans ((n2 30 (by decide)).trans (v1)))))) ((n6 31 (by decide)).trans ((n5 31 (by decide)).trans ((n4 31 (by decide)).trans ((n3 31 (by decide)).trans (v2))))) ((n6 32 (by decide)).trans ((n5 32 (by decide)).trans ((n4 32 (by decide)).trans (v3)))) ((n6 33 (by decide)).trans ((n5 33 (by decide)).trans (v4))) ((n6 34 (by decide)).trans (v5)) (v6) g36 g37) w_Mo_signature q2623 rfl rfl ⟨Nat.le_of_ble_eq_true rfl, Nat.le_of_ble_eq_true rfl⟩ (fun _ h => absurd h List.not_mem_nil) 0 (ci := 14) rfl rfl rfl hl.1 rfl (Nat.le_of_ble_eq_true rfl) rfl ⟨(Nat.le_of_ble_eq_true rfl), (Nat.le_of_ble_eq_true rfl)⟩ d_Mo_init_350) hP hD hS [0, 6, 5, 4, 3, 2, 1, 7] [] rfl rfl rfl rfl (fun r38 u H locs hw hP hD hS hzH => ?_)
  refine mo_put (fs := fs6.set 36 (.int (nI 1))) (X := []) G hP hD hS (llen_set l6) 38 (by decide) q3102 rfl rfl rfl d_Mo_init_353 (fun fs8 H locs l8 v8 n8 hP hD hS => ?_)
  exact kk fs8 r6 r8 r38 H locs l8 ((n8 6 (by decide)).trans (lset_ne (by decide) g6)) ((n8 8 (by decide)).trans (lset_ne (by decide) g8)) v8 (fun j hj => (n8 j (by omega)).trans ((List.getElem?_set_ne (by omega)).trans (hz j (by omega)))) hP hD hS
