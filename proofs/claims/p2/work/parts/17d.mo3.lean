theorem q3103 : Cond.fieldLink "ClassWorksModel" 92 "ClassWorksModel" "wordKinds" "[B" ∈ lw_ok := lw_okmem (List.mem_of_getElem? (i := 3103) (by decide +kernel)) rfl
theorem q3104 : Cond.fieldLink "ClassWorksModel" 98 "ClassWorksModel" "wordValues" "[I" ∈ lw_ok := lw_okmem (List.mem_of_getElem? (i := 3104) (by decide +kernel)) rfl
theorem q3105 : Cond.fieldLink "ClassWorksModel" 101 "ClassWorksModel" "wordPlaces" "[I" ∈ lw_ok := lw_okmem (List.mem_of_getElem? (i := 3105) (by decide +kernel)) rfl
theorem q2631 : Cond.classLink "ClassWorksModel" 261 "ClassWorksModel$World" ∈ lw_ok := lw_okmem (List.mem_of_getElem? (i := 2631) (by decide +kernel)) rfl
theorem q3108 : Cond.fieldLink "ClassWorksModel" 263 "ClassWorksModel" "worlds" "[LClassWorksModel$World;" ∈ lw_ok := lw_okmem (List.mem_of_getElem? (i := 3108) (by decide +kernel)) rfl
theorem q2633 : Cond.classLink "ClassWorksModel" 267 "java/lang/IllegalStateException" ∈ lw_ok := lw_okmem (List.mem_of_getElem? (i := 2633) (by decide +kernel)) rfl
theorem q352 : Cond.initialized "java/lang/IllegalStateException" ∈ lw_ok := lw_okmem (List.mem_of_getElem? (i := 352) (by decide +kernel)) rfl
theorem q3112 : Cond.fieldLink "ClassWorksModel" 274 "ClassWorksModel" "stop" "Ljava/lang/IllegalStateException;" ∈ lw_ok := lw_okmem (List.mem_of_getElem? (i := 3112) (by decide +kernel)) rfl
theorem q3119 : Cond.fieldLink "ClassWorksModel" 277 "ClassWorksModel" "typeRow" "[I" ∈ lw_ok := lw_okmem (List.mem_of_getElem? (i := 3119) (by decide +kernel)) rfl
theorem q3121 : Cond.fieldLink "ClassWorksModel" 280 "ClassWorksModel" "faceRow" "[I" ∈ lw_ok := lw_okmem (List.mem_of_getElem? (i := 3121) (by decide +kernel)) rfl
theorem q3122 : Cond.fieldLink "ClassWorksModel" 283 "ClassWorksModel" "labelNames" "[I" ∈ lw_ok := lw_okmem (List.mem_of_getElem? (i := 3122) (by decide +kernel)) rfl
theorem q3123 : Cond.fieldLink "ClassWorksModel" 286 "ClassWorksModel" "labelAts" "[I" ∈ lw_ok := lw_okmem (List.mem_of_getElem? (i := 3123) (by decide +kernel)) rfl
theorem q3125 : Cond.fieldLink "ClassWorksModel" 289 "ClassWorksModel" "nineNames" "[I" ∈ lw_ok := lw_okmem (List.mem_of_getElem? (i := 3125) (by decide +kernel)) rfl
theorem q3126 : Cond.fieldLink "ClassWorksModel" 292 "ClassWorksModel" "ninePlaces" "[I" ∈ lw_ok := lw_okmem (List.mem_of_getElem? (i := 3126) (by decide +kernel)) rfl
theorem q3127 : Cond.fieldLink "ClassWorksModel" 295 "ClassWorksModel" "nineMayEnd" "[Z" ∈ lw_ok := lw_okmem (List.mem_of_getElem? (i := 3127) (by decide +kernel)) rfl
theorem q3130 : Cond.fieldLink "ClassWorksModel" 299 "ClassWorksModel" "handlerPlaces" "[I" ∈ lw_ok := lw_okmem (List.mem_of_getElem? (i := 3130) (by decide +kernel)) rfl
theorem q3131 : Cond.fieldLink "ClassWorksModel" 302 "ClassWorksModel" "faceList" "[I" ∈ lw_ok := lw_okmem (List.mem_of_getElem? (i := 3131) (by decide +kernel)) rfl
theorem q3134 : Cond.fieldLink "ClassWorksModel" 305 "ClassWorksModel" "kinds" "[I" ∈ lw_ok := lw_okmem (List.mem_of_getElem? (i := 3134) (by decide +kernel)) rfl
theorem q3135 : Cond.fieldLink "ClassWorksModel" 308 "ClassWorksModel" "pile" "[I" ∈ lw_ok := lw_okmem (List.mem_of_getElem? (i := 3135) (by decide +kernel)) rfl
theorem q3142 : Cond.fieldLink "ClassWorksModel" 311 "ClassWorksModel" "wants" "[I" ∈ lw_ok := lw_okmem (List.mem_of_getElem? (i := 3142) (by decide +kernel)) rfl
theorem q3148 : Cond.fieldLink "ClassWorksModel" 314 "ClassWorksModel" "tape" "[B" ∈ lw_ok := lw_okmem (List.mem_of_getElem? (i := 3148) (by decide +kernel)) rfl
theorem q3150 : Cond.fieldLink "ClassWorksModel" 317 "ClassWorksModel" "refusedPlace" "I" ∈ lw_ok := lw_okmem (List.mem_of_getElem? (i := 3150) (by decide +kernel)) rfl
theorem q3151 : Cond.fieldLink "ClassWorksModel" 320 "ClassWorksModel" "callRow" "[I" ∈ lw_ok := lw_okmem (List.mem_of_getElem? (i := 3151) (by decide +kernel)) rfl
theorem q3158 : Cond.fieldLink "ClassWorksModel" 323 "ClassWorksModel" "page" "[B" ∈ lw_ok := lw_okmem (List.mem_of_getElem? (i := 3158) (by decide +kernel)) rfl
theorem q3160 : Cond.fieldLink "ClassWorksModel" 326 "ClassWorksModel" "isTold" "[Z" ∈ lw_ok := lw_okmem (List.mem_of_getElem? (i := 3160) (by decide +kernel)) rfl
theorem q3161 : Cond.fieldLink "ClassWorksModel" 329 "ClassWorksModel" "toldKnown" "[Z" ∈ lw_ok := lw_okmem (List.mem_of_getElem? (i := 3161) (by decide +kernel)) rfl
theorem q3162 : Cond.fieldLink "ClassWorksModel" 332 "ClassWorksModel" "toldHeights" "[I" ∈ lw_ok := lw_okmem (List.mem_of_getElem? (i := 3162) (by decide +kernel)) rfl
theorem q3163 : Cond.fieldLink "ClassWorksModel" 335 "ClassWorksModel" "toldLocals" "[I" ∈ lw_ok := lw_okmem (List.mem_of_getElem? (i := 3163) (by decide +kernel)) rfl
theorem q3164 : Cond.fieldLink "ClassWorksModel" 338 "ClassWorksModel" "toldPiles" "[I" ∈ lw_ok := lw_okmem (List.mem_of_getElem? (i := 3164) (by decide +kernel)) rfl
theorem q3168 : Cond.fieldLink "ClassWorksModel" 341 "ClassWorksModel" "oneKind" "[I" ∈ lw_ok := lw_okmem (List.mem_of_getElem? (i := 3168) (by decide +kernel)) rfl
theorem q3169 : Cond.fieldLink "ClassWorksModel" 344 "ClassWorksModel" "joinedLocals" "[I" ∈ lw_ok := lw_okmem (List.mem_of_getElem? (i := 3169) (by decide +kernel)) rfl
theorem q3170 : Cond.fieldLink "ClassWorksModel" 347 "ClassWorksModel" "joinedPile" "[I" ∈ lw_ok := lw_okmem (List.mem_of_getElem? (i := 3170) (by decide +kernel)) rfl
theorem q3171 : Cond.fieldLink "ClassWorksModel" 350 "ClassWorksModel" "reachedMethods" "[I" ∈ lw_ok := lw_okmem (List.mem_of_getElem? (i := 3171) (by decide +kernel)) rfl
theorem q3172 : Cond.fieldLink "ClassWorksModel" 353 "ClassWorksModel" "reachedSeen" "[Z" ∈ lw_ok := lw_okmem (List.mem_of_getElem? (i := 3172) (by decide +kernel)) rfl
theorem q3174 : Cond.fieldLink "ClassWorksModel" 356 "ClassWorksModel" "marks" "[Z" ∈ lw_ok := lw_okmem (List.mem_of_getElem? (i := 3174) (by decide +kernel)) rfl
theorem q3175 : Cond.fieldLink "ClassWorksModel" 359 "ClassWorksModel" "markPile" "[I" ∈ lw_ok := lw_okmem (List.mem_of_getElem? (i := 3175) (by decide +kernel)) rfl
theorem q3177 : Cond.fieldLink "ClassWorksModel" 362 "ClassWorksModel" "otherCells" "[I" ∈ lw_ok := lw_okmem (List.mem_of_getElem? (i := 3177) (by decide +kernel)) rfl
theorem q3178 : Cond.fieldLink "ClassWorksModel" 365 "ClassWorksModel" "onePage" "[B" ∈ lw_ok := lw_okmem (List.mem_of_getElem? (i := 3178) (by decide +kernel)) rfl
theorem q3179 : Cond.fieldLink "ClassWorksModel" 368 "ClassWorksModel" "twoPage" "[B" ∈ lw_ok := lw_okmem (List.mem_of_getElem? (i := 3179) (by decide +kernel)) rfl
theorem q2698 : Cond.constant "ClassWorksModel" 371 (48160) ∈ lw_ok := lw_okmem (List.mem_of_getElem? (i := 2698) (by decide +kernel)) rfl
theorem q3180 : Cond.fieldLink "ClassWorksModel" 372 "ClassWorksModel" "stock" "[B" ∈ lw_ok := lw_okmem (List.mem_of_getElem? (i := 3180) (by decide +kernel)) rfl
theorem q3181 : Cond.fieldLink "ClassWorksModel" 375 "ClassWorksModel" "trialSizes" "[I" ∈ lw_ok := lw_okmem (List.mem_of_getElem? (i := 3181) (by decide +kernel)) rfl
theorem q3182 : Cond.fieldLink "ClassWorksModel" 378 "ClassWorksModel" "trialLooked" "[Z" ∈ lw_ok := lw_okmem (List.mem_of_getElem? (i := 3182) (by decide +kernel)) rfl
theorem q3183 : Cond.fieldLink "ClassWorksModel" 381 "ClassWorksModel" "trialMet" "[I" ∈ lw_ok := lw_okmem (List.mem_of_getElem? (i := 3183) (by decide +kernel)) rfl
theorem q3184 : Cond.fieldLink "ClassWorksModel" 384 "ClassWorksModel" "trialFound" "[I" ∈ lw_ok := lw_okmem (List.mem_of_getElem? (i := 3184) (by decide +kernel)) rfl
theorem q3186 : Cond.fieldLink "ClassWorksModel" 387 "ClassWorksModel" "draft" "[B" ∈ lw_ok := lw_okmem (List.mem_of_getElem? (i := 3186) (by decide +kernel)) rfl
theorem q3190 : Cond.fieldLink "ClassWorksModel" 390 "ClassWorksModel" "fewestSo" "[I" ∈ lw_ok := lw_okmem (List.mem_of_getElem? (i := 3190) (by decide +kernel)) rfl
theorem q3191 : Cond.fieldLink "ClassWorksModel" 393 "ClassWorksModel" "fewestNone" "[I" ∈ lw_ok := lw_okmem (List.mem_of_getElem? (i := 3191) (by decide +kernel)) rfl
theorem q3192 : Cond.fieldLink "ClassWorksModel" 396 "ClassWorksModel" "fewestOne" "[I" ∈ lw_ok := lw_okmem (List.mem_of_getElem? (i := 3192) (by decide +kernel)) rfl
theorem q3193 : Cond.fieldLink "ClassWorksModel" 399 "ClassWorksModel" "fewestNext" "[I" ∈ lw_ok := lw_okmem (List.mem_of_getElem? (i := 3193) (by decide +kernel)) rfl
theorem q3194 : Cond.fieldLink "ClassWorksModel" 402 "ClassWorksModel" "lineFroms" "[I" ∈ lw_ok := lw_okmem (List.mem_of_getElem? (i := 3194) (by decide +kernel)) rfl
/-- what is known of the fields behind the constructor -/
def mo_F (fs : List Value) (r6 r8 r38 : Int32) (q39 q40 q41 q44 q48 q84 q126 q127 q128 : Nat) : Prop := fs.length = 131 ∧ fs[6]? = some (.int r6) ∧ fs[8]? = some (.int r8) ∧ fs[38]? = some (.int r38) ∧ fs[39]? = some (.ref q39) ∧ fs[40]? = some (.ref q40) ∧ fs[41]? = some (.ref q41) ∧ fs[42]? = some (.int (nI 0)) ∧ fs[43]? = some (.int (nI 0)) ∧ fs[44]? = some (.ref q44) ∧ fs[48]? = some (.ref q48) ∧ fs[84]? = some (.ref q84) ∧ fs[85]? = some (.int (nI 0)) ∧ fs[86]? = some (.int (-2)) ∧ fs[93]? = some (.int (nI 0)) ∧ fs[95]? = some (.int (nI 0)) ∧ fs[101]? = some (.int (nI 0)) ∧ fs[109]? = some (.int (nI 0)) ∧ fs[121]? = some (.int (nI 0)) ∧ fs[123]? = some (.int (nI 0)) ∧ fs[126]? = some (.ref q126) ∧ fs[127]? = some (.ref q127) ∧ fs[128]? = some (.ref q128)
abbrev mo_W3 (g : Nat → ClassId) (h1 : Nat) (fs : List Value) (q39 q40 q41 q44 q48 q84 q126 q127 q128 : Nat) : va_W := [(h1, .inr (14, fs)), (q128, .inl (g 0, 256, .inl (fun _ => nI 0))), (q127, .inl (g 0, 256, .inl (fun _ => nI 0))), (q126, .inl (g 0, 256, .inl (fun _ => nI 0))), (q84, .inl (g 1, 6000, .inl (fun _ => nI 0))), (q48, .inr (15, [])), (q44, .inl (g 6, 4, .inr (.inr (.inr (.inr (fun _ => none)))))), (q41, .inl (g 0, 6002, .inl (fun _ => nI 0))), (q40, .inl (g 0, 6002, .inl (fun _ => nI 0))), (q39, .inl (g 1, 6002, .inl (fun _ => nI 0)))]
set_option maxHeartbeats 4000000 in
set_option maxRecDepth 100000 in
/-- the rows -/
theorem mo_p3 {p : Program} {l : Launch} {e : Env} {s : State} {m : MethodId} {args : Array Value} {below : List Frame} {meth : Method} {c : Code} {H : Heap} {locs : List Loc} {Q : State → Prop} {ls : Array Slot} {A0 : Nat → Prop} {D : va_G} {g : Nat → ClassId} {h1 : Nat} {fs : List Value} {r6 r8 r38 : Int32} (K V : Nat → Nat) (hst : l.stackTraces = false) (G : GV l p s m args meth c y_Mo_init b_Mo_init 3 none g D (sl_Mo K V) A0) (hP : va_P D CL [(h1, .inr (14, fs))] H) (hD : va_D A0 [(h1, .inr (14, fs))]) (hS : va_S A0 s.heap H locs) (hl : lv_has ls 3 [(0, .ref h1)]) (l0 : fs.length = 131) (g6 : fs[6]? = some (.int r6)) (g8 : fs[8]? = some (.int r8)) (g38 : fs[38]? = some (.int r38)) (hz : ∀ j, 39 ≤ j → fs[j]? = Zs[j]?)
    (kk : ∀ (fs : List Value) (r6 r8 r38 : Int32) (q39 q40 q41 q44 q48 q84 q126 q127 q128 : Nat) (H1 : Heap) (locs1 : List Loc), mo_F fs r6 r8 r38 q39 q40 q41 q44 q48 q84 q126 q127 q128 → va_P D CL (mo_W3 g h1 fs q39 q40 q41 q44 q48 q84 q126 q127 q128) H1 → va_D A0 (mo_W3 g h1 fs q39 q40 q41 q44 q48 q84 q126 q127 q128) → va_S A0 s.heap H1 locs1 → W p l e rm_Mo_init s m args below meth c H1 locs1 58 103198 Q (F0 m 755 ls [])) : W p l e rm_Mo_init s m args below meth c H locs 12 14353 Q (F0 m 356 ls []) := by
  obtain ⟨fs0, hfs0⟩ : ∃ z : List Value, z = fs := ⟨_, rfl⟩
  rw [← hfs0] at hP hD l0 g6 g8 g38 hz
  refine W.eq (g2 := F0 m 356 ls []) rfl ?_
  refine lv_aload_n G.1 G.2.1 d_Mo_init_356 rfl (lv_at hl 0 rfl) ?_
  refine lv_sipush (v := nI 6002) G.1 G.2.1 d_Mo_init_357 (by decide) ?_
  refine mo_arrK (ty := .byte) (nn := 6002) (c1 := 13) (s1 := 20355) (a0 := (6002, .inl (fun _ => nI 0))) G q403 rfl (fun _ h => h) 1 rfl hP hD hS (fun _ => rfl) (by omega) (Nat.le_of_ble_eq_true rfl) d_Mo_init_360 l0 39 (by decide) q3103 rfl (fun _ => rfl) (fun _ => rfl) d_Mo_init_362 (Nat.le_of_ble_eq_true rfl) (Nat.le_of_ble_eq_true rfl) (Nat.le_of_ble_eq_true rfl) (Nat.le_of_ble_eq_true rfl) (fun q1 fs1 H locs l1 v1 n1 hP hD hS => ?_)
  have g6 := (n1 6 (by decide)).trans g6
  have g8 := (n1 8 (by decide)).trans g8
  have g38 := (n1 38 (by decide)).trans g38
  have g39 := v1
  have hz : ∀ j, 40 ≤ j → fs1[j]? = Zs[j]? := fun j hj => (n1 j (by omega)).trans (hz j (by omega))
  refine W.eq (g2 := F0 m 365 ls []) rfl ?_
  refine lv_aload_n G.1 G.2.1 d_Mo_init_365 rfl (lv_at hl 0 rfl) ?_
  refine lv_sipush (v := nI 6002) G.1 G.2.1 d_Mo_init_366 (by decide) ?_
  refine mo_arrK (ty := .int) (nn := 6002) (c1 := 14) (s1 := 26357) (a0 := (6002, .inl (fun _ => nI 0))) G q404 rfl (fun _ h => h) 0 rfl hP hD hS (fun _ => rfl) (by omega) (Nat.le_of_ble_eq_true rfl) d_Mo_init_369 l1 40 (by decide) q3104 rfl (fun _ => rfl) (fun _ => rfl) d_Mo_init_371 (Nat.le_of_ble_eq_true rfl) (Nat.le_of_ble_eq_true rfl) (Nat.le_of_ble_eq_true rfl) (Nat.le_of_ble_eq_true rfl) (fun q2 fs2 H locs l2 v2 n2 hP hD hS => ?_)
  have g6 := (n2 6 (by decide)).trans g6
  have g8 := (n2 8 (by decide)).trans g8
  have g38 := (n2 38 (by decide)).trans g38
  have g39 := (n2 39 (by decide)).trans g39
  have g40 := v2
  have hz : ∀ j, 41 ≤ j → fs2[j]? = Zs[j]? := fun j hj => (n2 j (by omega)).trans (hz j (by omega))
  refine W.eq (g2 := F0 m 374 ls []) rfl ?_
  refine lv_aload_n G.1 G.2.1 d_Mo_init_374 rfl (lv_at hl 0 rfl) ?_
  refine lv_sipush (v := nI 6002) G.1 G.2.1 d_Mo_init_375 (by decide) ?_
  refine mo_arrK (ty := .int) (nn := 6002) (c1 := 15) (s1 := 32359) (a0 := (6002, .inl (fun _ => nI 0))) G q404 rfl (fun _ h => h) 0 rfl hP hD hS (fun _ => rfl) (by omega) (Nat.le_of_ble_eq_true rfl) d_Mo_init_378 l2 41 (by decide) q3105 rfl (fun _ => rfl) (fun _ => rfl) d_Mo_init_380 (Nat.le_of_ble_eq_true rfl) (Nat.le_of_ble_eq_true rfl) (Nat.le_of_ble_eq_true rfl) (Nat.le_of_ble_eq_true rfl) (fun q3 fs3 H locs l3 v3 n3 hP hD hS => ?_)
  have g6 := (n3 6 (by decide)).trans g6
  have g8 := (n3 8 (by decide)).trans g8
  have g38 := (n3 38 (by decide)).trans g38
  have g39 := (n3 39 (by decide)).trans g39
  have g40 := (n3 40 (by decide)).trans g40
  have g41 := v3
  have hz : ∀ j, 42 ≤ j → fs3[j]? = Zs[j]? := fun j hj => (n3 j (by omega)).trans (hz j (by omega))
  refine W.eq (g2 := F0 m 383 ls []) rfl ?_
  refine lv_aload_n G.1 G.2.1 d_Mo_init_383 rfl (lv_at hl 0 rfl) ?_
  refine lv_iconst (v := nI 4) G.1 G.2.1 d_Mo_init_384 (by decide) ?_
  refine kNewq (N' := 4) G q2631 (by simp [lw_over]) 6 rfl hP hD hS (nI_pos (by omega)) (nI_clamp (by omega)) (Nat.le_of_ble_eq_true rfl) (Nat.le_of_ble_eq_true rfl) (Nat.le_of_ble_eq_true rfl) d_Mo_init_385 (fun q4 H hP hD hS => ?_)
  refine W.widen (k := 16) (n := 32363) (by omega) (by omega) ?_
  refine mo_put G (va_P1 hP) (va_D1 hD) hS l3 44 (by decide) q3108 rfl rfl rfl d_Mo_init_388 (fun fs4 H locs l4 v4 n4 hP hD hS => ?_)
  have g6 := (n4 6 (by decide)).trans g6
  have g8 := (n4 8 (by decide)).trans g8
  have g38 := (n4 38 (by decide)).trans g38
  have g39 := (n4 39 (by decide)).trans g39
  have g40 := (n4 40 (by decide)).trans g40
  have g41 := (n4 41 (by decide)).trans g41
  have g44 := v4
  have g42 : fs4[42]? = some (.int (nI 0)) := (n4 42 (by decide)).trans ((hz 42 (by decide)).trans rfl)
  have g43 : fs4[43]? = some (.int (nI 0)) := (n4 43 (by decide)).trans ((hz 43 (by decide)).trans rfl)
  have hz : ∀ j, 45 ≤ j → fs4[j]? = Zs[j]? := fun j hj => (n4 j (by omega)).trans (hz j (by omega))
  refine W.eq (g2 := F0 m 391 ls []) rfl ?_
  refine lv_aload_n G.1 G.2.1 d_Mo_init_391 rfl (lv_at hl 0 rfl) ?_
  refine vx_makeSW (own := "ClassWorksModel") (cls := "java/lang/IllegalStateException") (names := vx_names9) (ik := 267) (is := 269) (ic := 271) (ci := 15) (T0 := TIse) G.1 G.2.1 hst G.2.2.2.2.2.2.1 (by decide +kernel) (by decide +kernel) (G.2.2.2.2.2.1 _ q2633) (G.2.2.2.2.2.1 _ q352) (G.2.2.2.2.2.2.2.2.2.2.1.2 _ (sm_Mo_269 K V)).1 (vx_at9 G.2.2.2.2.2.1 G.2.2.2.2.2.2.2.2.2.1) vx_good9 G.2.2.2.2.2.2.2.2.2.2.1.sc.2.2.1 G.2.2.2.2.2.2.2.2.2.2.1.sc.2.2.2 hS (hl.1.trans G.2.2.1.symm) d_Mo_init_392 d_Mo_init_395 d_Mo_init_396 d_Mo_init_399 G.2.2.2.2.2.2.2.2.1 hP hD G.2.2.2.2.2.2.2.2.2.2.2 rfl (Nat.le_of_ble_eq_true rfl) (Nat.le_of_ble_eq_true rfl) (Nat.le_of_ble_eq_true rfl) (Nat.le_of_ble_eq_true rfl) (fun q5 H hP hD hS => ?_)
  refine W.widen (k := 17) (n := 32369) (by omega) (by omega) ?_
  refine mo_put G (va_P1 hP) (va_D1 hD) hS l4 48 (by decide) q3112 rfl rfl rfl d_Mo_init_402 (fun fs5 H locs l5 v5 n5 hP hD hS => ?_)
  have g6 := (n5 6 (by decide)).trans g6
  have g8 := (n5 8 (by decide)).trans g8
  have g38 := (n5 38 (by decide)).trans g38
  have g39 := (n5 39 (by decide)).trans g39
  have g40 := (n5 40 (by decide)).trans g40
  have g41 := (n5 41 (by decide)).trans g41
  have g44 := (n5 44 (by decide)).trans g44
  have g42 := (n5 42 (by decide)).trans g42
  have g43 := (n5 43 (by decide)).trans g43
  have g48 := v5
  have hz : ∀ j, 49 ≤ j → fs5[j]? = Zs[j]? := fun j hj => (n5 j (by omega)).trans (hz j (by omega))
  refine W.eq (g2 := F0 m 405 ls []) rfl ?_
  refine lv_aload_n G.1 G.2.1 d_Mo_init_405 rfl (lv_at hl 0 rfl) ?_
  refine lv_bipush (v := nI 64) G.1 G.2.1 d_Mo_init_406 (by decide) ?_
  refine mo_arrD (ty := .int) (nn := 64) (c1 := 18) (s1 := 32433) (a0 := (64, .inl (fun _ => nI 0))) G q404 rfl (fun _ h => h) 0 rfl hP hD hS (fun _ => rfl) (by omega) (Nat.le_of_ble_eq_true rfl) d_Mo_init_408 l5 55 (by decide) q3119 rfl (fun _ => rfl) (fun _ => rfl) d_Mo_init_410 (Nat.le_of_ble_eq_true rfl) (Nat.le_of_ble_eq_true rfl) (Nat.le_of_ble_eq_true rfl) (Nat.le_of_ble_eq_true rfl) (fun q6 fs6 H locs l6 v6 n6 hP hD hS => ?_)
  have g6 := (n6 6 (by decide)).trans g6
  have g8 := (n6 8 (by decide)).trans g8
  have g38 := (n6 38 (by decide)).trans g38
  have g39 := (n6 39 (by decide)).trans g39
  have g40 := (n6 40 (by decide)).trans g40
  have g41 := (n6 41 (by decide)).trans g41
  have g44 := (n6 44 (by decide)).trans g44
  have g42 := (n6 42 (by decide)).trans g42
  have g43 := (n6 43 (by decide)).trans g43
  have g48 := (n6 48 (by decide)).trans g48
  have hz : ∀ j, 56 ≤ j → fs6[j]? = Zs[j]? := fun j hj => (n6 j (by omega)).trans (hz j (by omega))
  refine W.eq (g2 := F0 m 413 ls []) rfl ?_
  refine lv_aload_n G.1 G.2.1 d_Mo_init_413 rfl (lv_at hl 0 rfl) ?_
  refine lv_bipush (v := nI 16) G.1 G.2.1 d_Mo_init_414 (by decide) ?_
  refine mo_arrD (ty := .int) (nn := 16) (c1 := 19) (s1 := 32449) (a0 := (16, .inl (fun _ => nI 0))) G q404 rfl (fun _ h => h) 0 rfl hP hD hS (fun _ => rfl) (by omega) (Nat.le_of_ble_eq_true rfl) d_Mo_init_416 l6 57 (by decide) q3121 rfl (fun _ => rfl) (fun _ => rfl) d_Mo_init_418 (Nat.le_of_ble_eq_true rfl) (Nat.le_of_ble_eq_true rfl) (Nat.le_of_ble_eq_true rfl) (Nat.le_of_ble_eq_true rfl) (fun q7 fs7 H locs l7 v7 n7 hP hD hS => ?_)
  have g6 := (n7 6 (by decide)).trans g6
  have g8 := (n7 8 (by decide)).trans g8
  have g38 := (n7 38 (by decide)).trans g38
  have g39 := (n7 39 (by decide)).trans g39
  have g40 := (n7 40 (by decide)).trans g40
  have g41 := (n7 41 (by decide)).trans g41
  have g44 := (n7 44 (by decide)).trans g44
  have g42 := (n7 42 (by decide)).trans g42
  have g43 := (n7 43 (by decide)).trans g43
  have g48 := (n7 48 (by decide)).trans g48
  have hz : ∀ j, 58 ≤ j → fs7[j]? = Zs[j]? := fun j hj => (n7 j (by omega)).trans (hz j (by omega))
  refine W.eq (g2 := F0 m 421 ls []) rfl ?_
  refine lv_aload_n G.1 G.2.1 d_Mo_init_421 rfl (lv_at hl 0 rfl) ?_
  refine lv_bipush (v := nI 64) G.1 G.2.1 d_Mo_init_422 (by decide) ?_
  refine mo_arrD (ty := .int) (nn := 64) (c1 := 20) (s1 := 32513) (a0 := (64, .inl (fun _ => nI 0))) G q404 rfl (fun _ h => h) 0 rfl hP hD hS (fun _ => rfl) (by omega) (Nat.le_of_ble_eq_true rfl) d_Mo_init_424 l7 58 (by decide) q3122 rfl (fun _ => rfl) (fun _ => rfl) d_Mo_init_426 (Nat.le_of_ble_eq_true rfl) (Nat.le_of_ble_eq_true rfl) (Nat.le_of_ble_eq_true rfl) (Nat.le_of_ble_eq_true rfl) (fun q8 fs8 H locs l8 v8 n8 hP hD hS => ?_)
  have g6 := (n8 6 (by decide)).trans g6
  have g8 := (n8 8 (by decide)).trans g8
  have g38 := (n8 38 (by decide)).trans g38
  have g39 := (n8 39 (by decide)).trans g39
  have g40 := (n8 40 (by decide)).trans g40
  have g41 := (n8 41 (by decide)).trans g41
  have g44 := (n8 44 (by decide)).trans g44
  have g42 := (n8 42 (by decide)).trans g42
  have g43 := (n8 43 (by decide)).trans g43
  have g48 := (n8 48 (by decide)).trans g48
  have hz : ∀ j, 59 ≤ j → fs8[j]? = Zs[j]? := fun j hj => (n8 j (by omega)).trans (hz j (by omega))
  refine W.eq (g2 := F0 m 429 ls []) rfl ?_
  refine lv_aload_n G.1 G.2.1 d_Mo_init_429 rfl (lv_at hl 0 rfl) ?_
  refine lv_bipush (v := nI 64) G.1 G.2.1 d_Mo_init_430 (by decide) ?_
  refine mo_arrD (ty := .int) (nn := 64) (c1 := 21) (s1 := 32577) (a0 := (64, .inl (fun _ => nI 0))) G q404 rfl (fun _ h => h) 0 rfl hP hD hS (fun _ => rfl) (by omega) (Nat.le_of_ble_eq_true rfl) d_Mo_init_432 l8 59 (by decide) q3123 rfl (fun _ => rfl) (fun _ => rfl) d_Mo_init_434 (Nat.le_of_ble_eq_true rfl) (Nat.le_of_ble_eq_true rfl) (Nat.le_of_ble_eq_true rfl) (Nat.le_of_ble_eq_true rfl) (fun q9 fs9 H locs l9 v9 n9 hP hD hS => ?_)
  have g6 := (n9 6 (by decide)).trans g6
  have g8 := (n9 8 (by decide)).trans g8
  have g38 := (n9 38 (by decide)).trans g38
  have g39 := (n9 39 (by decide)).trans g39
  have g40 := (n9 40 (by decide)).trans g40
  have g41 := (n9 41 (by decide)).trans g41
  have g44 := (n9 44 (by decide)).trans g44
  have g42 := (n9 42 (by decide)).trans g42
  have g43 := (n9 43 (by decide)).trans g43
  have g48 := (n9 48 (by decide)).trans g48
  have hz : ∀ j, 60 ≤ j → fs9[j]? = Zs[j]? := fun j hj => (n9 j (by omega)).trans (hz j (by omega))
  refine W.eq (g2 := F0 m 437 ls []) rfl ?_
  refine lv_aload_n G.1 G.2.1 d_Mo_init_437 rfl (lv_at hl 0 rfl) ?_
  refine lv_bipush (v := nI 64) G.1 G.2.1 d_Mo_init_438 (by decide) ?_
  refine mo_arrD (ty := .int) (nn := 64) (c1 := 22) (s1 := 32641) (a0 := (64, .inl (fun _ => nI 0))) G q404 rfl (fun _ h => h) 0 rfl hP hD hS (fun _ => rfl) (by omega) (Nat.le_of_ble_eq_true rfl) d_Mo_init_440 l9 61 (by decide) q3125 rfl (fun _ => rfl) (fun _ => rfl) d_Mo_init_442 (Nat.le_of_ble_eq_true rfl) (Nat.le_of_ble_eq_true rfl) (Nat.le_of_ble_eq_true rfl) (Nat.le_of_ble_eq_true rfl) (fun q10 fs10 H locs l10 v10 n10 hP hD hS => ?_)
  have g6 := (n10 6 (by decide)).trans g6
  have g8 := (n10 8 (by decide)).trans g8
  have g38 := (n10 38 (by decide)).trans g38
  have g39 := (n10 39 (by decide)).trans g39
  have g40 := (n10 40 (by decide)).trans g40
  have g41 := (n10 41 (by decide)).trans g41
  have g44 := (n10 44 (by decide)).trans g44
  have g42 := (n10 42 (by decide)).trans g42
  have g43 := (n10 43 (by decide)).trans g43
  have g48 := (n10 48 (by decide)).trans g48
  have hz : ∀ j, 62 ≤ j → fs10[j]? = Zs[j]? := fun j hj => (n10 j (by omega)).trans (hz j (by omega))
  refine W.eq (g2 := F0 m 445 ls []) rfl ?_
  refine lv_aload_n G.1 G.2.1 d_Mo_init_445 rfl (lv_at hl 0 rfl) ?_
  refine lv_bipush (v := nI 64) G.1 G.2.1 d_Mo_init_446 (by decide) ?_
  refine mo_arrD (ty := .int) (nn := 64) (c1 := 23) (s1 := 32705) (a0 := (64, .inl (fun _ => nI 0))) G q404 rfl (fun _ h => h) 0 rfl hP hD hS (fun _ => rfl) (by omega) (Nat.le_of_ble_eq_true rfl) d_Mo_init_448 l10 62 (by decide) q3126 rfl (fun _ => rfl) (fun _ => rfl) d_Mo_init_450 (Nat.le_of_ble_eq_true rfl) (Nat.le_of_ble_eq_true rfl) (Nat.le_of_ble_eq_true rfl) (Nat.le_of_ble_eq_true rfl) (fun q11 fs11 H locs l11 v11 n11 hP hD hS => ?_)
  have g6 := (n11 6 (by decide)).trans g6
  have g8 := (n11 8 (by decide)).trans g8
  have g38 := (n11 38 (by decide)).trans g38
  have g39 := (n11 39 (by decide)).trans g39
  have g40 := (n11 40 (by decide)).trans g40
  have g41 := (n11 41 (by decide)).trans g41
  have g44 := (n11 44 (by decide)).trans g44
  have g42 := (n11 42 (by decide)).trans g42
  have g43 := (n11 43 (by decide)).trans g43
  have g48 := (n11 48 (by decide)).trans g48
  have hz : ∀ j, 63 ≤ j → fs11[j]? = Zs[j]? := fun j hj => (n11 j (by omega)).trans (hz j (by omega))
  refine W.eq (g2 := F0 m 453 ls []) rfl ?_
  refine lv_aload_n G.1 G.2.1 d_Mo_init_453 rfl (lv_at hl 0 rfl) ?_
  refine lv_bipush (v := nI 64) G.1 G.2.1 d_Mo_init_454 (by decide) ?_
  refine mo_arrD (ty := .boolean) (nn := 64) (c1 := 24) (s1 := 32769) (a0 := (64, .inl (fun _ => nI 0))) G q2980 rfl (fun _ h => h) 3 rfl hP hD hS (fun _ => rfl) (by omega) (Nat.le_of_ble_eq_true rfl) d_Mo_init_456 l11 63 (by decide) q3127 rfl (fun _ => rfl) (fun _ => rfl) d_Mo_init_458 (Nat.le_of_ble_eq_true rfl) (Nat.le_of_ble_eq_true rfl) (Nat.le_of_ble_eq_true rfl) (Nat.le_of_ble_eq_true rfl) (fun q12 fs12 H locs l12 v12 n12 hP hD hS => ?_)
  have g6 := (n12 6 (by decide)).trans g6
  have g8 := (n12 8 (by decide)).trans g8
  have g38 := (n12 38 (by decide)).trans g38
  have g39 := (n12 39 (by decide)).trans g39
  have g40 := (n12 40 (by decide)).trans g40
  have g41 := (n12 41 (by decide)).trans g41
  have g44 := (n12 44 (by decide)).trans g44
  have g42 := (n12 42 (by decide)).trans g42
  have g43 := (n12 43 (by decide)).trans g43
  have g48 := (n12 48 (by decide)).trans g48
  have hz : ∀ j, 64 ≤ j → fs12[j]? = Zs[j]? := fun j hj => (n12 j (by omega)).trans (hz j (by omega))
  refine W.eq (g2 := F0 m 461 ls []) rfl ?_
  refine lv_aload_n G.1 G.2.1 d_Mo_init_461 rfl (lv_at hl 0 rfl) ?_
  refine lv_bipush (v := nI 8) G.1 G.2.1 d_Mo_init_462 (by decide) ?_
  refine mo_arrD (ty := .int) (nn := 8) (c1 := 25) (s1 := 32777) (a0 := (8, .inl (fun _ => nI 0))) G q404 rfl (fun _ h => h) 0 rfl hP hD hS (fun _ => rfl) (by omega) (Nat.le_of_ble_eq_true rfl) d_Mo_init_464 l12 66 (by decide) q3130 rfl (fun _ => rfl) (fun _ => rfl) d_Mo_init_466 (Nat.le_of_ble_eq_true rfl) (Nat.le_of_ble_eq_true rfl) (Nat.le_of_ble_eq_true rfl) (Nat.le_of_ble_eq_true rfl) (fun q13 fs13 H locs l13 v13 n13 hP hD hS => ?_)
  have g6 := (n13 6 (by decide)).trans g6
  have g8 := (n13 8 (by decide)).trans g8
  have g38 := (n13 38 (by decide)).trans g38
  have g39 := (n13 39 (by decide)).trans g39
  have g40 := (n13 40 (by decide)).trans g40
  have g41 := (n13 41 (by decide)).trans g41
  have g44 := (n13 44 (by decide)).trans g44
  have g42 := (n13 42 (by decide)).trans g42
  have g43 := (n13 43 (by decide)).trans g43
  have g48 := (n13 48 (by decide)).trans g48
  have hz : ∀ j, 67 ≤ j → fs13[j]? = Zs[j]? := fun j hj => (n13 j (by omega)).trans (hz j (by omega))
  refine W.eq (g2 := F0 m 469 ls []) rfl ?_
  refine lv_aload_n G.1 G.2.1 d_Mo_init_469 rfl (lv_at hl 0 rfl) ?_
  refine lv_bipush (v := nI 51) G.1 G.2.1 d_Mo_init_470 (by decide) ?_
  refine mo_arrD (ty := .int) (nn := 51) (c1 := 26) (s1 := 32828) (a0 := (51, .inl (fun _ => nI 0))) G q404 rfl (fun _ h => h) 0 rfl hP hD hS (fun _ => rfl) (by omega) (Nat.le_of_ble_eq_true rfl) d_Mo_init_472 l13 67 (by decide) q3131 rfl (fun _ => rfl) (fun _ => rfl) d_Mo_init_474 (Nat.le_of_ble_eq_true rfl) (Nat.le_of_ble_eq_true rfl) (Nat.le_of_ble_eq_true rfl) (Nat.le_of_ble_eq_true rfl) (fun q14 fs14 H locs l14 v14 n14 hP hD hS => ?_)
  have g6 := (n14 6 (by decide)).trans g6
  have g8 := (n14 8 (by decide)).trans g8
  have g38 := (n14 38 (by decide)).trans g38
  have g39 := (n14 39 (by decide)).trans g39
  have g40 := (n14 40 (by decide)).trans g40
  have g41 := (n14 41 (by decide)).trans g41
  have g44 := (n14 44 (by decide)).trans g44
  have g42 := (n14 42 (by decide)).trans g42
  have g43 := (n14 43 (by decide)).trans g43
  have g48 := (n14 48 (by decide)).trans g48
  have hz : ∀ j, 68 ≤ j → fs14[j]? = Zs[j]? := fun j hj => (n14 j (by omega)).trans (hz j (by omega))
  refine W.eq (g2 := F0 m 477 ls []) rfl ?_
  refine lv_aload_n G.1 G.2.1 d_Mo_init_477 rfl (lv_at hl 0 rfl) ?_
  refine lv_bipush (v := nI 20) G.1 G.2.1 d_Mo_init_478 (by decide) ?_
  refine mo_arrD (ty := .int) (nn := 20) (c1 := 27) (s1 := 32848) (a0 := (20, .inl (fun _ => nI 0))) G q404 rfl (fun _ h => h) 0 rfl hP hD hS (fun _ => rfl) (by omega) (Nat.le_of_ble_eq_true rfl) d_Mo_init_480 l14 70 (by decide) q3134 rfl (fun _ => rfl) (fun _ => rfl) d_Mo_init_482 (Nat.le_of_ble_eq_true rfl) (Nat.le_of_ble_eq_true rfl) (Nat.le_of_ble_eq_true rfl) (Nat.le_of_ble_eq_true rfl) (fun q15 fs15 H locs l15 v15 n15 hP hD hS => ?_)
  have g6 := (n15 6 (by decide)).trans g6
  have g8 := (n15 8 (by decide)).trans g8
  have g38 := (n15 38 (by decide)).trans g38
  have g39 := (n15 39 (by decide)).trans g39
  have g40 := (n15 40 (by decide)).trans g40
  have g41 := (n15 41 (by decide)).trans g41
  have g44 := (n15 44 (by decide)).trans g44
  have g42 := (n15 42 (by decide)).trans g42
  have g43 := (n15 43 (by decide)).trans g43
  have g48 := (n15 48 (by decide)).trans g48
  have hz : ∀ j, 71 ≤ j → fs15[j]? = Zs[j]? := fun j hj => (n15 j (by omega)).trans (hz j (by omega))
  refine W.eq (g2 := F0 m 485 ls []) rfl ?_
  refine lv_aload_n G.1 G.2.1 d_Mo_init_485 rfl (lv_at hl 0 rfl) ?_
  refine lv_bipush (v := nI 28) G.1 G.2.1 d_Mo_init_486 (by decide) ?_
  refine mo_arrD (ty := .int) (nn := 28) (c1 := 28) (s1 := 32876) (a0 := (28, .inl (fun _ => nI 0))) G q404 rfl (fun _ h => h) 0 rfl hP hD hS (fun _ => rfl) (by omega) (Nat.le_of_ble_eq_true rfl) d_Mo_init_488 l15 71 (by decide) q3135 rfl (fun _ => rfl) (fun _ => rfl) d_Mo_init_490 (Nat.le_of_ble_eq_true rfl) (Nat.le_of_ble_eq_true rfl) (Nat.le_of_ble_eq_true rfl) (Nat.le_of_ble_eq_true rfl) (fun q16 fs16 H locs l16 v16 n16 hP hD hS => ?_)
  have g6 := (n16 6 (by decide)).trans g6
  have g8 := (n16 8 (by decide)).trans g8
  have g38 := (n16 38 (by decide)).trans g38
  have g39 := (n16 39 (by decide)).trans g39
  have g40 := (n16 40 (by decide)).trans g40
  have g41 := (n16 41 (by decide)).trans g41
  have g44 := (n16 44 (by decide)).trans g44
  have g42 := (n16 42 (by decide)).trans g42
  have g43 := (n16 43 (by decide)).trans g43
  have g48 := (n16 48 (by decide)).trans g48
  have hz : ∀ j, 72 ≤ j → fs16[j]? = Zs[j]? := fun j hj => (n16 j (by omega)).trans (hz j (by omega))
  refine W.eq (g2 := F0 m 493 ls []) rfl ?_
  refine lv_aload_n G.1 G.2.1 d_Mo_init_493 rfl (lv_at hl 0 rfl) ?_
  refine lv_bipush (v := nI 10) G.1 G.2.1 d_Mo_init_494 (by decide) ?_
  refine mo_arrD (ty := .int) (nn := 10) (c1 := 29) (s1 := 32886) (a0 := (10, .inl (fun _ => nI 0))) G q404 rfl (fun _ h => h) 0 rfl hP hD hS (fun _ => rfl) (by omega) (Nat.le_of_ble_eq_true rfl) d_Mo_init_496 l16 78 (by decide) q3142 rfl (fun _ => rfl) (fun _ => rfl) d_Mo_init_498 (Nat.le_of_ble_eq_true rfl) (Nat.le_of_ble_eq_true rfl) (Nat.le_of_ble_eq_true rfl) (Nat.le_of_ble_eq_true rfl) (fun q17 fs17 H locs l17 v17 n17 hP hD hS => ?_)
  have g6 := (n17 6 (by decide)).trans g6
  have g8 := (n17 8 (by decide)).trans g8
  have g38 := (n17 38 (by decide)).trans g38
  have g39 := (n17 39 (by decide)).trans g39
  have g40 := (n17 40 (by decide)).trans g40
  have g41 := (n17 41 (by decide)).trans g41
  have g44 := (n17 44 (by decide)).trans g44
  have g42 := (n17 42 (by decide)).trans g42
  have g43 := (n17 43 (by decide)).trans g43
  have g48 := (n17 48 (by decide)).trans g48
  have hz : ∀ j, 79 ≤ j → fs17[j]? = Zs[j]? := fun j hj => (n17 j (by omega)).trans (hz j (by omega))
  refine W.eq (g2 := F0 m 501 ls []) rfl ?_
  refine lv_aload_n G.1 G.2.1 d_Mo_init_501 rfl (lv_at hl 0 rfl) ?_
  refine lv_sipush (v := nI 6000) G.1 G.2.1 d_Mo_init_502 (by decide) ?_
  refine mo_arrK (ty := .byte) (nn := 6000) (c1 := 30) (s1 := 38886) (a0 := (6000, .inl (fun _ => nI 0))) G q403 rfl (fun _ h => h) 1 rfl hP hD hS (fun _ => rfl) (by omega) (Nat.le_of_ble_eq_true rfl) d_Mo_init_505 l17 84 (by decide) q3148 rfl (fun _ => rfl) (fun _ => rfl) d_Mo_init_507 (Nat.le_of_ble_eq_true rfl) (Nat.le_of_ble_eq_true rfl) (Nat.le_of_ble_eq_true rfl) (Nat.le_of_ble_eq_true rfl) (fun q18 fs18 H locs l18 v18 n18 hP hD hS => ?_)
  have g6 := (n18 6 (by decide)).trans g6
  have g8 := (n18 8 (by decide)).trans g8
  have g38 := (n18 38 (by decide)).trans g38
  have g39 := (n18 39 (by decide)).trans g39
  have g40 := (n18 40 (by decide)).trans g40
  have g41 := (n18 41 (by decide)).trans g41
  have g44 := (n18 44 (by decide)).trans g44
  have g42 := (n18 42 (by decide)).trans g42
  have g43 := (n18 43 (by decide)).trans g43
  have g48 := (n18 48 (by decide)).trans g48
  have g84 := v18
  have hz : ∀ j, 85 ≤ j → fs18[j]? = Zs[j]? := fun j hj => (n18 j (by omega)).trans (hz j (by omega))
  refine W.eq (g2 := F0 m 510 ls []) rfl ?_
  refine lv_aload_n G.1 G.2.1 d_Mo_init_510 rfl (lv_at hl 0 rfl) ?_
  refine lv_bipush (v := (-2)) G.1 G.2.1 d_Mo_init_511 (by decide) ?_
  refine mo_put G hP hD hS l18 86 (by decide) q3150 rfl rfl rfl d_Mo_init_513 (fun fs19 H locs l19 v19 n19 hP hD hS => ?_)
  have g6 := (n19 6 (by decide)).trans g6
  have g8 := (n19 8 (by decide)).trans g8
  have g38 := (n19 38 (by decide)).trans g38
  have g39 := (n19 39 (by decide)).trans g39
  have g40 := (n19 40 (by decide)).trans g40
  have g41 := (n19 41 (by decide)).trans g41
  have g44 := (n19 44 (by decide)).trans g44
  have g42 := (n19 42 (by decide)).trans g42
  have g43 := (n19 43 (by decide)).trans g43
  have g48 := (n19 48 (by decide)).trans g48
  have g84 := (n19 84 (by decide)).trans g84
  have g86 := v19
  have g85 : fs19[85]? = some (.int (nI 0)) := (n19 85 (by decide)).trans ((hz 85 (by decide)).trans rfl)
  have hz : ∀ j, 87 ≤ j → fs19[j]? = Zs[j]? := fun j hj => (n19 j (by omega)).trans (hz j (by omega))
  refine W.eq (g2 := F0 m 516 ls []) rfl ?_
  refine lv_aload_n G.1 G.2.1 d_Mo_init_516 rfl (lv_at hl 0 rfl) ?_
  refine lv_bipush (v := nI 6) G.1 G.2.1 d_Mo_init_517 (by decide) ?_
  refine mo_arrD (ty := .int) (nn := 6) (c1 := 31) (s1 := 38892) (a0 := (6, .inl (fun _ => nI 0))) G q404 rfl (fun _ h => h) 0 rfl hP hD hS (fun _ => rfl) (by omega) (Nat.le_of_ble_eq_true rfl) d_Mo_init_519 l19 87 (by decide) q3151 rfl (fun _ => rfl) (fun _ => rfl) d_Mo_init_521 (Nat.le_of_ble_eq_true rfl) (Nat.le_of_ble_eq_true rfl) (Nat.le_of_ble_eq_true rfl) (Nat.le_of_ble_eq_true rfl) (fun q20 fs20 H locs l20 v20 n20 hP hD hS => ?_)
  have g6 := (n20 6 (by decide)).trans g6
  have g8 := (n20 8 (by decide)).trans g8
  have g38 := (n20 38 (by decide)).trans g38
  have g39 := (n20 39 (by decide)).trans g39
  have g40 := (n20 40 (by decide)).trans g40
  have g41 := (n20 41 (by decide)).trans g41
  have g44 := (n20 44 (by decide)).trans g44
  have g42 := (n20 42 (by decide)).trans g42
  have g43 := (n20 43 (by decide)).trans g43
  have g48 := (n20 48 (by decide)).trans g48
  have g84 := (n20 84 (by decide)).trans g84
  have g86 := (n20 86 (by decide)).trans g86
  have g85 := (n20 85 (by decide)).trans g85
  have hz : ∀ j, 88 ≤ j → fs20[j]? = Zs[j]? := fun j hj => (n20 j (by omega)).trans (hz j (by omega))
  refine W.eq (g2 := F0 m 524 ls []) rfl ?_
  refine lv_aload_n G.1 G.2.1 d_Mo_init_524 rfl (lv_at hl 0 rfl) ?_
  refine lv_sipush (v := nI 1024) G.1 G.2.1 d_Mo_init_525 (by decide) ?_
  refine mo_arrD (ty := .byte) (nn := 1024) (c1 := 32) (s1 := 39916) (a0 := (1024, .inl (fun _ => nI 0))) G q403 rfl (fun _ h => h) 1 rfl hP hD hS (fun _ => rfl) (by omega) (Nat.le_of_ble_eq_true rfl) d_Mo_init_528 l20 94 (by decide) q3158 rfl (fun _ => rfl) (fun _ => rfl) d_Mo_init_530 (Nat.le_of_ble_eq_true rfl) (Nat.le_of_ble_eq_true rfl) (Nat.le_of_ble_eq_true rfl) (Nat.le_of_ble_eq_true rfl) (fun q21 fs21 H locs l21 v21 n21 hP hD hS => ?_)
  have g6 := (n21 6 (by decide)).trans g6
  have g8 := (n21 8 (by decide)).trans g8
  have g38 := (n21 38 (by decide)).trans g38
  have g39 := (n21 39 (by decide)).trans g39
  have g40 := (n21 40 (by decide)).trans g40
  have g41 := (n21 41 (by decide)).trans g41
  have g44 := (n21 44 (by decide)).trans g44
  have g42 := (n21 42 (by decide)).trans g42
  have g43 := (n21 43 (by decide)).trans g43
  have g48 := (n21 48 (by decide)).trans g48
  have g84 := (n21 84 (by decide)).trans g84
  have g86 := (n21 86 (by decide)).trans g86
  have g85 := (n21 85 (by decide)).trans g85
  have g93 : fs21[93]? = some (.int (nI 0)) := (n21 93 (by decide)).trans ((hz 93 (by decide)).trans rfl)
  have hz : ∀ j, 95 ≤ j → fs21[j]? = Zs[j]? := fun j hj => (n21 j (by omega)).trans (hz j (by omega))
  refine W.eq (g2 := F0 m 533 ls []) rfl ?_
  refine lv_aload_n G.1 G.2.1 d_Mo_init_533 rfl (lv_at hl 0 rfl) ?_
  refine lv_bipush (v := nI 81) G.1 G.2.1 d_Mo_init_534 (by decide) ?_
  refine mo_arrD (ty := .boolean) (nn := 81) (c1 := 33) (s1 := 39997) (a0 := (81, .inl (fun _ => nI 0))) G q2980 rfl (fun _ h => h) 3 rfl hP hD hS (fun _ => rfl) (by omega) (Nat.le_of_ble_eq_true rfl) d_Mo_init_536 l21 96 (by decide) q3160 rfl (fun _ => rfl) (fun _ => rfl) d_Mo_init_538 (Nat.le_of_ble_eq_true rfl) (Nat.le_of_ble_eq_true rfl) (Nat.le_of_ble_eq_true rfl) (Nat.le_of_ble_eq_true rfl) (fun q22 fs22 H locs l22 v22 n22 hP hD hS => ?_)
  have g6 := (n22 6 (by decide)).trans g6
  have g8 := (n22 8 (by decide)).trans g8
  have g38 := (n22 38 (by decide)).trans g38
  have g39 := (n22 39 (by decide)).trans g39
  have g40 := (n22 40 (by decide)).trans g40
  have g41 := (n22 41 (by decide)).trans g41
  have g44 := (n22 44 (by decide)).trans g44
  have g42 := (n22 42 (by decide)).trans g42
  have g43 := (n22 43 (by decide)).trans g43
  have g48 := (n22 48 (by decide)).trans g48
  have g84 := (n22 84 (by decide)).trans g84
  have g86 := (n22 86 (by decide)).trans g86
  have g85 := (n22 85 (by decide)).trans g85
  have g93 := (n22 93 (by decide)).trans g93
  have g95 : fs22[95]? = some (.int (nI 0)) := (n22 95 (by decide)).trans ((hz 95 (by decide)).trans rfl)
  have hz : ∀ j, 97 ≤ j → fs22[j]? = Zs[j]? := fun j hj => (n22 j (by omega)).trans (hz j (by omega))
  refine W.eq (g2 := F0 m 541 ls []) rfl ?_
  refine lv_aload_n G.1 G.2.1 d_Mo_init_541 rfl (lv_at hl 0 rfl) ?_
  refine lv_bipush (v := nI 80) G.1 G.2.1 d_Mo_init_542 (by decide) ?_
  refine mo_arrD (ty := .boolean) (nn := 80) (c1 := 34) (s1 := 40077) (a0 := (80, .inl (fun _ => nI 0))) G q2980 rfl (fun _ h => h) 3 rfl hP hD hS (fun _ => rfl) (by omega) (Nat.le_of_ble_eq_true rfl) d_Mo_init_544 l22 97 (by decide) q3161 rfl (fun _ => rfl) (fun _ => rfl) d_Mo_init_546 (Nat.le_of_ble_eq_true rfl) (Nat.le_of_ble_eq_true rfl) (Nat.le_of_ble_eq_true rfl) (Nat.le_of_ble_eq_true rfl) (fun q23 fs23 H locs l23 v23 n23 hP hD hS => ?_)
  have g6 := (n23 6 (by decide)).trans g6
  have g8 := (n23 8 (by decide)).trans g8
  have g38 := (n23 38 (by decide)).trans g38
  have g39 := (n23 39 (by decide)).trans g39
  have g40 := (n23 40 (by decide)).trans g40
  have g41 := (n23 41 (by decide)).trans g41
  have g44 := (n23 44 (by decide)).trans g44
  have g42 := (n23 42 (by decide)).trans g42
  have g43 := (n23 43 (by decide)).trans g43
  have g48 := (n23 48 (by decide)).trans g48
  have g84 := (n23 84 (by decide)).trans g84
  have g86 := (n23 86 (by decide)).trans g86
  have g85 := (n23 85 (by decide)).trans g85
  have g93 := (n23 93 (by decide)).trans g93
  have g95 := (n23 95 (by decide)).trans g95
  have hz : ∀ j, 98 ≤ j → fs23[j]? = Zs[j]? := fun j hj => (n23 j (by omega)).trans (hz j (by omega))
  refine W.eq (g2 := F0 m 549 ls []) rfl ?_
  refine lv_aload_n G.1 G.2.1 d_Mo_init_549 rfl (lv_at hl 0 rfl) ?_
  refine lv_bipush (v := nI 80) G.1 G.2.1 d_Mo_init_550 (by decide) ?_
  refine mo_arrD (ty := .int) (nn := 80) (c1 := 35) (s1 := 40157) (a0 := (80, .inl (fun _ => nI 0))) G q404 rfl (fun _ h => h) 0 rfl hP hD hS (fun _ => rfl) (by omega) (Nat.le_of_ble_eq_true rfl) d_Mo_init_552 l23 98 (by decide) q3162 rfl (fun _ => rfl) (fun _ => rfl) d_Mo_init_554 (Nat.le_of_ble_eq_true rfl) (Nat.le_of_ble_eq_true rfl) (Nat.le_of_ble_eq_true rfl) (Nat.le_of_ble_eq_true rfl) (fun q24 fs24 H locs l24 v24 n24 hP hD hS => ?_)
  have g6 := (n24 6 (by decide)).trans g6
  have g8 := (n24 8 (by decide)).trans g8
  have g38 := (n24 38 (by decide)).trans g38
  have g39 := (n24 39 (by decide)).trans g39
  have g40 := (n24 40 (by decide)).trans g40
  have g41 := (n24 41 (by decide)).trans g41
  have g44 := (n24 44 (by decide)).trans g44
  have g42 := (n24 42 (by decide)).trans g42
  have g43 := (n24 43 (by decide)).trans g43
  have g48 := (n24 48 (by decide)).trans g48
  have g84 := (n24 84 (by decide)).trans g84
  have g86 := (n24 86 (by decide)).trans g86
  have g85 := (n24 85 (by decide)).trans g85
  have g93 := (n24 93 (by decide)).trans g93
  have g95 := (n24 95 (by decide)).trans g95
  have hz : ∀ j, 99 ≤ j → fs24[j]? = Zs[j]? := fun j hj => (n24 j (by omega)).trans (hz j (by omega))
  refine W.eq (g2 := F0 m 557 ls []) rfl ?_
  refine lv_aload_n G.1 G.2.1 d_Mo_init_557 rfl (lv_at hl 0 rfl) ?_
  refine lv_sipush (v := nI 1600) G.1 G.2.1 d_Mo_init_558 (by decide) ?_
  refine mo_arrD (ty := .int) (nn := 1600) (c1 := 36) (s1 := 41757) (a0 := (1600, .inl (fun _ => nI 0))) G q404 rfl (fun _ h => h) 0 rfl hP hD hS (fun _ => rfl) (by omega) (Nat.le_of_ble_eq_true rfl) d_Mo_init_561 l24 99 (by decide) q3163 rfl (fun _ => rfl) (fun _ => rfl) d_Mo_init_563 (Nat.le_of_ble_eq_true rfl) (Nat.le_of_ble_eq_true rfl) (Nat.le_of_ble_eq_true rfl) (Nat.le_of_ble_eq_true rfl) (fun q25 fs25 H locs l25 v25 n25 hP hD hS => ?_)
  have g6 := (n25 6 (by decide)).trans g6
  have g8 := (n25 8 (by decide)).trans g8
  have g38 := (n25 38 (by decide)).trans g38
  have g39 := (n25 39 (by decide)).trans g39
  have g40 := (n25 40 (by decide)).trans g40
  have g41 := (n25 41 (by decide)).trans g41
  have g44 := (n25 44 (by decide)).trans g44
  have g42 := (n25 42 (by decide)).trans g42
  have g43 := (n25 43 (by decide)).trans g43
  have g48 := (n25 48 (by decide)).trans g48
  have g84 := (n25 84 (by decide)).trans g84
  have g86 := (n25 86 (by decide)).trans g86
  have g85 := (n25 85 (by decide)).trans g85
  have g93 := (n25 93 (by decide)).trans g93
  have g95 := (n25 95 (by decide)).trans g95
  have hz : ∀ j, 100 ≤ j → fs25[j]? = Zs[j]? := fun j hj => (n25 j (by omega)).trans (hz j (by omega))
  refine W.eq (g2 := F0 m 566 ls []) rfl ?_
  refine lv_aload_n G.1 G.2.1 d_Mo_init_566 rfl (lv_at hl 0 rfl) ?_
  refine lv_sipush (v := nI 2240) G.1 G.2.1 d_Mo_init_567 (by decide) ?_
  refine mo_arrD (ty := .int) (nn := 2240) (c1 := 37) (s1 := 43997) (a0 := (2240, .inl (fun _ => nI 0))) G q404 rfl (fun _ h => h) 0 rfl hP hD hS (fun _ => rfl) (by omega) (Nat.le_of_ble_eq_true rfl) d_Mo_init_570 l25 100 (by decide) q3164 rfl (fun _ => rfl) (fun _ => rfl) d_Mo_init_572 (Nat.le_of_ble_eq_true rfl) (Nat.le_of_ble_eq_true rfl) (Nat.le_of_ble_eq_true rfl) (Nat.le_of_ble_eq_true rfl) (fun q26 fs26 H locs l26 v26 n26 hP hD hS => ?_)
  have g6 := (n26 6 (by decide)).trans g6
  have g8 := (n26 8 (by decide)).trans g8
  have g38 := (n26 38 (by decide)).trans g38
  have g39 := (n26 39 (by decide)).trans g39
  have g40 := (n26 40 (by decide)).trans g40
  have g41 := (n26 41 (by decide)).trans g41
  have g44 := (n26 44 (by decide)).trans g44
  have g42 := (n26 42 (by decide)).trans g42
  have g43 := (n26 43 (by decide)).trans g43
  have g48 := (n26 48 (by decide)).trans g48
  have g84 := (n26 84 (by decide)).trans g84
  have g86 := (n26 86 (by decide)).trans g86
  have g85 := (n26 85 (by decide)).trans g85
  have g93 := (n26 93 (by decide)).trans g93
  have g95 := (n26 95 (by decide)).trans g95
  have hz : ∀ j, 101 ≤ j → fs26[j]? = Zs[j]? := fun j hj => (n26 j (by omega)).trans (hz j (by omega))
  refine W.eq (g2 := F0 m 575 ls []) rfl ?_
  refine lv_aload_n G.1 G.2.1 d_Mo_init_575 rfl (lv_at hl 0 rfl) ?_
  refine lv_iconst (v := nI 1) G.1 G.2.1 d_Mo_init_576 (by decide) ?_
  refine mo_arrD (ty := .int) (nn := 1) (c1 := 38) (s1 := 43998) (a0 := (1, .inl (fun _ => nI 0))) G q404 rfl (fun _ h => h) 0 rfl hP hD hS (fun _ => rfl) (by omega) (Nat.le_of_ble_eq_true rfl) d_Mo_init_577 l26 104 (by decide) q3168 rfl (fun _ => rfl) (fun _ => rfl) d_Mo_init_579 (Nat.le_of_ble_eq_true rfl) (Nat.le_of_ble_eq_true rfl) (Nat.le_of_ble_eq_true rfl) (Nat.le_of_ble_eq_true rfl) (fun q27 fs27 H locs l27 v27 n27 hP hD hS => ?_)
  have g6 := (n27 6 (by decide)).trans g6
  have g8 := (n27 8 (by decide)).trans g8
  have g38 := (n27 38 (by decide)).trans g38
  have g39 := (n27 39 (by decide)).trans g39
  have g40 := (n27 40 (by decide)).trans g40
  have g41 := (n27 41 (by decide)).trans g41
  have g44 := (n27 44 (by decide)).trans g44
  have g42 := (n27 42 (by decide)).trans g42
  have g43 := (n27 43 (by decide)).trans g43
  have g48 := (n27 48 (by decide)).trans g48
  have g84 := (n27 84 (by decide)).trans g84
  have g86 := (n27 86 (by decide)).trans g86
  have g85 := (n27 85 (by decide)).trans g85
  have g93 := (n27 93 (by decide)).trans g93
  have g95 := (n27 95 (by decide)).trans g95
  have g101 : fs27[101]? = some (.int (nI 0)) := (n27 101 (by decide)).trans ((hz 101 (by decide)).trans rfl)
  have hz : ∀ j, 105 ≤ j → fs27[j]? = Zs[j]? := fun j hj => (n27 j (by omega)).trans (hz j (by omega))
  refine W.eq (g2 := F0 m 582 ls []) rfl ?_
  refine lv_aload_n G.1 G.2.1 d_Mo_init_582 rfl (lv_at hl 0 rfl) ?_
  refine lv_bipush (v := nI 20) G.1 G.2.1 d_Mo_init_583 (by decide) ?_
  refine mo_arrD (ty := .int) (nn := 20) (c1 := 39) (s1 := 44018) (a0 := (20, .inl (fun _ => nI 0))) G q404 rfl (fun _ h => h) 0 rfl hP hD hS (fun _ => rfl) (by omega) (Nat.le_of_ble_eq_true rfl) d_Mo_init_585 l27 105 (by decide) q3169 rfl (fun _ => rfl) (fun _ => rfl) d_Mo_init_587 (Nat.le_of_ble_eq_true rfl) (Nat.le_of_ble_eq_true rfl) (Nat.le_of_ble_eq_true rfl) (Nat.le_of_ble_eq_true rfl) (fun q28 fs28 H locs l28 v28 n28 hP hD hS => ?_)
  have g6 := (n28 6 (by decide)).trans g6
  have g8 := (n28 8 (by decide)).trans g8
  have g38 := (n28 38 (by decide)).trans g38
  have g39 := (n28 39 (by decide)).trans g39
  have g40 := (n28 40 (by decide)).trans g40
  have g41 := (n28 41 (by decide)).trans g41
  have g44 := (n28 44 (by decide)).trans g44
  have g42 := (n28 42 (by decide)).trans g42
  have g43 := (n28 43 (by decide)).trans g43
  have g48 := (n28 48 (by decide)).trans g48
  have g84 := (n28 84 (by decide)).trans g84
  have g86 := (n28 86 (by decide)).trans g86
  have g85 := (n28 85 (by decide)).trans g85
  have g93 := (n28 93 (by decide)).trans g93
  have g95 := (n28 95 (by decide)).trans g95
  have g101 := (n28 101 (by decide)).trans g101
  have hz : ∀ j, 106 ≤ j → fs28[j]? = Zs[j]? := fun j hj => (n28 j (by omega)).trans (hz j (by omega))
  refine W.eq (g2 := F0 m 590 ls []) rfl ?_
  refine lv_aload_n G.1 G.2.1 d_Mo_init_590 rfl (lv_at hl 0 rfl) ?_
  refine lv_bipush (v := nI 28) G.1 G.2.1 d_Mo_init_591 (by decide) ?_
  refine mo_arrD (ty := .int) (nn := 28) (c1 := 40) (s1 := 44046) (a0 := (28, .inl (fun _ => nI 0))) G q404 rfl (fun _ h => h) 0 rfl hP hD hS (fun _ => rfl) (by omega) (Nat.le_of_ble_eq_true rfl) d_Mo_init_593 l28 106 (by decide) q3170 rfl (fun _ => rfl) (fun _ => rfl) d_Mo_init_595 (Nat.le_of_ble_eq_true rfl) (Nat.le_of_ble_eq_true rfl) (Nat.le_of_ble_eq_true rfl) (Nat.le_of_ble_eq_true rfl) (fun q29 fs29 H locs l29 v29 n29 hP hD hS => ?_)
  have g6 := (n29 6 (by decide)).trans g6
  have g8 := (n29 8 (by decide)).trans g8
  have g38 := (n29 38 (by decide)).trans g38
  have g39 := (n29 39 (by decide)).trans g39
  have g40 := (n29 40 (by decide)).trans g40
  have g41 := (n29 41 (by decide)).trans g41
  have g44 := (n29 44 (by decide)).trans g44
  have g42 := (n29 42 (by decide)).trans g42
  have g43 := (n29 43 (by decide)).trans g43
  have g48 := (n29 48 (by decide)).trans g48
  have g84 := (n29 84 (by decide)).trans g84
  have g86 := (n29 86 (by decide)).trans g86
  have g85 := (n29 85 (by decide)).trans g85
  have g93 := (n29 93 (by decide)).trans g93
  have g95 := (n29 95 (by decide)).trans g95
  have g101 := (n29 101 (by decide)).trans g101
  have hz : ∀ j, 107 ≤ j → fs29[j]? = Zs[j]? := fun j hj => (n29 j (by omega)).trans (hz j (by omega))
  refine W.eq (g2 := F0 m 598 ls []) rfl ?_
  refine lv_aload_n G.1 G.2.1 d_Mo_init_598 rfl (lv_at hl 0 rfl) ?_
  refine lv_sipush (v := nI 612) G.1 G.2.1 d_Mo_init_599 (by decide) ?_
  refine mo_arrD (ty := .int) (nn := 612) (c1 := 41) (s1 := 44658) (a0 := (612, .inl (fun _ => nI 0))) G q404 rfl (fun _ h => h) 0 rfl hP hD hS (fun _ => rfl) (by omega) (Nat.le_of_ble_eq_true rfl) d_Mo_init_602 l29 107 (by decide) q3171 rfl (fun _ => rfl) (fun _ => rfl) d_Mo_init_604 (Nat.le_of_ble_eq_true rfl) (Nat.le_of_ble_eq_true rfl) (Nat.le_of_ble_eq_true rfl) (Nat.le_of_ble_eq_true rfl) (fun q30 fs30 H locs l30 v30 n30 hP hD hS => ?_)
  have g6 := (n30 6 (by decide)).trans g6
  have g8 := (n30 8 (by decide)).trans g8
  have g38 := (n30 38 (by decide)).trans g38
  have g39 := (n30 39 (by decide)).trans g39
  have g40 := (n30 40 (by decide)).trans g40
  have g41 := (n30 41 (by decide)).trans g41
  have g44 := (n30 44 (by decide)).trans g44
  have g42 := (n30 42 (by decide)).trans g42
  have g43 := (n30 43 (by decide)).trans g43
  have g48 := (n30 48 (by decide)).trans g48
  have g84 := (n30 84 (by decide)).trans g84
  have g86 := (n30 86 (by decide)).trans g86
  have g85 := (n30 85 (by decide)).trans g85
  have g93 := (n30 93 (by decide)).trans g93
  have g95 := (n30 95 (by decide)).trans g95
  have g101 := (n30 101 (by decide)).trans g101
  have hz : ∀ j, 108 ≤ j → fs30[j]? = Zs[j]? := fun j hj => (n30 j (by omega)).trans (hz j (by omega))
  refine W.eq (g2 := F0 m 607 ls []) rfl ?_
  refine lv_aload_n G.1 G.2.1 d_Mo_init_607 rfl (lv_at hl 0 rfl) ?_
  refine lv_sipush (v := nI 612) G.1 G.2.1 d_Mo_init_608 (by decide) ?_
  refine mo_arrD (ty := .boolean) (nn := 612) (c1 := 42) (s1 := 45270) (a0 := (612, .inl (fun _ => nI 0))) G q2980 rfl (fun _ h => h) 3 rfl hP hD hS (fun _ => rfl) (by omega) (Nat.le_of_ble_eq_true rfl) d_Mo_init_611 l30 108 (by decide) q3172 rfl (fun _ => rfl) (fun _ => rfl) d_Mo_init_613 (Nat.le_of_ble_eq_true rfl) (Nat.le_of_ble_eq_true rfl) (Nat.le_of_ble_eq_true rfl) (Nat.le_of_ble_eq_true rfl) (fun q31 fs31 H locs l31 v31 n31 hP hD hS => ?_)
  have g6 := (n31 6 (by decide)).trans g6
  have g8 := (n31 8 (by decide)).trans g8
  have g38 := (n31 38 (by decide)).trans g38
  have g39 := (n31 39 (by decide)).trans g39
  have g40 := (n31 40 (by decide)).trans g40
  have g41 := (n31 41 (by decide)).trans g41
  have g44 := (n31 44 (by decide)).trans g44
  have g42 := (n31 42 (by decide)).trans g42
  have g43 := (n31 43 (by decide)).trans g43
  have g48 := (n31 48 (by decide)).trans g48
  have g84 := (n31 84 (by decide)).trans g84
  have g86 := (n31 86 (by decide)).trans g86
  have g85 := (n31 85 (by decide)).trans g85
  have g93 := (n31 93 (by decide)).trans g93
  have g95 := (n31 95 (by decide)).trans g95
  have g101 := (n31 101 (by decide)).trans g101
  have hz : ∀ j, 109 ≤ j → fs31[j]? = Zs[j]? := fun j hj => (n31 j (by omega)).trans (hz j (by omega))
  refine W.eq (g2 := F0 m 616 ls []) rfl ?_
  refine lv_aload_n G.1 G.2.1 d_Mo_init_616 rfl (lv_at hl 0 rfl) ?_
  refine lv_sipush (v := nI 801) G.1 G.2.1 d_Mo_init_617 (by decide) ?_
  refine mo_arrD (ty := .boolean) (nn := 801) (c1 := 43) (s1 := 46071) (a0 := (801, .inl (fun _ => nI 0))) G q2980 rfl (fun _ h => h) 3 rfl hP hD hS (fun _ => rfl) (by omega) (Nat.le_of_ble_eq_true rfl) d_Mo_init_620 l31 110 (by decide) q3174 rfl (fun _ => rfl) (fun _ => rfl) d_Mo_init_622 (Nat.le_of_ble_eq_true rfl) (Nat.le_of_ble_eq_true rfl) (Nat.le_of_ble_eq_true rfl) (Nat.le_of_ble_eq_true rfl) (fun q32 fs32 H locs l32 v32 n32 hP hD hS => ?_)
  have g6 := (n32 6 (by decide)).trans g6
  have g8 := (n32 8 (by decide)).trans g8
  have g38 := (n32 38 (by decide)).trans g38
  have g39 := (n32 39 (by decide)).trans g39
  have g40 := (n32 40 (by decide)).trans g40
  have g41 := (n32 41 (by decide)).trans g41
  have g44 := (n32 44 (by decide)).trans g44
  have g42 := (n32 42 (by decide)).trans g42
  have g43 := (n32 43 (by decide)).trans g43
  have g48 := (n32 48 (by decide)).trans g48
  have g84 := (n32 84 (by decide)).trans g84
  have g86 := (n32 86 (by decide)).trans g86
  have g85 := (n32 85 (by decide)).trans g85
  have g93 := (n32 93 (by decide)).trans g93
  have g95 := (n32 95 (by decide)).trans g95
  have g101 := (n32 101 (by decide)).trans g101
  have g109 : fs32[109]? = some (.int (nI 0)) := (n32 109 (by decide)).trans ((hz 109 (by decide)).trans rfl)
  have hz : ∀ j, 111 ≤ j → fs32[j]? = Zs[j]? := fun j hj => (n32 j (by omega)).trans (hz j (by omega))
  refine W.eq (g2 := F0 m 625 ls []) rfl ?_
  refine lv_aload_n G.1 G.2.1 d_Mo_init_625 rfl (lv_at hl 0 rfl) ?_
  refine lv_sipush (v := nI 801) G.1 G.2.1 d_Mo_init_626 (by decide) ?_
  refine mo_arrD (ty := .int) (nn := 801) (c1 := 44) (s1 := 46872) (a0 := (801, .inl (fun _ => nI 0))) G q404 rfl (fun _ h => h) 0 rfl hP hD hS (fun _ => rfl) (by omega) (Nat.le_of_ble_eq_true rfl) d_Mo_init_629 l32 111 (by decide) q3175 rfl (fun _ => rfl) (fun _ => rfl) d_Mo_init_631 (Nat.le_of_ble_eq_true rfl) (Nat.le_of_ble_eq_true rfl) (Nat.le_of_ble_eq_true rfl) (Nat.le_of_ble_eq_true rfl) (fun q33 fs33 H locs l33 v33 n33 hP hD hS => ?_)
  have g6 := (n33 6 (by decide)).trans g6
  have g8 := (n33 8 (by decide)).trans g8
  have g38 := (n33 38 (by decide)).trans g38
  have g39 := (n33 39 (by decide)).trans g39
  have g40 := (n33 40 (by decide)).trans g40
  have g41 := (n33 41 (by decide)).trans g41
  have g44 := (n33 44 (by decide)).trans g44
  have g42 := (n33 42 (by decide)).trans g42
  have g43 := (n33 43 (by decide)).trans g43
  have g48 := (n33 48 (by decide)).trans g48
  have g84 := (n33 84 (by decide)).trans g84
  have g86 := (n33 86 (by decide)).trans g86
  have g85 := (n33 85 (by decide)).trans g85
  have g93 := (n33 93 (by decide)).trans g93
  have g95 := (n33 95 (by decide)).trans g95
  have g101 := (n33 101 (by decide)).trans g101
  have g109 := (n33 109 (by decide)).trans g109
  have hz : ∀ j, 112 ≤ j → fs33[j]? = Zs[j]? := fun j hj => (n33 j (by omega)).trans (hz j (by omega))
  refine W.eq (g2 := F0 m 634 ls []) rfl ?_
  refine lv_aload_n G.1 G.2.1 d_Mo_init_634 rfl (lv_at hl 0 rfl) ?_
  refine lv_sipush (v := nI 4000) G.1 G.2.1 d_Mo_init_635 (by decide) ?_
  refine mo_arrD (ty := .int) (nn := 4000) (c1 := 45) (s1 := 50872) (a0 := (4000, .inl (fun _ => nI 0))) G q404 rfl (fun _ h => h) 0 rfl hP hD hS (fun _ => rfl) (by omega) (Nat.le_of_ble_eq_true rfl) d_Mo_init_638 l33 113 (by decide) q3177 rfl (fun _ => rfl) (fun _ => rfl) d_Mo_init_640 (Nat.le_of_ble_eq_true rfl) (Nat.le_of_ble_eq_true rfl) (Nat.le_of_ble_eq_true rfl) (Nat.le_of_ble_eq_true rfl) (fun q34 fs34 H locs l34 v34 n34 hP hD hS => ?_)
  have g6 := (n34 6 (by decide)).trans g6
  have g8 := (n34 8 (by decide)).trans g8
  have g38 := (n34 38 (by decide)).trans g38
  have g39 := (n34 39 (by decide)).trans g39
  have g40 := (n34 40 (by decide)).trans g40
  have g41 := (n34 41 (by decide)).trans g41
  have g44 := (n34 44 (by decide)).trans g44
  have g42 := (n34 42 (by decide)).trans g42
  have g43 := (n34 43 (by decide)).trans g43
  have g48 := (n34 48 (by decide)).trans g48
  have g84 := (n34 84 (by decide)).trans g84
  have g86 := (n34 86 (by decide)).trans g86
  have g85 := (n34 85 (by decide)).trans g85
  have g93 := (n34 93 (by decide)).trans g93
  have g95 := (n34 95 (by decide)).trans g95
  have g101 := (n34 101 (by decide)).trans g101
  have g109 := (n34 109 (by decide)).trans g109
  have hz : ∀ j, 114 ≤ j → fs34[j]? = Zs[j]? := fun j hj => (n34 j (by omega)).trans (hz j (by omega))
  refine W.eq (g2 := F0 m 643 ls []) rfl ?_
  refine lv_aload_n G.1 G.2.1 d_Mo_init_643 rfl (lv_at hl 0 rfl) ?_
  refine lv_sipush (v := nI 256) G.1 G.2.1 d_Mo_init_644 (by decide) ?_
  refine mo_arrD (ty := .byte) (nn := 256) (c1 := 46) (s1 := 51128) (a0 := (256, .inl (fun _ => nI 0))) G q403 rfl (fun _ h => h) 1 rfl hP hD hS (fun _ => rfl) (by omega) (Nat.le_of_ble_eq_true rfl) d_Mo_init_647 l34 114 (by decide) q3178 rfl (fun _ => rfl) (fun _ => rfl) d_Mo_init_649 (Nat.le_of_ble_eq_true rfl) (Nat.le_of_ble_eq_true rfl) (Nat.le_of_ble_eq_true rfl) (Nat.le_of_ble_eq_true rfl) (fun q35 fs35 H locs l35 v35 n35 hP hD hS => ?_)
  have g6 := (n35 6 (by decide)).trans g6
  have g8 := (n35 8 (by decide)).trans g8
  have g38 := (n35 38 (by decide)).trans g38
  have g39 := (n35 39 (by decide)).trans g39
  have g40 := (n35 40 (by decide)).trans g40
  have g41 := (n35 41 (by decide)).trans g41
  have g44 := (n35 44 (by decide)).trans g44
  have g42 := (n35 42 (by decide)).trans g42
  have g43 := (n35 43 (by decide)).trans g43
  have g48 := (n35 48 (by decide)).trans g48
  have g84 := (n35 84 (by decide)).trans g84
  have g86 := (n35 86 (by decide)).trans g86
  have g85 := (n35 85 (by decide)).trans g85
  have g93 := (n35 93 (by decide)).trans g93
  have g95 := (n35 95 (by decide)).trans g95
  have g101 := (n35 101 (by decide)).trans g101
  have g109 := (n35 109 (by decide)).trans g109
  have hz : ∀ j, 115 ≤ j → fs35[j]? = Zs[j]? := fun j hj => (n35 j (by omega)).trans (hz j (by omega))
  refine W.eq (g2 := F0 m 652 ls []) rfl ?_
  refine lv_aload_n G.1 G.2.1 d_Mo_init_652 rfl (lv_at hl 0 rfl) ?_
  refine lv_sipush (v := nI 256) G.1 G.2.1 d_Mo_init_653 (by decide) ?_
  refine mo_arrD (ty := .byte) (nn := 256) (c1 := 47) (s1 := 51384) (a0 := (256, .inl (fun _ => nI 0))) G q403 rfl (fun _ h => h) 1 rfl hP hD hS (fun _ => rfl) (by omega) (Nat.le_of_ble_eq_true rfl) d_Mo_init_656 l35 115 (by decide) q3179 rfl (fun _ => rfl) (fun _ => rfl) d_Mo_init_658 (Nat.le_of_ble_eq_true rfl) (Nat.le_of_ble_eq_true rfl) (Nat.le_of_ble_eq_true rfl) (Nat.le_of_ble_eq_true rfl) (fun q36 fs36 H locs l36 v36 n36 hP hD hS => ?_)
  have g6 := (n36 6 (by decide)).trans g6
  have g8 := (n36 8 (by decide)).trans g8
  have g38 := (n36 38 (by decide)).trans g38
  have g39 := (n36 39 (by decide)).trans g39
  have g40 := (n36 40 (by decide)).trans g40
  have g41 := (n36 41 (by decide)).trans g41
  have g44 := (n36 44 (by decide)).trans g44
  have g42 := (n36 42 (by decide)).trans g42
  have g43 := (n36 43 (by decide)).trans g43
  have g48 := (n36 48 (by decide)).trans g48
  have g84 := (n36 84 (by decide)).trans g84
  have g86 := (n36 86 (by decide)).trans g86
  have g85 := (n36 85 (by decide)).trans g85
  have g93 := (n36 93 (by decide)).trans g93
  have g95 := (n36 95 (by decide)).trans g95
  have g101 := (n36 101 (by decide)).trans g101
  have g109 := (n36 109 (by decide)).trans g109
  have hz : ∀ j, 116 ≤ j → fs36[j]? = Zs[j]? := fun j hj => (n36 j (by omega)).trans (hz j (by omega))
  refine W.eq (g2 := F0 m 661 ls []) rfl ?_
  refine lv_aload_n G.1 G.2.1 d_Mo_init_661 rfl (lv_at hl 0 rfl) ?_
  refine lv_ldcw (v := nI 48160) G.1 G.2.1 G.2.2.2.2.2.2.1 (G.2.2.2.2.2.1 _ q2698) d_Mo_init_662 ?_
  refine mo_arrD (ty := .byte) (nn := 48160) (c1 := 48) (s1 := 99544) (a0 := (48160, .inl (fun _ => nI 0))) G q403 rfl (fun _ h => h) 1 rfl hP hD hS (fun _ => rfl) (by omega) (Nat.le_of_ble_eq_true rfl) d_Mo_init_665 l36 116 (by decide) q3180 rfl (fun _ => rfl) (fun _ => rfl) d_Mo_init_667 (Nat.le_of_ble_eq_true rfl) (Nat.le_of_ble_eq_true rfl) (Nat.le_of_ble_eq_true rfl) (Nat.le_of_ble_eq_true rfl) (fun q37 fs37 H locs l37 v37 n37 hP hD hS => ?_)
  have g6 := (n37 6 (by decide)).trans g6
  have g8 := (n37 8 (by decide)).trans g8
  have g38 := (n37 38 (by decide)).trans g38
  have g39 := (n37 39 (by decide)).trans g39
  have g40 := (n37 40 (by decide)).trans g40
  have g41 := (n37 41 (by decide)).trans g41
  have g44 := (n37 44 (by decide)).trans g44
  have g42 := (n37 42 (by decide)).trans g42
  have g43 := (n37 43 (by decide)).trans g43
  have g48 := (n37 48 (by decide)).trans g48
  have g84 := (n37 84 (by decide)).trans g84
  have g86 := (n37 86 (by decide)).trans g86
  have g85 := (n37 85 (by decide)).trans g85
  have g93 := (n37 93 (by decide)).trans g93
  have g95 := (n37 95 (by decide)).trans g95
  have g101 := (n37 101 (by decide)).trans g101
  have g109 := (n37 109 (by decide)).trans g109
  have hz : ∀ j, 117 ≤ j → fs37[j]? = Zs[j]? := fun j hj => (n37 j (by omega)).trans (hz j (by omega))
  refine W.eq (g2 := F0 m 670 ls []) rfl ?_
  refine lv_aload_n G.1 G.2.1 d_Mo_init_670 rfl (lv_at hl 0 rfl) ?_
  refine lv_bipush (v := nI 40) G.1 G.2.1 d_Mo_init_671 (by decide) ?_
  refine mo_arrD (ty := .int) (nn := 40) (c1 := 49) (s1 := 99584) (a0 := (40, .inl (fun _ => nI 0))) G q404 rfl (fun _ h => h) 0 rfl hP hD hS (fun _ => rfl) (by omega) (Nat.le_of_ble_eq_true rfl) d_Mo_init_673 l37 117 (by decide) q3181 rfl (fun _ => rfl) (fun _ => rfl) d_Mo_init_675 (Nat.le_of_ble_eq_true rfl) (Nat.le_of_ble_eq_true rfl) (Nat.le_of_ble_eq_true rfl) (Nat.le_of_ble_eq_true rfl) (fun q38 fs38 H locs l38 v38 n38 hP hD hS => ?_)
  have g6 := (n38 6 (by decide)).trans g6
  have g8 := (n38 8 (by decide)).trans g8
  have g38 := (n38 38 (by decide)).trans g38
  have g39 := (n38 39 (by decide)).trans g39
  have g40 := (n38 40 (by decide)).trans g40
  have g41 := (n38 41 (by decide)).trans g41
  have g44 := (n38 44 (by decide)).trans g44
  have g42 := (n38 42 (by decide)).trans g42
  have g43 := (n38 43 (by decide)).trans g43
  have g48 := (n38 48 (by decide)).trans g48
  have g84 := (n38 84 (by decide)).trans g84
  have g86 := (n38 86 (by decide)).trans g86
  have g85 := (n38 85 (by decide)).trans g85
  have g93 := (n38 93 (by decide)).trans g93
  have g95 := (n38 95 (by decide)).trans g95
  have g101 := (n38 101 (by decide)).trans g101
  have g109 := (n38 109 (by decide)).trans g109
  have hz : ∀ j, 118 ≤ j → fs38[j]? = Zs[j]? := fun j hj => (n38 j (by omega)).trans (hz j (by omega))
  refine W.eq (g2 := F0 m 678 ls []) rfl ?_
  refine lv_aload_n G.1 G.2.1 d_Mo_init_678 rfl (lv_at hl 0 rfl) ?_
  refine lv_bipush (v := nI 40) G.1 G.2.1 d_Mo_init_679 (by decide) ?_
  refine mo_arrD (ty := .boolean) (nn := 40) (c1 := 50) (s1 := 99624) (a0 := (40, .inl (fun _ => nI 0))) G q2980 rfl (fun _ h => h) 3 rfl hP hD hS (fun _ => rfl) (by omega) (Nat.le_of_ble_eq_true rfl) d_Mo_init_681 l38 118 (by decide) q3182 rfl (fun _ => rfl) (fun _ => rfl) d_Mo_init_683 (Nat.le_of_ble_eq_true rfl) (Nat.le_of_ble_eq_true rfl) (Nat.le_of_ble_eq_true rfl) (Nat.le_of_ble_eq_true rfl) (fun q39 fs39 H locs l39 v39 n39 hP hD hS => ?_)
  have g6 := (n39 6 (by decide)).trans g6
  have g8 := (n39 8 (by decide)).trans g8
  have g38 := (n39 38 (by decide)).trans g38
  have g39 := (n39 39 (by decide)).trans g39
  have g40 := (n39 40 (by decide)).trans g40
  have g41 := (n39 41 (by decide)).trans g41
  have g44 := (n39 44 (by decide)).trans g44
  have g42 := (n39 42 (by decide)).trans g42
  have g43 := (n39 43 (by decide)).trans g43
  have g48 := (n39 48 (by decide)).trans g48
  have g84 := (n39 84 (by decide)).trans g84
  have g86 := (n39 86 (by decide)).trans g86
  have g85 := (n39 85 (by decide)).trans g85
  have g93 := (n39 93 (by decide)).trans g93
  have g95 := (n39 95 (by decide)).trans g95
  have g101 := (n39 101 (by decide)).trans g101
  have g109 := (n39 109 (by decide)).trans g109
  have hz : ∀ j, 119 ≤ j → fs39[j]? = Zs[j]? := fun j hj => (n39 j (by omega)).trans (hz j (by omega))
  refine W.eq (g2 := F0 m 686 ls []) rfl ?_
  refine lv_aload_n G.1 G.2.1 d_Mo_init_686 rfl (lv_at hl 0 rfl) ?_
  refine lv_bipush (v := nI 40) G.1 G.2.1 d_Mo_init_687 (by decide) ?_
  refine mo_arrD (ty := .int) (nn := 40) (c1 := 51) (s1 := 99664) (a0 := (40, .inl (fun _ => nI 0))) G q404 rfl (fun _ h => h) 0 rfl hP hD hS (fun _ => rfl) (by omega) (Nat.le_of_ble_eq_true rfl) d_Mo_init_689 l39 119 (by decide) q3183 rfl (fun _ => rfl) (fun _ => rfl) d_Mo_init_691 (Nat.le_of_ble_eq_true rfl) (Nat.le_of_ble_eq_true rfl) (Nat.le_of_ble_eq_true rfl) (Nat.le_of_ble_eq_true rfl) (fun q40 fs40 H locs l40 v40 n40 hP hD hS => ?_)
  have g6 := (n40 6 (by decide)).trans g6
  have g8 := (n40 8 (by decide)).trans g8
  have g38 := (n40 38 (by decide)).trans g38
  have g39 := (n40 39 (by decide)).trans g39
  have g40 := (n40 40 (by decide)).trans g40
  have g41 := (n40 41 (by decide)).trans g41
  have g44 := (n40 44 (by decide)).trans g44
  have g42 := (n40 42 (by decide)).trans g42
  have g43 := (n40 43 (by decide)).trans g43
  have g48 := (n40 48 (by decide)).trans g48
  have g84 := (n40 84 (by decide)).trans g84
  have g86 := (n40 86 (by decide)).trans g86
  have g85 := (n40 85 (by decide)).trans g85
  have g93 := (n40 93 (by decide)).trans g93
  have g95 := (n40 95 (by decide)).trans g95
  have g101 := (n40 101 (by decide)).trans g101
  have g109 := (n40 109 (by decide)).trans g109
  have hz : ∀ j, 120 ≤ j → fs40[j]? = Zs[j]? := fun j hj => (n40 j (by omega)).trans (hz j (by omega))
  refine W.eq (g2 := F0 m 694 ls []) rfl ?_
  refine lv_aload_n G.1 G.2.1 d_Mo_init_694 rfl (lv_at hl 0 rfl) ?_
  refine lv_bipush (v := nI 40) G.1 G.2.1 d_Mo_init_695 (by decide) ?_
  refine mo_arrD (ty := .int) (nn := 40) (c1 := 52) (s1 := 99704) (a0 := (40, .inl (fun _ => nI 0))) G q404 rfl (fun _ h => h) 0 rfl hP hD hS (fun _ => rfl) (by omega) (Nat.le_of_ble_eq_true rfl) d_Mo_init_697 l40 120 (by decide) q3184 rfl (fun _ => rfl) (fun _ => rfl) d_Mo_init_699 (Nat.le_of_ble_eq_true rfl) (Nat.le_of_ble_eq_true rfl) (Nat.le_of_ble_eq_true rfl) (Nat.le_of_ble_eq_true rfl) (fun q41 fs41 H locs l41 v41 n41 hP hD hS => ?_)
  have g6 := (n41 6 (by decide)).trans g6
  have g8 := (n41 8 (by decide)).trans g8
  have g38 := (n41 38 (by decide)).trans g38
  have g39 := (n41 39 (by decide)).trans g39
  have g40 := (n41 40 (by decide)).trans g40
  have g41 := (n41 41 (by decide)).trans g41
  have g44 := (n41 44 (by decide)).trans g44
  have g42 := (n41 42 (by decide)).trans g42
  have g43 := (n41 43 (by decide)).trans g43
  have g48 := (n41 48 (by decide)).trans g48
  have g84 := (n41 84 (by decide)).trans g84
  have g86 := (n41 86 (by decide)).trans g86
  have g85 := (n41 85 (by decide)).trans g85
  have g93 := (n41 93 (by decide)).trans g93
  have g95 := (n41 95 (by decide)).trans g95
  have g101 := (n41 101 (by decide)).trans g101
  have g109 := (n41 109 (by decide)).trans g109
  have hz : ∀ j, 121 ≤ j → fs41[j]? = Zs[j]? := fun j hj => (n41 j (by omega)).trans (hz j (by omega))
  refine W.eq (g2 := F0 m 702 ls []) rfl ?_
  refine lv_aload_n G.1 G.2.1 d_Mo_init_702 rfl (lv_at hl 0 rfl) ?_
  refine lv_sipush (v := nI 2408) G.1 G.2.1 d_Mo_init_703 (by decide) ?_
  refine mo_arrD (ty := .byte) (nn := 2408) (c1 := 53) (s1 := 102112) (a0 := (2408, .inl (fun _ => nI 0))) G q403 rfl (fun _ h => h) 1 rfl hP hD hS (fun _ => rfl) (by omega) (Nat.le_of_ble_eq_true rfl) d_Mo_init_706 l41 122 (by decide) q3186 rfl (fun _ => rfl) (fun _ => rfl) d_Mo_init_708 (Nat.le_of_ble_eq_true rfl) (Nat.le_of_ble_eq_true rfl) (Nat.le_of_ble_eq_true rfl) (Nat.le_of_ble_eq_true rfl) (fun q42 fs42 H locs l42 v42 n42 hP hD hS => ?_)
  have g6 := (n42 6 (by decide)).trans g6
  have g8 := (n42 8 (by decide)).trans g8
  have g38 := (n42 38 (by decide)).trans g38
  have g39 := (n42 39 (by decide)).trans g39
  have g40 := (n42 40 (by decide)).trans g40
  have g41 := (n42 41 (by decide)).trans g41
  have g44 := (n42 44 (by decide)).trans g44
  have g42 := (n42 42 (by decide)).trans g42
  have g43 := (n42 43 (by decide)).trans g43
  have g48 := (n42 48 (by decide)).trans g48
  have g84 := (n42 84 (by decide)).trans g84
  have g86 := (n42 86 (by decide)).trans g86
  have g85 := (n42 85 (by decide)).trans g85
  have g93 := (n42 93 (by decide)).trans g93
  have g95 := (n42 95 (by decide)).trans g95
  have g101 := (n42 101 (by decide)).trans g101
  have g109 := (n42 109 (by decide)).trans g109
  have g121 : fs42[121]? = some (.int (nI 0)) := (n42 121 (by decide)).trans ((hz 121 (by decide)).trans rfl)
  have hz : ∀ j, 123 ≤ j → fs42[j]? = Zs[j]? := fun j hj => (n42 j (by omega)).trans (hz j (by omega))
  refine W.eq (g2 := F0 m 711 ls []) rfl ?_
  refine lv_aload_n G.1 G.2.1 d_Mo_init_711 rfl (lv_at hl 0 rfl) ?_
  refine lv_sipush (v := nI 256) G.1 G.2.1 d_Mo_init_712 (by decide) ?_
  refine mo_arrK (ty := .int) (nn := 256) (c1 := 54) (s1 := 102368) (a0 := (256, .inl (fun _ => nI 0))) G q404 rfl (fun _ h => h) 0 rfl hP hD hS (fun _ => rfl) (by omega) (Nat.le_of_ble_eq_true rfl) d_Mo_init_715 l42 126 (by decide) q3190 rfl (fun _ => rfl) (fun _ => rfl) d_Mo_init_717 (Nat.le_of_ble_eq_true rfl) (Nat.le_of_ble_eq_true rfl) (Nat.le_of_ble_eq_true rfl) (Nat.le_of_ble_eq_true rfl) (fun q43 fs43 H locs l43 v43 n43 hP hD hS => ?_)
  have g6 := (n43 6 (by decide)).trans g6
  have g8 := (n43 8 (by decide)).trans g8
  have g38 := (n43 38 (by decide)).trans g38
  have g39 := (n43 39 (by decide)).trans g39
  have g40 := (n43 40 (by decide)).trans g40
  have g41 := (n43 41 (by decide)).trans g41
  have g44 := (n43 44 (by decide)).trans g44
  have g42 := (n43 42 (by decide)).trans g42
  have g43 := (n43 43 (by decide)).trans g43
  have g48 := (n43 48 (by decide)).trans g48
  have g84 := (n43 84 (by decide)).trans g84
  have g86 := (n43 86 (by decide)).trans g86
  have g85 := (n43 85 (by decide)).trans g85
  have g93 := (n43 93 (by decide)).trans g93
  have g95 := (n43 95 (by decide)).trans g95
  have g101 := (n43 101 (by decide)).trans g101
  have g109 := (n43 109 (by decide)).trans g109
  have g121 := (n43 121 (by decide)).trans g121
  have g126 := v43
  have g123 : fs43[123]? = some (.int (nI 0)) := (n43 123 (by decide)).trans ((hz 123 (by decide)).trans rfl)
  have hz : ∀ j, 127 ≤ j → fs43[j]? = Zs[j]? := fun j hj => (n43 j (by omega)).trans (hz j (by omega))
  refine W.eq (g2 := F0 m 720 ls []) rfl ?_
  refine lv_aload_n G.1 G.2.1 d_Mo_init_720 rfl (lv_at hl 0 rfl) ?_
  refine lv_sipush (v := nI 256) G.1 G.2.1 d_Mo_init_721 (by decide) ?_
  refine mo_arrK (ty := .int) (nn := 256) (c1 := 55) (s1 := 102624) (a0 := (256, .inl (fun _ => nI 0))) G q404 rfl (fun _ h => h) 0 rfl hP hD hS (fun _ => rfl) (by omega) (Nat.le_of_ble_eq_true rfl) d_Mo_init_724 l43 127 (by decide) q3191 rfl (fun _ => rfl) (fun _ => rfl) d_Mo_init_726 (Nat.le_of_ble_eq_true rfl) (Nat.le_of_ble_eq_true rfl) (Nat.le_of_ble_eq_true rfl) (Nat.le_of_ble_eq_true rfl) (fun q44 fs44 H locs l44 v44 n44 hP hD hS => ?_)
  have g6 := (n44 6 (by decide)).trans g6
  have g8 := (n44 8 (by decide)).trans g8
  have g38 := (n44 38 (by decide)).trans g38
  have g39 := (n44 39 (by decide)).trans g39
  have g40 := (n44 40 (by decide)).trans g40
  have g41 := (n44 41 (by decide)).trans g41
  have g44 := (n44 44 (by decide)).trans g44
  have g42 := (n44 42 (by decide)).trans g42
  have g43 := (n44 43 (by decide)).trans g43
  have g48 := (n44 48 (by decide)).trans g48
  have g84 := (n44 84 (by decide)).trans g84
  have g86 := (n44 86 (by decide)).trans g86
  have g85 := (n44 85 (by decide)).trans g85
  have g93 := (n44 93 (by decide)).trans g93
  have g95 := (n44 95 (by decide)).trans g95
  have g101 := (n44 101 (by decide)).trans g101
  have g109 := (n44 109 (by decide)).trans g109
  have g121 := (n44 121 (by decide)).trans g121
  have g126 := (n44 126 (by decide)).trans g126
  have g123 := (n44 123 (by decide)).trans g123
  have g127 := v44
  have hz : ∀ j, 128 ≤ j → fs44[j]? = Zs[j]? := fun j hj => (n44 j (by omega)).trans (hz j (by omega))
  refine W.eq (g2 := F0 m 729 ls []) rfl ?_
  refine lv_aload_n G.1 G.2.1 d_Mo_init_729 rfl (lv_at hl 0 rfl) ?_
  refine lv_sipush (v := nI 256) G.1 G.2.1 d_Mo_init_730 (by decide) ?_
  refine mo_arrK (ty := .int) (nn := 256) (c1 := 56) (s1 := 102880) (a0 := (256, .inl (fun _ => nI 0))) G q404 rfl (fun _ h => h) 0 rfl hP hD hS (fun _ => rfl) (by omega) (Nat.le_of_ble_eq_true rfl) d_Mo_init_733 l44 128 (by decide) q3192 rfl (fun _ => rfl) (fun _ => rfl) d_Mo_init_735 (Nat.le_of_ble_eq_true rfl) (Nat.le_of_ble_eq_true rfl) (Nat.le_of_ble_eq_true rfl) (Nat.le_of_ble_eq_true rfl) (fun q45 fs45 H locs l45 v45 n45 hP hD hS => ?_)
  have g6 := (n45 6 (by decide)).trans g6
  have g8 := (n45 8 (by decide)).trans g8
  have g38 := (n45 38 (by decide)).trans g38
  have g39 := (n45 39 (by decide)).trans g39
  have g40 := (n45 40 (by decide)).trans g40
  have g41 := (n45 41 (by decide)).trans g41
  have g44 := (n45 44 (by decide)).trans g44
  have g42 := (n45 42 (by decide)).trans g42
  have g43 := (n45 43 (by decide)).trans g43
  have g48 := (n45 48 (by decide)).trans g48
  have g84 := (n45 84 (by decide)).trans g84
  have g86 := (n45 86 (by decide)).trans g86
  have g85 := (n45 85 (by decide)).trans g85
  have g93 := (n45 93 (by decide)).trans g93
  have g95 := (n45 95 (by decide)).trans g95
  have g101 := (n45 101 (by decide)).trans g101
  have g109 := (n45 109 (by decide)).trans g109
  have g121 := (n45 121 (by decide)).trans g121
  have g126 := (n45 126 (by decide)).trans g126
  have g123 := (n45 123 (by decide)).trans g123
  have g127 := (n45 127 (by decide)).trans g127
  have g128 := v45
  have hz : ∀ j, 129 ≤ j → fs45[j]? = Zs[j]? := fun j hj => (n45 j (by omega)).trans (hz j (by omega))
  refine W.eq (g2 := F0 m 738 ls []) rfl ?_
  refine lv_aload_n G.1 G.2.1 d_Mo_init_738 rfl (lv_at hl 0 rfl) ?_
  refine lv_sipush (v := nI 256) G.1 G.2.1 d_Mo_init_739 (by decide) ?_
  refine mo_arrD (ty := .int) (nn := 256) (c1 := 57) (s1 := 103136) (a0 := (256, .inl (fun _ => nI 0))) G q404 rfl (fun _ h => h) 0 rfl hP hD hS (fun _ => rfl) (by omega) (Nat.le_of_ble_eq_true rfl) d_Mo_init_742 l45 129 (by decide) q3193 rfl (fun _ => rfl) (fun _ => rfl) d_Mo_init_744 (Nat.le_of_ble_eq_true rfl) (Nat.le_of_ble_eq_true rfl) (Nat.le_of_ble_eq_true rfl) (Nat.le_of_ble_eq_true rfl) (fun q46 fs46 H locs l46 v46 n46 hP hD hS => ?_)
  have g6 := (n46 6 (by decide)).trans g6
  have g8 := (n46 8 (by decide)).trans g8
  have g38 := (n46 38 (by decide)).trans g38
  have g39 := (n46 39 (by decide)).trans g39
  have g40 := (n46 40 (by decide)).trans g40
  have g41 := (n46 41 (by decide)).trans g41
  have g44 := (n46 44 (by decide)).trans g44
  have g42 := (n46 42 (by decide)).trans g42
  have g43 := (n46 43 (by decide)).trans g43
  have g48 := (n46 48 (by decide)).trans g48
  have g84 := (n46 84 (by decide)).trans g84
  have g86 := (n46 86 (by decide)).trans g86
  have g85 := (n46 85 (by decide)).trans g85
  have g93 := (n46 93 (by decide)).trans g93
  have g95 := (n46 95 (by decide)).trans g95
  have g101 := (n46 101 (by decide)).trans g101
  have g109 := (n46 109 (by decide)).trans g109
  have g121 := (n46 121 (by decide)).trans g121
  have g126 := (n46 126 (by decide)).trans g126
  have g123 := (n46 123 (by decide)).trans g123
  have g127 := (n46 127 (by decide)).trans g127
  have g128 := (n46 128 (by decide)).trans g128
  have hz : ∀ j, 130 ≤ j → fs46[j]? = Zs[j]? := fun j hj => (n46 j (by omega)).trans (hz j (by omega))
  refine W.eq (g2 := F0 m 747 ls []) rfl ?_
  refine lv_aload_n G.1 G.2.1 d_Mo_init_747 rfl (lv_at hl 0 rfl) ?_
  refine lv_bipush (v := nI 62) G.1 G.2.1 d_Mo_init_748 (by decide) ?_
  refine mo_arrD (ty := .int) (nn := 62) (c1 := 58) (s1 := 103198) (a0 := (62, .inl (fun _ => nI 0))) G q404 rfl (fun _ h => h) 0 rfl hP hD hS (fun _ => rfl) (by omega) (Nat.le_of_ble_eq_true rfl) d_Mo_init_750 l46 130 (by decide) q3194 rfl (fun _ => rfl) (fun _ => rfl) d_Mo_init_752 (Nat.le_of_ble_eq_true rfl) (Nat.le_of_ble_eq_true rfl) (Nat.le_of_ble_eq_true rfl) (Nat.le_of_ble_eq_true rfl) (fun q47 fs47 H locs l47 v47 n47 hP hD hS => ?_)
  have g6 := (n47 6 (by decide)).trans g6
  have g8 := (n47 8 (by decide)).trans g8
  have g38 := (n47 38 (by decide)).trans g38
  have g39 := (n47 39 (by decide)).trans g39
  have g40 := (n47 40 (by decide)).trans g40
  have g41 := (n47 41 (by decide)).trans g41
  have g44 := (n47 44 (by decide)).trans g44
  have g42 := (n47 42 (by decide)).trans g42
  have g43 := (n47 43 (by decide)).trans g43
  have g48 := (n47 48 (by decide)).trans g48
  have g84 := (n47 84 (by decide)).trans g84
  have g86 := (n47 86 (by decide)).trans g86
  have g85 := (n47 85 (by decide)).trans g85
  have g93 := (n47 93 (by decide)).trans g93
  have g95 := (n47 95 (by decide)).trans g95
  have g101 := (n47 101 (by decide)).trans g101
  have g109 := (n47 109 (by decide)).trans g109
  have g121 := (n47 121 (by decide)).trans g121
  have g126 := (n47 126 (by decide)).trans g126
  have g123 := (n47 123 (by decide)).trans g123
  have g127 := (n47 127 (by decide)).trans g127
  have g128 := (n47 128 (by decide)).trans g128
  have hz : ∀ j, 131 ≤ j → fs47[j]? = Zs[j]? := fun j hj => (n47 j (by omega)).trans (hz j (by omega))
  refine W.eq (g2 := F0 m 755 ls []) rfl ?_
  exact kk fs47 r6 r8 r38 q1 q2 q3 q4 q5 q18 q43 q44 q45 H locs ⟨l47, g6, g8, g38, g39, g40, g41, g42, g43, g44, g48, g84, g85, g86, g93, g95, g101, g109, g121, g123, g126, g127, g128⟩ hP hD hS
