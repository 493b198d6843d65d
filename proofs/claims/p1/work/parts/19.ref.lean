theorem i64_zs (x : Int64) : (0 : Int64) >>> x = 0 := Int64.zero_shiftRight
def y_Mo_isWorld : MethodName := ⟨"ClassWorksModel", "isWorld", "(I)Z"⟩
abbrev b_Mo_isWorld : ByteArray := prog_14_method_127_code
theorem q2706 : Cond.fieldLinkNest "ClassWorksModel" 413 "ClassWorksModel$World" "there" "Z" "ClassWorksModel" ∈ lw_nest := lw_nestmem (List.mem_of_getElem? (i := 2706) (by decide +kernel)) rfl
theorem d_Mo_isWorld_0 : decode b_Mo_isWorld 0 = .ok (.iload_n 1, 1) := by decide +kernel
theorem d_Mo_isWorld_1 : decode b_Mo_isWorld 1 = .ok (.ifCond .lt 24, 3) := by decide +kernel
theorem d_Mo_isWorld_4 : decode b_Mo_isWorld 4 = .ok (.iload_n 1, 1) := by decide +kernel
theorem d_Mo_isWorld_5 : decode b_Mo_isWorld 5 = .ok (.iconst 3, 1) := by decide +kernel
theorem d_Mo_isWorld_6 : decode b_Mo_isWorld 6 = .ok (.if_icmp .ge 19, 3) := by decide +kernel
theorem d_Mo_isWorld_9 : decode b_Mo_isWorld 9 = .ok (.aload_n 0, 1) := by decide +kernel
theorem d_Mo_isWorld_10 : decode b_Mo_isWorld 10 = .ok (.getfield 263, 3) := by decide +kernel
theorem d_Mo_isWorld_13 : decode b_Mo_isWorld 13 = .ok (.iload_n 1, 1) := by decide +kernel
theorem d_Mo_isWorld_14 : decode b_Mo_isWorld 14 = .ok (.aaload, 1) := by decide +kernel
theorem d_Mo_isWorld_15 : decode b_Mo_isWorld 15 = .ok (.getfield 413, 3) := by decide +kernel
theorem d_Mo_isWorld_18 : decode b_Mo_isWorld 18 = .ok (.ifCond .eq 7, 3) := by decide +kernel
theorem d_Mo_isWorld_25 : decode b_Mo_isWorld 25 = .ok (.iconst 0, 1) := by decide +kernel
theorem d_Mo_isWorld_26 : decode b_Mo_isWorld 26 = .ok (.ireturn, 1) := by decide +kernel
abbrev rm_Mo_isWorld : Room := { frames := 0, cells := 0, slots := 0, locals := 0 }
set_option maxHeartbeats 4000000 in
set_option maxRecDepth 100000 in
/-- isWorld(..): none -/
theorem c_Mo_isWorld (l : Launch) (D : va_G) (g : Nat → ClassId) (h0 : Nat) (wn : Int32) (fs : List Value) (ow : Nat) (v0 : Nat) (v1 : Nat) (v2 : Nat) (v3 : Nat) (fw0 : List Value) (fw1 : List Value) (fw2 : List Value) (sz : Nat) (glen : fs.length = 131) (gk0 : fs[44]? = some (.ref ow)) (gw0 : fw0.length = 72) (gt0 : fw0[0]? = some (.int (nI 0))) (gw1 : fw1.length = 72) (gt1 : fw1[0]? = some (.int (nI 0))) (gw2 : fw2.length = 72) (gt2 : fw2[0]? = some (.int (nI 0)))  : Met l y_Mo_isWorld (mw y_Mo_isWorld b_Mo_isWorld 2 (some (.boolean))) (rm_Mo_isWorld) (PC g D [] [.ref h0, .int wn] sz [(h0, .inr (14, fs)), (ow, .inl (g 6, 4, .inr (.inr (.inr (.inr (va_up (va_up (va_up (va_up (fun _ => none) 0 (some v0)) 1 (some v1)) 2 (some v2)) 3 (some v3))))))), (v0, .inr (13, fw0)), (v1, .inr (13, fw1)), (v2, .inr (13, fw2))]) (va_Qi (fun (r : Int32) (u : Unit) => r = nI 0) (QW D (va_A [(h0, .inr (14, fs)), (ow, .inl (g 6, 4, .inr (.inr (.inr (.inr (va_up (va_up (va_up (va_up (fun _ => none) 0 (some v0)) 1 (some v1)) 2 (some v2)) 3 (some v3))))))), (v0, .inr (13, fw0)), (v1, .inr (13, fw1)), (v2, .inr (13, fw2))] sz) (fun u : Unit => [(h0, .inr (14, fs)), (ow, .inl (g 6, 4, .inr (.inr (.inr (.inr (va_up (va_up (va_up (va_up (fun _ => none) 0 (some v0)) 1 (some v1)) 2 (some v2)) 3 (some v3))))))), (v0, .inr (13, fw0)), (v1, .inr (13, fw1)), (v2, .inr (13, fw2))])) (va_A [(h0, .inr (14, fs)), (ow, .inl (g 6, 4, .inr (.inr (.inr (.inr (va_up (va_up (va_up (va_up (fun _ => none) 0 (some v0)) 1 (some v1)) 2 (some v2)) 3 (some v3))))))), (v0, .inr (13, fw0)), (v1, .inr (13, fw1)), (v2, .inr (13, fw2))] sz)) 0 0 (va_A [(h0, .inr (14, fs)), (ow, .inl (g 6, 4, .inr (.inr (.inr (.inr (va_up (va_up (va_up (va_up (fun _ => none) 0 (some v0)) 1 (some v1)) 2 (some v2)) 3 (some v3))))))), (v0, .inr (13, fw0)), (v1, .inr (13, fw1)), (v2, .inr (13, fw2))] sz) := by
  refine ofZ (by decide +kernel) (Nat.le_of_ble_eq_true rfl) ?_
  intro p e s m args below meth c A Q ls H locs G hsz hP hD hS hl hret
  subst hsz
  have hl : lv_has ls 2 [(0, .ref h0), (1, .int wn)] := hl
  refine lv_iload_n G.1 G.2.1 d_Mo_isWorld_0 rfl (lv_at hl 1 rfl) ?_
  refine lv_if_lt (tgt := 25) G.1 G.2.1 d_Mo_isWorld_1 (by decide) (fun c1 => ?_) (fun c1 => ?_)
  · skip
    refine lv_iconst (v := nI 0) G.1 G.2.1 d_Mo_isWorld_25 (by decide) ?_
    refine hret (nI 0) () _ _ _ _ _ ls (by decide) rfl (hP.sub [0, 1, 2, 3, 4] rfl) (hD.sub [0, 1, 2, 3, 4] (by decide) rfl) hS (Nat.le_of_ble_eq_true rfl) (Nat.le_of_ble_eq_true rfl) d_Mo_isWorld_26
  · skip
    refine lv_iload_n G.1 G.2.1 d_Mo_isWorld_4 rfl (lv_at hl 1 rfl) ?_
    refine lv_iconst (v := nI 3) G.1 G.2.1 d_Mo_isWorld_5 (by decide) ?_
    refine lv_icmp_ge (tgt := 25) G.1 G.2.1 d_Mo_isWorld_6 (by decide) (fun c6 => ?_) (fun c6 => ?_)
    · skip
      refine lv_iconst (v := nI 0) G.1 G.2.1 d_Mo_isWorld_25 (by decide) ?_
      refine hret (nI 0) () _ _ _ _ _ ls (by decide) rfl (hP.sub [0, 1, 2, 3, 4] rfl) (hD.sub [0, 1, 2, 3, 4] (by decide) rfl) hS (Nat.le_of_ble_eq_true rfl) (Nat.le_of_ble_eq_true rfl) d_Mo_isWorld_26
    · skip
      rcases cases3 c1 c6 with hcs | hcs | hcs
      · subst hcs
        have hl : lv_has ls 2 [(0, .ref h0), (1, .int (nI 0))] := hl
        refine lv_aload_n G.1 G.2.1 d_Mo_isWorld_9 rfl (lv_at hl 0 rfl) ?_
        refine kg (ci := 14) (v := .ref ow) G iMo hP 0 rfl rfl 44 (by decide) q3108 rfl gk0 d_Mo_isWorld_10 ?_
        refine lv_iload_n G.1 G.2.1 d_Mo_isWorld_13 rfl (lv_at hl 1 rfl) ?_
        refine kqald G hP 1 6 rfl rfl (by omega) (by omega) d_Mo_isWorld_14 ?_
        refine tpst (w := [.ref v0]) rfl ?_
        refine kgN (ci := 13) (v := .int (nI 0)) G iMw hP 2 rfl rfl 0 (by decide) q2706 rfl gt0 d_Mo_isWorld_15 ?_
        refine lv_if_eq (tgt := 25) G.1 G.2.1 d_Mo_isWorld_18 (by decide) (fun c18 => ?_) (fun c18 => absurd c18 (by decide))
        refine W.eq (g2 := F0 m 25 ls []) rfl ?_
        refine lv_iconst (v := nI 0) G.1 G.2.1 d_Mo_isWorld_25 (by decide) ?_
        refine hret (nI 0) () _ _ _ _ _ ls (by decide) rfl (hP.sub [0, 1, 2, 3, 4] rfl) (hD.sub [0, 1, 2, 3, 4] (by decide) rfl) hS (Nat.le_of_ble_eq_true rfl) (Nat.le_of_ble_eq_true rfl) d_Mo_isWorld_26
      · subst hcs
        have hl : lv_has ls 2 [(0, .ref h0), (1, .int (nI 1))] := hl
        refine lv_aload_n G.1 G.2.1 d_Mo_isWorld_9 rfl (lv_at hl 0 rfl) ?_
        refine kg (ci := 14) (v := .ref ow) G iMo hP 0 rfl rfl 44 (by decide) q3108 rfl gk0 d_Mo_isWorld_10 ?_
        refine lv_iload_n G.1 G.2.1 d_Mo_isWorld_13 rfl (lv_at hl 1 rfl) ?_
        refine kqald G hP 1 6 rfl rfl (by omega) (by omega) d_Mo_isWorld_14 ?_
        refine tpst (w := [.ref v1]) rfl ?_
        refine kgN (ci := 13) (v := .int (nI 0)) G iMw hP 3 rfl rfl 0 (by decide) q2706 rfl gt1 d_Mo_isWorld_15 ?_
        refine lv_if_eq (tgt := 25) G.1 G.2.1 d_Mo_isWorld_18 (by decide) (fun c18 => ?_) (fun c18 => absurd c18 (by decide))
        refine W.eq (g2 := F0 m 25 ls []) rfl ?_
        refine lv_iconst (v := nI 0) G.1 G.2.1 d_Mo_isWorld_25 (by decide) ?_
        refine hret (nI 0) () _ _ _ _ _ ls (by decide) rfl (hP.sub [0, 1, 2, 3, 4] rfl) (hD.sub [0, 1, 2, 3, 4] (by decide) rfl) hS (Nat.le_of_ble_eq_true rfl) (Nat.le_of_ble_eq_true rfl) d_Mo_isWorld_26
      · subst hcs
        have hl : lv_has ls 2 [(0, .ref h0), (1, .int (nI 2))] := hl
        refine lv_aload_n G.1 G.2.1 d_Mo_isWorld_9 rfl (lv_at hl 0 rfl) ?_
        refine kg (ci := 14) (v := .ref ow) G iMo hP 0 rfl rfl 44 (by decide) q3108 rfl gk0 d_Mo_isWorld_10 ?_
        refine lv_iload_n G.1 G.2.1 d_Mo_isWorld_13 rfl (lv_at hl 1 rfl) ?_
        refine kqald G hP 1 6 rfl rfl (by omega) (by omega) d_Mo_isWorld_14 ?_
        refine tpst (w := [.ref v2]) rfl ?_
        refine kgN (ci := 13) (v := .int (nI 0)) G iMw hP 4 rfl rfl 0 (by decide) q2706 rfl gt2 d_Mo_isWorld_15 ?_
        refine lv_if_eq (tgt := 25) G.1 G.2.1 d_Mo_isWorld_18 (by decide) (fun c18 => ?_) (fun c18 => absurd c18 (by decide))
        refine W.eq (g2 := F0 m 25 ls []) rfl ?_
        refine lv_iconst (v := nI 0) G.1 G.2.1 d_Mo_isWorld_25 (by decide) ?_
        refine hret (nI 0) () _ _ _ _ _ ls (by decide) rfl (hP.sub [0, 1, 2, 3, 4] rfl) (hD.sub [0, 1, 2, 3, 4] (by decide) rfl) hS (Nat.le_of_ble_eq_true rfl) (Nat.le_of_ble_eq_true rfl) d_Mo_isWorld_26
def y_Mo_isClass : MethodName := ⟨"ClassWorksModel", "isClass", "(II)Z"⟩
abbrev b_Mo_isClass : ByteArray := prog_14_method_128_code
theorem q3485 : Cond.code y_Mo_isWorld b_Mo_isWorld 2 (some (.boolean)) ∈ lw_ok := lw_okmem (List.mem_of_getElem? (i := 3485) (by decide +kernel)) rfl
theorem q3484 : Cond.instanceMethod y_Mo_isWorld ∈ lw_ok := lw_okmem (List.mem_of_getElem? (i := 3484) (by decide +kernel)) rfl
theorem q177 : Cond.selects y_Mo_isWorld.cls y_Mo_isWorld y_Mo_isWorld ∈ lw_ok := lw_okmem (List.mem_of_getElem? (i := 177) (by decide +kernel)) rfl
theorem w_Mo_isWorld : CWv y_Mo_isWorld b_Mo_isWorld 2 (some (.boolean)) 1 ∧ Cond.instanceMethod y_Mo_isWorld ∈ lw_ok ∧ Cond.selects y_Mo_isWorld.cls y_Mo_isWorld y_Mo_isWorld ∈ lw_ok := ⟨⟨q3485, q348, by decide +kernel, by decide +kernel, by decide +kernel⟩, q3484, q177⟩
theorem q3482 : Cond.methodLink "ClassWorksModel" 1118 y_Mo_isWorld ∈ lw_ok := lw_okmem (List.mem_of_getElem? (i := 3482) (by decide +kernel)) rfl
theorem d_Mo_isClass_0 : decode b_Mo_isClass 0 = .ok (.aload_n 0, 1) := by decide +kernel
theorem d_Mo_isClass_1 : decode b_Mo_isClass 1 = .ok (.iload_n 1, 1) := by decide +kernel
theorem d_Mo_isClass_2 : decode b_Mo_isClass 2 = .ok (.invokevirtual 1118, 3) := by decide +kernel
theorem d_Mo_isClass_5 : decode b_Mo_isClass 5 = .ok (.ifCond .eq 24, 3) := by decide +kernel
theorem d_Mo_isClass_29 : decode b_Mo_isClass 29 = .ok (.iconst 0, 1) := by decide +kernel
theorem d_Mo_isClass_30 : decode b_Mo_isClass 30 = .ok (.ireturn, 1) := by decide +kernel
abbrev rm_Mo_isClass : Room := { frames := 1, cells := 0, slots := 0, locals := 21 }
set_option maxHeartbeats 4000000 in
set_option maxRecDepth 100000 in
/-- isClass -/
theorem c_Mo_isClass (l : Launch) (D : va_G) (g : Nat → ClassId) (h0 : Nat) (wn : Int32) (cn : Int32) (fs : List Value) (ow : Nat) (v0 : Nat) (v1 : Nat) (v2 : Nat) (v3 : Nat) (fw0 : List Value) (fw1 : List Value) (fw2 : List Value) (sz : Nat) (glen : fs.length = 131) (gk0 : fs[44]? = some (.ref ow)) (gw0 : fw0.length = 72) (gt0 : fw0[0]? = some (.int (nI 0))) (gw1 : fw1.length = 72) (gt1 : fw1[0]? = some (.int (nI 0))) (gw2 : fw2.length = 72) (gt2 : fw2[0]? = some (.int (nI 0)))  : Met l y_Mo_isClass (mw y_Mo_isClass b_Mo_isClass 3 (some (.boolean))) (rm_Mo_isClass) (PC g D [] [.ref h0, .int wn, .int cn] sz [(h0, .inr (14, fs)), (ow, .inl (g 6, 4, .inr (.inr (.inr (.inr (va_up (va_up (va_up (va_up (fun _ => none) 0 (some v0)) 1 (some v1)) 2 (some v2)) 3 (some v3))))))), (v0, .inr (13, fw0)), (v1, .inr (13, fw1)), (v2, .inr (13, fw2))]) (va_Qi (fun (r : Int32) (u : Unit) => r = nI 0) (QW D (va_A [(h0, .inr (14, fs)), (ow, .inl (g 6, 4, .inr (.inr (.inr (.inr (va_up (va_up (va_up (va_up (fun _ => none) 0 (some v0)) 1 (some v1)) 2 (some v2)) 3 (some v3))))))), (v0, .inr (13, fw0)), (v1, .inr (13, fw1)), (v2, .inr (13, fw2))] sz) (fun u : Unit => [(h0, .inr (14, fs)), (ow, .inl (g 6, 4, .inr (.inr (.inr (.inr (va_up (va_up (va_up (va_up (fun _ => none) 0 (some v0)) 1 (some v1)) 2 (some v2)) 3 (some v3))))))), (v0, .inr (13, fw0)), (v1, .inr (13, fw1)), (v2, .inr (13, fw2))])) (va_A [(h0, .inr (14, fs)), (ow, .inl (g 6, 4, .inr (.inr (.inr (.inr (va_up (va_up (va_up (va_up (fun _ => none) 0 (some v0)) 1 (some v1)) 2 (some v2)) 3 (some v3))))))), (v0, .inr (13, fw0)), (v1, .inr (13, fw1)), (v2, .inr (13, fw2))] sz)) 0 0 (va_A [(h0, .inr (14, fs)), (ow, .inl (g 6, 4, .inr (.inr (.inr (.inr (va_up (va_up (va_up (va_up (fun _ => none) 0 (some v0)) 1 (some v1)) 2 (some v2)) 3 (some v3))))))), (v0, .inr (13, fw0)), (v1, .inr (13, fw1)), (v2, .inr (13, fw2))] sz) := by
  refine ofZ (by decide +kernel) (Nat.le_of_ble_eq_true rfl) ?_
  intro p e s m args below meth c A Q ls H locs G hsz hP hD hS hl hret
  subst hsz
  have hl : lv_has ls 3 [(0, .ref h0), (1, .int wn), (2, .int cn)] := hl
  refine lv_aload_n G.1 G.2.1 d_Mo_isClass_0 rfl (lv_at hl 0 rfl) ?_
  refine lv_iload_n G.1 G.2.1 d_Mo_isClass_1 rfl (lv_at hl 1 rfl) ?_
  refine kEi (wr := []) G (kV (As := [.int wn]) (rest := []) G hP hD hS [0, 1, 2, 3, 4] rfl rfl (c_Mo_isWorld l D g h0 wn fs ow v0 v1 v2 v3 fw0 fw1 fw2 H.size glen gk0 gw0 gt0 gw1 gt1 gw2 gt2) w_Mo_isWorld q3482 rfl rfl ⟨Nat.le_of_ble_eq_true rfl, Nat.le_of_ble_eq_true rfl⟩ (fun _ h => absurd h List.not_mem_nil) 0 (ci := 14) rfl rfl rfl hl.1 rfl (Nat.le_of_ble_eq_true rfl) rfl ⟨Nat.le_of_ble_eq_true rfl, (Nat.le_of_ble_eq_true rfl)⟩ d_Mo_isClass_2) hP hD hS [0, 1, 2, 3, 4] [] rfl rfl rfl rfl (fun r_1 u_2 H locs hw hP hD hS hzH => ?_)
  have hw : r_1 = nI 0 := hw
  have hP : va_P D CL [(h0, .inr (14, fs)), (ow, .inl (g 6, 4, .inr (.inr (.inr (.inr (va_up (va_up (va_up (va_up (fun _ => none) 0 (some v0)) 1 (some v1)) 2 (some v2)) 3 (some v3))))))), (v0, .inr (13, fw0)), (v1, .inr (13, fw1)), (v2, .inr (13, fw2))] H := hP
  have hD : va_D A [(h0, .inr (14, fs)), (ow, .inl (g 6, 4, .inr (.inr (.inr (.inr (va_up (va_up (va_up (va_up (fun _ => none) 0 (some v0)) 1 (some v1)) 2 (some v2)) 3 (some v3))))))), (v0, .inr (13, fw0)), (v1, .inr (13, fw1)), (v2, .inr (13, fw2))] := hD
  subst hw
  refine tpst (w := [.int (nI 0)]) rfl ?_
  refine lv_if_eq (tgt := 29) G.1 G.2.1 d_Mo_isClass_5 (by decide) (fun c5 => ?_) (fun c5 => absurd c5 (by decide))
  refine lv_iconst (v := nI 0) G.1 G.2.1 d_Mo_isClass_29 (by decide) ?_
  refine hret (nI 0) () _ _ _ _ _ ls (by decide) rfl (hP.sub [0, 1, 2, 3, 4] rfl) (hD.sub [0, 1, 2, 3, 4] (by decide) rfl) hS (Nat.le_of_ble_eq_true rfl) (Nat.le_of_ble_eq_true rfl) d_Mo_isClass_30
def y_Mo_isTrial : MethodName := ⟨"ClassWorksModel", "isTrial", "(I)Z"⟩
abbrev b_Mo_isTrial : ByteArray := prog_14_method_198_code
theorem q3185 : Cond.fieldLink "ClassWorksModel" 1314 "ClassWorksModel" "trials" "I" ∈ lw_ok := lw_okmem (List.mem_of_getElem? (i := 3185) (by decide +kernel)) rfl
theorem d_Mo_isTrial_0 : decode b_Mo_isTrial 0 = .ok (.iload_n 1, 1) := by decide +kernel
theorem d_Mo_isTrial_1 : decode b_Mo_isTrial 1 = .ok (.ifCond .lt 15, 3) := by decide +kernel
theorem d_Mo_isTrial_4 : decode b_Mo_isTrial 4 = .ok (.iload_n 1, 1) := by decide +kernel
theorem d_Mo_isTrial_5 : decode b_Mo_isTrial 5 = .ok (.aload_n 0, 1) := by decide +kernel
theorem d_Mo_isTrial_6 : decode b_Mo_isTrial 6 = .ok (.getfield 1314, 3) := by decide +kernel
theorem d_Mo_isTrial_9 : decode b_Mo_isTrial 9 = .ok (.if_icmp .ge 7, 3) := by decide +kernel
theorem d_Mo_isTrial_16 : decode b_Mo_isTrial 16 = .ok (.iconst 0, 1) := by decide +kernel
theorem d_Mo_isTrial_17 : decode b_Mo_isTrial 17 = .ok (.ireturn, 1) := by decide +kernel
abbrev rm_Mo_isTrial : Room := { frames := 0, cells := 0, slots := 0, locals := 0 }
set_option maxHeartbeats 4000000 in
set_option maxRecDepth 100000 in
/-- isTrial -/
theorem c_Mo_isTrial (l : Launch) (D : va_G) (g : Nat → ClassId) (h0 : Nat) (tn : Int32) (fs : List Value) (sz : Nat) (glen : fs.length = 131) (gk0 : fs[121]? = some (.int (nI 0)))  : Met l y_Mo_isTrial (mw y_Mo_isTrial b_Mo_isTrial 2 (some (.boolean))) (rm_Mo_isTrial) (PC g D [] [.ref h0, .int tn] sz [(h0, .inr (14, fs))]) (va_Qi (fun (r : Int32) (u : Unit) => r = nI 0) (QW D (va_A [(h0, .inr (14, fs))] sz) (fun u : Unit => [(h0, .inr (14, fs))])) (va_A [(h0, .inr (14, fs))] sz)) 0 0 (va_A [(h0, .inr (14, fs))] sz) := by
  refine ofZ (by decide +kernel) (Nat.le_of_ble_eq_true rfl) ?_
  intro p e s m args below meth c A Q ls H locs G hsz hP hD hS hl hret
  subst hsz
  have hl : lv_has ls 2 [(0, .ref h0), (1, .int tn)] := hl
  refine lv_iload_n G.1 G.2.1 d_Mo_isTrial_0 rfl (lv_at hl 1 rfl) ?_
  refine lv_if_lt (tgt := 16) G.1 G.2.1 d_Mo_isTrial_1 (by decide) (fun c1 => ?_) (fun c1 => ?_)
  · skip
    refine lv_iconst (v := nI 0) G.1 G.2.1 d_Mo_isTrial_16 (by decide) ?_
    refine hret (nI 0) () _ _ _ _ _ ls (by decide) rfl (hP.sub [0] rfl) (hD.sub [0] (by decide) rfl) hS (Nat.le_of_ble_eq_true rfl) (Nat.le_of_ble_eq_true rfl) d_Mo_isTrial_17
  · skip
    refine lv_iload_n G.1 G.2.1 d_Mo_isTrial_4 rfl (lv_at hl 1 rfl) ?_
    refine lv_aload_n G.1 G.2.1 d_Mo_isTrial_5 rfl (lv_at hl 0 rfl) ?_
    refine kg (ci := 14) (v := .int (nI 0)) G iMo hP 0 rfl rfl 121 (by decide) q3185 rfl gk0 d_Mo_isTrial_6 ?_
    refine lv_icmp_ge (tgt := 16) G.1 G.2.1 d_Mo_isTrial_9 (by decide) (fun c9 => ?_) (fun c9 => absurd c9 (fun h => h (i_nn c1)))
    refine lv_iconst (v := nI 0) G.1 G.2.1 d_Mo_isTrial_16 (by decide) ?_
    refine hret (nI 0) () _ _ _ _ _ ls (by decide) rfl (hP.sub [0] rfl) (hD.sub [0] (by decide) rfl) hS (Nat.le_of_ble_eq_true rfl) (Nat.le_of_ble_eq_true rfl) d_Mo_isTrial_17
def y_Mo_drop : MethodName := ⟨"ClassWorksModel", "drop", "(I)I"⟩
abbrev b_Mo_drop : ByteArray := prog_14_method_130_code
theorem d_Mo_drop_0 : decode b_Mo_drop 0 = .ok (.aload_n 0, 1) := by decide +kernel
theorem d_Mo_drop_1 : decode b_Mo_drop 1 = .ok (.iload_n 1, 1) := by decide +kernel
theorem d_Mo_drop_2 : decode b_Mo_drop 2 = .ok (.invokevirtual 1118, 3) := by decide +kernel
theorem d_Mo_drop_5 : decode b_Mo_drop 5 = .ok (.ifCond .ne 5, 3) := by decide +kernel
theorem d_Mo_drop_8 : decode b_Mo_drop 8 = .ok (.iconst (-1), 1) := by decide +kernel
theorem d_Mo_drop_9 : decode b_Mo_drop 9 = .ok (.ireturn, 1) := by decide +kernel
abbrev rm_Mo_drop : Room := { frames := 1, cells := 0, slots := 0, locals := 21 }
set_option maxHeartbeats 4000000 in
set_option maxRecDepth 100000 in
/-- drop -/
theorem c_Mo_drop (l : Launch) (D : va_G) (g : Nat → ClassId) (h0 : Nat) (a1 : Int32) (fs : List Value) (ow : Nat) (v0 : Nat) (v1 : Nat) (v2 : Nat) (v3 : Nat) (fw0 : List Value) (fw1 : List Value) (fw2 : List Value) (sz : Nat) (glen : fs.length = 131) (gk0 : fs[44]? = some (.ref ow)) (gw0 : fw0.length = 72) (gt0 : fw0[0]? = some (.int (nI 0))) (gw1 : fw1.length = 72) (gt1 : fw1[0]? = some (.int (nI 0))) (gw2 : fw2.length = 72) (gt2 : fw2[0]? = some (.int (nI 0)))  : Met l y_Mo_drop (mw y_Mo_drop b_Mo_drop 2 (some .int)) (rm_Mo_drop) (PC g D [] [.ref h0, .int a1] sz [(h0, .inr (14, fs)), (ow, .inl (g 6, 4, .inr (.inr (.inr (.inr (va_up (va_up (va_up (va_up (fun _ => none) 0 (some v0)) 1 (some v1)) 2 (some v2)) 3 (some v3))))))), (v0, .inr (13, fw0)), (v1, .inr (13, fw1)), (v2, .inr (13, fw2))]) (va_Qi (fun (r : Int32) (u : Unit) => r = (-1)) (QW D (va_A [(h0, .inr (14, fs)), (ow, .inl (g 6, 4, .inr (.inr (.inr (.inr (va_up (va_up (va_up (va_up (fun _ => none) 0 (some v0)) 1 (some v1)) 2 (some v2)) 3 (some v3))))))), (v0, .inr (13, fw0)), (v1, .inr (13, fw1)), (v2, .inr (13, fw2))] sz) (fun u : Unit => [])) (va_A [(h0, .inr (14, fs)), (ow, .inl (g 6, 4, .inr (.inr (.inr (.inr (va_up (va_up (va_up (va_up (fun _ => none) 0 (some v0)) 1 (some v1)) 2 (some v2)) 3 (some v3))))))), (v0, .inr (13, fw0)), (v1, .inr (13, fw1)), (v2, .inr (13, fw2))] sz)) 0 0 (va_A [(h0, .inr (14, fs)), (ow, .inl (g 6, 4, .inr (.inr (.inr (.inr (va_up (va_up (va_up (va_up (fun _ => none) 0 (some v0)) 1 (some v1)) 2 (some v2)) 3 (some v3))))))), (v0, .inr (13, fw0)), (v1, .inr (13, fw1)), (v2, .inr (13, fw2))] sz) := by
  refine ofI (by decide +kernel) (Nat.le_of_ble_eq_true rfl) ?_
  intro p e s m args below meth c A Q ls H locs G hsz hP hD hS hl hret
  subst hsz
  have hl : lv_has ls 2 [(0, .ref h0), (1, .int a1)] := hl
  refine lv_aload_n G.1 G.2.1 d_Mo_drop_0 rfl (lv_at hl 0 rfl) ?_
  refine lv_iload_n G.1 G.2.1 d_Mo_drop_1 rfl (lv_at hl 1 rfl) ?_
  refine kEi (wr := []) G (kV (As := [.int a1]) (rest := []) G hP hD hS [0, 1, 2, 3, 4] rfl rfl (c_Mo_isWorld l D g h0 a1 fs ow v0 v1 v2 v3 fw0 fw1 fw2 H.size glen gk0 gw0 gt0 gw1 gt1 gw2 gt2) w_Mo_isWorld q3482 rfl rfl ⟨Nat.le_of_ble_eq_true rfl, Nat.le_of_ble_eq_true rfl⟩ (fun _ h => absurd h List.not_mem_nil) 0 (ci := 14) rfl rfl rfl hl.1 rfl (Nat.le_of_ble_eq_true rfl) rfl ⟨Nat.le_of_ble_eq_true rfl, (Nat.le_of_ble_eq_true rfl)⟩ d_Mo_drop_2) hP hD hS [0, 1, 2, 3, 4] [] rfl rfl rfl rfl (fun r_1 u_2 H locs hw hP hD hS hzH => ?_)
  have hw : r_1 = nI 0 := hw
  have hP : va_P D CL [(h0, .inr (14, fs)), (ow, .inl (g 6, 4, .inr (.inr (.inr (.inr (va_up (va_up (va_up (va_up (fun _ => none) 0 (some v0)) 1 (some v1)) 2 (some v2)) 3 (some v3))))))), (v0, .inr (13, fw0)), (v1, .inr (13, fw1)), (v2, .inr (13, fw2))] H := hP
  have hD : va_D A [(h0, .inr (14, fs)), (ow, .inl (g 6, 4, .inr (.inr (.inr (.inr (va_up (va_up (va_up (va_up (fun _ => none) 0 (some v0)) 1 (some v1)) 2 (some v2)) 3 (some v3))))))), (v0, .inr (13, fw0)), (v1, .inr (13, fw1)), (v2, .inr (13, fw2))] := hD
  subst hw
  refine tpst (w := [.int (nI 0)]) rfl ?_
  refine lv_if_ne (tgt := 10) G.1 G.2.1 d_Mo_drop_5 (by decide) (fun c5 => absurd c5 (by decide)) (fun c5 => ?_)
  refine lv_iconst (v := (-1)) G.1 G.2.1 d_Mo_drop_8 (by decide) ?_
  refine hret (-1) () _ _ _ _ _ ls rfl (hP.sub [] rfl) (hD.sub [] (by decide) rfl) hS (Nat.le_of_ble_eq_true rfl) (Nat.le_of_ble_eq_true rfl) d_Mo_drop_9
def y_Mo_define : MethodName := ⟨"ClassWorksModel", "define", "(I)I"⟩
abbrev b_Mo_define : ByteArray := prog_14_method_131_code
theorem d_Mo_define_0 : decode b_Mo_define 0 = .ok (.aload_n 0, 1) := by decide +kernel
theorem d_Mo_define_1 : decode b_Mo_define 1 = .ok (.iload_n 1, 1) := by decide +kernel
theorem d_Mo_define_2 : decode b_Mo_define 2 = .ok (.invokevirtual 1118, 3) := by decide +kernel
theorem d_Mo_define_5 : decode b_Mo_define 5 = .ok (.ifCond .ne 5, 3) := by decide +kernel
theorem d_Mo_define_8 : decode b_Mo_define 8 = .ok (.iconst (-1), 1) := by decide +kernel
theorem d_Mo_define_9 : decode b_Mo_define 9 = .ok (.ireturn, 1) := by decide +kernel
abbrev rm_Mo_define : Room := { frames := 1, cells := 0, slots := 0, locals := 21 }
set_option maxHeartbeats 4000000 in
set_option maxRecDepth 100000 in
/-- define -/
theorem c_Mo_define (l : Launch) (D : va_G) (g : Nat → ClassId) (h0 : Nat) (a1 : Int32) (fs : List Value) (ow : Nat) (v0 : Nat) (v1 : Nat) (v2 : Nat) (v3 : Nat) (fw0 : List Value) (fw1 : List Value) (fw2 : List Value) (sz : Nat) (glen : fs.length = 131) (gk0 : fs[44]? = some (.ref ow)) (gw0 : fw0.length = 72) (gt0 : fw0[0]? = some (.int (nI 0))) (gw1 : fw1.length = 72) (gt1 : fw1[0]? = some (.int (nI 0))) (gw2 : fw2.length = 72) (gt2 : fw2[0]? = some (.int (nI 0)))  : Met l y_Mo_define (mw y_Mo_define b_Mo_define 3 (some .int)) (rm_Mo_define) (PC g D [] [.ref h0, .int a1] sz [(h0, .inr (14, fs)), (ow, .inl (g 6, 4, .inr (.inr (.inr (.inr (va_up (va_up (va_up (va_up (fun _ => none) 0 (some v0)) 1 (some v1)) 2 (some v2)) 3 (some v3))))))), (v0, .inr (13, fw0)), (v1, .inr (13, fw1)), (v2, .inr (13, fw2))]) (va_Qi (fun (r : Int32) (u : Unit) => r = (-1)) (QW D (va_A [(h0, .inr (14, fs)), (ow, .inl (g 6, 4, .inr (.inr (.inr (.inr (va_up (va_up (va_up (va_up (fun _ => none) 0 (some v0)) 1 (some v1)) 2 (some v2)) 3 (some v3))))))), (v0, .inr (13, fw0)), (v1, .inr (13, fw1)), (v2, .inr (13, fw2))] sz) (fun u : Unit => [])) (va_A [(h0, .inr (14, fs)), (ow, .inl (g 6, 4, .inr (.inr (.inr (.inr (va_up (va_up (va_up (va_up (fun _ => none) 0 (some v0)) 1 (some v1)) 2 (some v2)) 3 (some v3))))))), (v0, .inr (13, fw0)), (v1, .inr (13, fw1)), (v2, .inr (13, fw2))] sz)) 0 0 (va_A [(h0, .inr (14, fs)), (ow, .inl (g 6, 4, .inr (.inr (.inr (.inr (va_up (va_up (va_up (va_up (fun _ => none) 0 (some v0)) 1 (some v1)) 2 (some v2)) 3 (some v3))))))), (v0, .inr (13, fw0)), (v1, .inr (13, fw1)), (v2, .inr (13, fw2))] sz) := by
  refine ofI (by decide +kernel) (Nat.le_of_ble_eq_true rfl) ?_
  intro p e s m args below meth c A Q ls H locs G hsz hP hD hS hl hret
  subst hsz
  have hl : lv_has ls 3 [(0, .ref h0), (1, .int a1)] := hl
  refine lv_aload_n G.1 G.2.1 d_Mo_define_0 rfl (lv_at hl 0 rfl) ?_
  refine lv_iload_n G.1 G.2.1 d_Mo_define_1 rfl (lv_at hl 1 rfl) ?_
  refine kEi (wr := []) G (kV (As := [.int a1]) (rest := []) G hP hD hS [0, 1, 2, 3, 4] rfl rfl (c_Mo_isWorld l D g h0 a1 fs ow v0 v1 v2 v3 fw0 fw1 fw2 H.size glen gk0 gw0 gt0 gw1 gt1 gw2 gt2) w_Mo_isWorld q3482 rfl rfl ⟨Nat.le_of_ble_eq_true rfl, Nat.le_of_ble_eq_true rfl⟩ (fun _ h => absurd h List.not_mem_nil) 0 (ci := 14) rfl rfl rfl hl.1 rfl (Nat.le_of_ble_eq_true rfl) rfl ⟨Nat.le_of_ble_eq_true rfl, (Nat.le_of_ble_eq_true rfl)⟩ d_Mo_define_2) hP hD hS [0, 1, 2, 3, 4] [] rfl rfl rfl rfl (fun r_1 u_2 H locs hw hP hD hS hzH => ?_)
  have hw : r_1 = nI 0 := hw
  have hP : va_P D CL [(h0, .inr (14, fs)), (ow, .inl (g 6, 4, .inr (.inr (.inr (.inr (va_up (va_up (va_up (va_up (fun _ => none) 0 (some v0)) 1 (some v1)) 2 (some v2)) 3 (some v3))))))), (v0, .inr (13, fw0)), (v1, .inr (13, fw1)), (v2, .inr (13, fw2))] H := hP
  have hD : va_D A [(h0, .inr (14, fs)), (ow, .inl (g 6, 4, .inr (.inr (.inr (.inr (va_up (va_up (va_up (va_up (fun _ => none) 0 (some v0)) 1 (some v1)) 2 (some v2)) 3 (some v3))))))), (v0, .inr (13, fw0)), (v1, .inr (13, fw1)), (v2, .inr (13, fw2))] := hD
  subst hw
  refine tpst (w := [.int (nI 0)]) rfl ?_
  refine lv_if_ne (tgt := 10) G.1 G.2.1 d_Mo_define_5 (by decide) (fun c5 => absurd c5 (by decide)) (fun c5 => ?_)
  refine lv_iconst (v := (-1)) G.1 G.2.1 d_Mo_define_8 (by decide) ?_
  refine hret (-1) () _ _ _ _ _ ls rfl (hP.sub [] rfl) (hD.sub [] (by decide) rfl) hS (Nat.le_of_ble_eq_true rfl) (Nat.le_of_ble_eq_true rfl) d_Mo_define_9
def y_Mo_classes : MethodName := ⟨"ClassWorksModel", "classes", "(I)I"⟩
abbrev b_Mo_classes : ByteArray := prog_14_method_133_code
theorem d_Mo_classes_0 : decode b_Mo_classes 0 = .ok (.aload_n 0, 1) := by decide +kernel
theorem d_Mo_classes_1 : decode b_Mo_classes 1 = .ok (.iload_n 1, 1) := by decide +kernel
theorem d_Mo_classes_2 : decode b_Mo_classes 2 = .ok (.invokevirtual 1118, 3) := by decide +kernel
theorem d_Mo_classes_5 : decode b_Mo_classes 5 = .ok (.ifCond .eq 18, 3) := by decide +kernel
theorem d_Mo_classes_23 : decode b_Mo_classes 23 = .ok (.iconst (-1), 1) := by decide +kernel
theorem d_Mo_classes_24 : decode b_Mo_classes 24 = .ok (.ireturn, 1) := by decide +kernel
abbrev rm_Mo_classes : Room := { frames := 1, cells := 0, slots := 0, locals := 21 }
set_option maxHeartbeats 4000000 in
set_option maxRecDepth 100000 in
/-- classes -/
theorem c_Mo_classes (l : Launch) (D : va_G) (g : Nat → ClassId) (h0 : Nat) (a1 : Int32) (fs : List Value) (ow : Nat) (v0 : Nat) (v1 : Nat) (v2 : Nat) (v3 : Nat) (fw0 : List Value) (fw1 : List Value) (fw2 : List Value) (sz : Nat) (glen : fs.length = 131) (gk0 : fs[44]? = some (.ref ow)) (gw0 : fw0.length = 72) (gt0 : fw0[0]? = some (.int (nI 0))) (gw1 : fw1.length = 72) (gt1 : fw1[0]? = some (.int (nI 0))) (gw2 : fw2.length = 72) (gt2 : fw2[0]? = some (.int (nI 0)))  : Met l y_Mo_classes (mw y_Mo_classes b_Mo_classes 2 (some .int)) (rm_Mo_classes) (PC g D [] [.ref h0, .int a1] sz [(h0, .inr (14, fs)), (ow, .inl (g 6, 4, .inr (.inr (.inr (.inr (va_up (va_up (va_up (va_up (fun _ => none) 0 (some v0)) 1 (some v1)) 2 (some v2)) 3 (some v3))))))), (v0, .inr (13, fw0)), (v1, .inr (13, fw1)), (v2, .inr (13, fw2))]) (va_Qi (fun (r : Int32) (u : Unit) => r = (-1)) (QW D (va_A [(h0, .inr (14, fs)), (ow, .inl (g 6, 4, .inr (.inr (.inr (.inr (va_up (va_up (va_up (va_up (fun _ => none) 0 (some v0)) 1 (some v1)) 2 (some v2)) 3 (some v3))))))), (v0, .inr (13, fw0)), (v1, .inr (13, fw1)), (v2, .inr (13, fw2))] sz) (fun u : Unit => [])) (va_A [(h0, .inr (14, fs)), (ow, .inl (g 6, 4, .inr (.inr (.inr (.inr (va_up (va_up (va_up (va_up (fun _ => none) 0 (some v0)) 1 (some v1)) 2 (some v2)) 3 (some v3))))))), (v0, .inr (13, fw0)), (v1, .inr (13, fw1)), (v2, .inr (13, fw2))] sz)) 0 0 (va_A [(h0, .inr (14, fs)), (ow, .inl (g 6, 4, .inr (.inr (.inr (.inr (va_up (va_up (va_up (va_up (fun _ => none) 0 (some v0)) 1 (some v1)) 2 (some v2)) 3 (some v3))))))), (v0, .inr (13, fw0)), (v1, .inr (13, fw1)), (v2, .inr (13, fw2))] sz) := by
  refine ofI (by decide +kernel) (Nat.le_of_ble_eq_true rfl) ?_
  intro p e s m args below meth c A Q ls H locs G hsz hP hD hS hl hret
  subst hsz
  have hl : lv_has ls 2 [(0, .ref h0), (1, .int a1)] := hl
  refine lv_aload_n G.1 G.2.1 d_Mo_classes_0 rfl (lv_at hl 0 rfl) ?_
  refine lv_iload_n G.1 G.2.1 d_Mo_classes_1 rfl (lv_at hl 1 rfl) ?_
  refine kEi (wr := []) G (kV (As := [.int a1]) (rest := []) G hP hD hS [0, 1, 2, 3, 4] rfl rfl (c_Mo_isWorld l D g h0 a1 fs ow v0 v1 v2 v3 fw0 fw1 fw2 H.size glen gk0 gw0 gt0 gw1 gt1 gw2 gt2) w_Mo_isWorld q3482 rfl rfl ⟨Nat.le_of_ble_eq_true rfl, Nat.le_of_ble_eq_true rfl⟩ (fun _ h => absurd h List.not_mem_nil) 0 (ci := 14) rfl rfl rfl hl.1 rfl (Nat.le_of_ble_eq_true rfl) rfl ⟨Nat.le_of_ble_eq_true rfl, (Nat.le_of_ble_eq_true rfl)⟩ d_Mo_classes_2) hP hD hS [0, 1, 2, 3, 4] [] rfl rfl rfl rfl (fun r_1 u_2 H locs hw hP hD hS hzH => ?_)
  have hw : r_1 = nI 0 := hw
  have hP : va_P D CL [(h0, .inr (14, fs)), (ow, .inl (g 6, 4, .inr (.inr (.inr (.inr (va_up (va_up (va_up (va_up (fun _ => none) 0 (some v0)) 1 (some v1)) 2 (some v2)) 3 (some v3))))))), (v0, .inr (13, fw0)), (v1, .inr (13, fw1)), (v2, .inr (13, fw2))] H := hP
  have hD : va_D A [(h0, .inr (14, fs)), (ow, .inl (g 6, 4, .inr (.inr (.inr (.inr (va_up (va_up (va_up (va_up (fun _ => none) 0 (some v0)) 1 (some v1)) 2 (some v2)) 3 (some v3))))))), (v0, .inr (13, fw0)), (v1, .inr (13, fw1)), (v2, .inr (13, fw2))] := hD
  subst hw
  refine tpst (w := [.int (nI 0)]) rfl ?_
  refine lv_if_eq (tgt := 23) G.1 G.2.1 d_Mo_classes_5 (by decide) (fun c5 => ?_) (fun c5 => absurd c5 (by decide))
  refine lv_iconst (v := (-1)) G.1 G.2.1 d_Mo_classes_23 (by decide) ?_
  refine hret (-1) () _ _ _ _ _ ls rfl (hP.sub [] rfl) (hD.sub [] (by decide) rfl) hS (Nat.le_of_ble_eq_true rfl) (Nat.le_of_ble_eq_true rfl) d_Mo_classes_24
def y_Mo_told : MethodName := ⟨"ClassWorksModel", "told", "(III)I"⟩
abbrev b_Mo_told : ByteArray := prog_14_method_134_code
theorem q3664 : Cond.code y_Mo_isClass b_Mo_isClass 3 (some (.boolean)) ∈ lw_ok := lw_okmem (List.mem_of_getElem? (i := 3664) (by decide +kernel)) rfl
theorem q3663 : Cond.instanceMethod y_Mo_isClass ∈ lw_ok := lw_okmem (List.mem_of_getElem? (i := 3663) (by decide +kernel)) rfl
theorem q215 : Cond.selects y_Mo_isClass.cls y_Mo_isClass y_Mo_isClass ∈ lw_ok := lw_okmem (List.mem_of_getElem? (i := 215) (by decide +kernel)) rfl
theorem w_Mo_isClass : CWv y_Mo_isClass b_Mo_isClass 3 (some (.boolean)) 2 ∧ Cond.instanceMethod y_Mo_isClass ∈ lw_ok ∧ Cond.selects y_Mo_isClass.cls y_Mo_isClass y_Mo_isClass ∈ lw_ok := ⟨⟨q3664, q348, by decide +kernel, by decide +kernel, by decide +kernel⟩, q3663, q215⟩
theorem q3661 : Cond.methodLink "ClassWorksModel" 1129 y_Mo_isClass ∈ lw_ok := lw_okmem (List.mem_of_getElem? (i := 3661) (by decide +kernel)) rfl
theorem d_Mo_told_0 : decode b_Mo_told 0 = .ok (.aload_n 0, 1) := by decide +kernel
theorem d_Mo_told_1 : decode b_Mo_told 1 = .ok (.iload_n 1, 1) := by decide +kernel
theorem d_Mo_told_2 : decode b_Mo_told 2 = .ok (.iload_n 2, 1) := by decide +kernel
theorem d_Mo_told_3 : decode b_Mo_told 3 = .ok (.invokevirtual 1129, 3) := by decide +kernel
theorem d_Mo_told_6 : decode b_Mo_told 6 = .ok (.ifCond .eq 13, 3) := by decide +kernel
theorem d_Mo_told_19 : decode b_Mo_told 19 = .ok (.iconst (-1), 1) := by decide +kernel
theorem d_Mo_told_20 : decode b_Mo_told 20 = .ok (.ireturn, 1) := by decide +kernel
abbrev rm_Mo_told : Room := { frames := 2, cells := 0, slots := 0, locals := 43 }
set_option maxHeartbeats 4000000 in
set_option maxRecDepth 100000 in
/-- told -/
theorem c_Mo_told (l : Launch) (D : va_G) (g : Nat → ClassId) (h0 : Nat) (a1 : Int32) (a2 : Int32) (a3 : Int32) (fs : List Value) (ow : Nat) (v0 : Nat) (v1 : Nat) (v2 : Nat) (v3 : Nat) (fw0 : List Value) (fw1 : List Value) (fw2 : List Value) (sz : Nat) (glen : fs.length = 131) (gk0 : fs[44]? = some (.ref ow)) (gw0 : fw0.length = 72) (gt0 : fw0[0]? = some (.int (nI 0))) (gw1 : fw1.length = 72) (gt1 : fw1[0]? = some (.int (nI 0))) (gw2 : fw2.length = 72) (gt2 : fw2[0]? = some (.int (nI 0)))  : Met l y_Mo_told (mw y_Mo_told b_Mo_told 4 (some .int)) (rm_Mo_told) (PC g D [] [.ref h0, .int a1, .int a2, .int a3] sz [(h0, .inr (14, fs)), (ow, .inl (g 6, 4, .inr (.inr (.inr (.inr (va_up (va_up (va_up (va_up (fun _ => none) 0 (some v0)) 1 (some v1)) 2 (some v2)) 3 (some v3))))))), (v0, .inr (13, fw0)), (v1, .inr (13, fw1)), (v2, .inr (13, fw2))]) (va_Qi (fun (r : Int32) (u : Unit) => r = (-1)) (QW D (va_A [(h0, .inr (14, fs)), (ow, .inl (g 6, 4, .inr (.inr (.inr (.inr (va_up (va_up (va_up (va_up (fun _ => none) 0 (some v0)) 1 (some v1)) 2 (some v2)) 3 (some v3))))))), (v0, .inr (13, fw0)), (v1, .inr (13, fw1)), (v2, .inr (13, fw2))] sz) (fun u : Unit => [])) (va_A [(h0, .inr (14, fs)), (ow, .inl (g 6, 4, .inr (.inr (.inr (.inr (va_up (va_up (va_up (va_up (fun _ => none) 0 (some v0)) 1 (some v1)) 2 (some v2)) 3 (some v3))))))), (v0, .inr (13, fw0)), (v1, .inr (13, fw1)), (v2, .inr (13, fw2))] sz)) 0 0 (va_A [(h0, .inr (14, fs)), (ow, .inl (g 6, 4, .inr (.inr (.inr (.inr (va_up (va_up (va_up (va_up (fun _ => none) 0 (some v0)) 1 (some v1)) 2 (some v2)) 3 (some v3))))))), (v0, .inr (13, fw0)), (v1, .inr (13, fw1)), (v2, .inr (13, fw2))] sz) := by
  refine ofI (by decide +kernel) (Nat.le_of_ble_eq_true rfl) ?_
  intro p e s m args below meth c A Q ls H locs G hsz hP hD hS hl hret
  subst hsz
  have hl : lv_has ls 4 [(0, .ref h0), (1, .int a1), (2, .int a2), (3, .int a3)] := hl
  refine lv_aload_n G.1 G.2.1 d_Mo_told_0 rfl (lv_at hl 0 rfl) ?_
  refine lv_iload_n G.1 G.2.1 d_Mo_told_1 rfl (lv_at hl 1 rfl) ?_
  refine lv_iload_n G.1 G.2.1 d_Mo_told_2 rfl (lv_at hl 2 rfl) ?_
  refine kEi (wr := []) G (kV (As := [.int a1, .int a2]) (rest := []) G hP hD hS [0, 1, 2, 3, 4] rfl rfl (c_Mo_isClass l D g h0 a1 a2 fs ow v0 v1 v2 v3 fw0 fw1 fw2 H.size glen gk0 gw0 gt0 gw1 gt1 gw2 gt2) w_Mo_isClass q3661 rfl rfl ⟨Nat.le_of_ble_eq_true rfl, Nat.le_of_ble_eq_true rfl⟩ (fun _ h => absurd h List.not_mem_nil) 0 (ci := 14) rfl rfl rfl hl.1 rfl (Nat.le_of_ble_eq_true rfl) rfl ⟨Nat.le_of_ble_eq_true rfl, (Nat.le_of_ble_eq_true rfl)⟩ d_Mo_told_3) hP hD hS [0, 1, 2, 3, 4] [] rfl rfl rfl rfl (fun r_1 u_2 H locs hw hP hD hS hzH => ?_)
  have hw : r_1 = nI 0 := hw
  have hP : va_P D CL [(h0, .inr (14, fs)), (ow, .inl (g 6, 4, .inr (.inr (.inr (.inr (va_up (va_up (va_up (va_up (fun _ => none) 0 (some v0)) 1 (some v1)) 2 (some v2)) 3 (some v3))))))), (v0, .inr (13, fw0)), (v1, .inr (13, fw1)), (v2, .inr (13, fw2))] H := hP
  have hD : va_D A [(h0, .inr (14, fs)), (ow, .inl (g 6, 4, .inr (.inr (.inr (.inr (va_up (va_up (va_up (va_up (fun _ => none) 0 (some v0)) 1 (some v1)) 2 (some v2)) 3 (some v3))))))), (v0, .inr (13, fw0)), (v1, .inr (13, fw1)), (v2, .inr (13, fw2))] := hD
  subst hw
  refine tpst (w := [.int (nI 0)]) rfl ?_
  refine lv_if_eq (tgt := 19) G.1 G.2.1 d_Mo_told_6 (by decide) (fun c6 => ?_) (fun c6 => absurd c6 (by decide))
  refine lv_iconst (v := (-1)) G.1 G.2.1 d_Mo_told_19 (by decide) ?_
  refine hret (-1) () _ _ _ _ _ ls rfl (hP.sub [] rfl) (hD.sub [] (by decide) rfl) hS (Nat.le_of_ble_eq_true rfl) (Nat.le_of_ble_eq_true rfl) d_Mo_told_20
def y_Mo_name : MethodName := ⟨"ClassWorksModel", "name", "(IIIII)I"⟩
abbrev b_Mo_name : ByteArray := prog_14_method_135_code
theorem d_Mo_name_0 : decode b_Mo_name 0 = .ok (.aload_n 0, 1) := by decide +kernel
theorem d_Mo_name_1 : decode b_Mo_name 1 = .ok (.iload_n 1, 1) := by decide +kernel
theorem d_Mo_name_2 : decode b_Mo_name 2 = .ok (.iload_n 2, 1) := by decide +kernel
theorem d_Mo_name_3 : decode b_Mo_name 3 = .ok (.invokevirtual 1129, 3) := by decide +kernel
theorem d_Mo_name_6 : decode b_Mo_name 6 = .ok (.ifCond .eq 18, 3) := by decide +kernel
theorem d_Mo_name_24 : decode b_Mo_name 24 = .ok (.iconst (-1), 1) := by decide +kernel
theorem d_Mo_name_25 : decode b_Mo_name 25 = .ok (.ireturn, 1) := by decide +kernel
abbrev rm_Mo_name : Room := { frames := 2, cells := 0, slots := 0, locals := 43 }
set_option maxHeartbeats 4000000 in
set_option maxRecDepth 100000 in
/-- name -/
theorem c_Mo_name (l : Launch) (D : va_G) (g : Nat → ClassId) (h0 : Nat) (a1 : Int32) (a2 : Int32) (a3 : Int32) (a4 : Int32) (a5 : Int32) (fs : List Value) (ow : Nat) (v0 : Nat) (v1 : Nat) (v2 : Nat) (v3 : Nat) (fw0 : List Value) (fw1 : List Value) (fw2 : List Value) (sz : Nat) (glen : fs.length = 131) (gk0 : fs[44]? = some (.ref ow)) (gw0 : fw0.length = 72) (gt0 : fw0[0]? = some (.int (nI 0))) (gw1 : fw1.length = 72) (gt1 : fw1[0]? = some (.int (nI 0))) (gw2 : fw2.length = 72) (gt2 : fw2[0]? = some (.int (nI 0)))  : Met l y_Mo_name (mw y_Mo_name b_Mo_name 8 (some .int)) (rm_Mo_name) (PC g D [] [.ref h0, .int a1, .int a2, .int a3, .int a4, .int a5] sz [(h0, .inr (14, fs)), (ow, .inl (g 6, 4, .inr (.inr (.inr (.inr (va_up (va_up (va_up (va_up (fun _ => none) 0 (some v0)) 1 (some v1)) 2 (some v2)) 3 (some v3))))))), (v0, .inr (13, fw0)), (v1, .inr (13, fw1)), (v2, .inr (13, fw2))]) (va_Qi (fun (r : Int32) (u : Unit) => r = (-1)) (QW D (va_A [(h0, .inr (14, fs)), (ow, .inl (g 6, 4, .inr (.inr (.inr (.inr (va_up (va_up (va_up (va_up (fun _ => none) 0 (some v0)) 1 (some v1)) 2 (some v2)) 3 (some v3))))))), (v0, .inr (13, fw0)), (v1, .inr (13, fw1)), (v2, .inr (13, fw2))] sz) (fun u : Unit => [])) (va_A [(h0, .inr (14, fs)), (ow, .inl (g 6, 4, .inr (.inr (.inr (.inr (va_up (va_up (va_up (va_up (fun _ => none) 0 (some v0)) 1 (some v1)) 2 (some v2)) 3 (some v3))))))), (v0, .inr (13, fw0)), (v1, .inr (13, fw1)), (v2, .inr (13, fw2))] sz)) 0 0 (va_A [(h0, .inr (14, fs)), (ow, .inl (g 6, 4, .inr (.inr (.inr (.inr (va_up (va_up (va_up (va_up (fun _ => none) 0 (some v0)) 1 (some v1)) 2 (some v2)) 3 (some v3))))))), (v0, .inr (13, fw0)), (v1, .inr (13, fw1)), (v2, .inr (13, fw2))] sz) := by
  refine ofI (by decide +kernel) (Nat.le_of_ble_eq_true rfl) ?_
  intro p e s m args below meth c A Q ls H locs G hsz hP hD hS hl hret
  subst hsz
  have hl : lv_has ls 8 [(0, .ref h0), (1, .int a1), (2, .int a2), (3, .int a3), (4, .int a4), (5, .int a5)] := hl
  refine lv_aload_n G.1 G.2.1 d_Mo_name_0 rfl (lv_at hl 0 rfl) ?_
  refine lv_iload_n G.1 G.2.1 d_Mo_name_1 rfl (lv_at hl 1 rfl) ?_
  refine lv_iload_n G.1 G.2.1 d_Mo_name_2 rfl (lv_at hl 2 rfl) ?_
  refine kEi (wr := []) G (kV (As := [.int a1, .int a2]) (rest := []) G hP hD hS [0, 1, 2, 3, 4] rfl rfl (c_Mo_isClass l D g h0 a1 a2 fs ow v0 v1 v2 v3 fw0 fw1 fw2 H.size glen gk0 gw0 gt0 gw1 gt1 gw2 gt2) w_Mo_isClass q3661 rfl rfl ⟨Nat.le_of_ble_eq_true rfl, Nat.le_of_ble_eq_true rfl⟩ (fun _ h => absurd h List.not_mem_nil) 0 (ci := 14) rfl rfl rfl hl.1 rfl (Nat.le_of_ble_eq_true rfl) rfl ⟨Nat.le_of_ble_eq_true rfl, (Nat.le_of_ble_eq_true rfl)⟩ d_Mo_name_3) hP hD hS [0, 1, 2, 3, 4] [] rfl rfl rfl rfl (fun r_1 u_2 H locs hw hP hD hS hzH => ?_)
  have hw : r_1 = nI 0 := hw
  have hP : va_P D CL [(h0, .inr (14, fs)), (ow, .inl (g 6, 4, .inr (.inr (.inr (.inr (va_up (va_up (va_up (va_up (fun _ => none) 0 (some v0)) 1 (some v1)) 2 (some v2)) 3 (some v3))))))), (v0, .inr (13, fw0)), (v1, .inr (13, fw1)), (v2, .inr (13, fw2))] H := hP
  have hD : va_D A [(h0, .inr (14, fs)), (ow, .inl (g 6, 4, .inr (.inr (.inr (.inr (va_up (va_up (va_up (va_up (fun _ => none) 0 (some v0)) 1 (some v1)) 2 (some v2)) 3 (some v3))))))), (v0, .inr (13, fw0)), (v1, .inr (13, fw1)), (v2, .inr (13, fw2))] := hD
  subst hw
  refine tpst (w := [.int (nI 0)]) rfl ?_
  refine lv_if_eq (tgt := 24) G.1 G.2.1 d_Mo_name_6 (by decide) (fun c6 => ?_) (fun c6 => absurd c6 (by decide))
  refine lv_iconst (v := (-1)) G.1 G.2.1 d_Mo_name_24 (by decide) ?_
  refine hret (-1) () _ _ _ _ _ ls rfl (hP.sub [] rfl) (hD.sub [] (by decide) rfl) hS (Nat.le_of_ble_eq_true rfl) (Nat.le_of_ble_eq_true rfl) d_Mo_name_25
def y_Mo_member : MethodName := ⟨"ClassWorksModel", "member", "(IIII)I"⟩
abbrev b_Mo_member : ByteArray := prog_14_method_136_code
theorem d_Mo_member_0 : decode b_Mo_member 0 = .ok (.aload_n 0, 1) := by decide +kernel
theorem d_Mo_member_1 : decode b_Mo_member 1 = .ok (.iload_n 1, 1) := by decide +kernel
theorem d_Mo_member_2 : decode b_Mo_member 2 = .ok (.iload_n 2, 1) := by decide +kernel
theorem d_Mo_member_3 : decode b_Mo_member 3 = .ok (.invokevirtual 1129, 3) := by decide +kernel
theorem d_Mo_member_6 : decode b_Mo_member 6 = .ok (.ifCond .eq 19, 3) := by decide +kernel
theorem d_Mo_member_25 : decode b_Mo_member 25 = .ok (.iconst (-1), 1) := by decide +kernel
theorem d_Mo_member_26 : decode b_Mo_member 26 = .ok (.ireturn, 1) := by decide +kernel
abbrev rm_Mo_member : Room := { frames := 2, cells := 0, slots := 0, locals := 43 }
set_option maxHeartbeats 4000000 in
set_option maxRecDepth 100000 in
/-- member -/
theorem c_Mo_member (l : Launch) (D : va_G) (g : Nat → ClassId) (h0 : Nat) (a1 : Int32) (a2 : Int32) (a3 : Int32) (a4 : Int32) (fs : List Value) (ow : Nat) (v0 : Nat) (v1 : Nat) (v2 : Nat) (v3 : Nat) (fw0 : List Value) (fw1 : List Value) (fw2 : List Value) (sz : Nat) (glen : fs.length = 131) (gk0 : fs[44]? = some (.ref ow)) (gw0 : fw0.length = 72) (gt0 : fw0[0]? = some (.int (nI 0))) (gw1 : fw1.length = 72) (gt1 : fw1[0]? = some (.int (nI 0))) (gw2 : fw2.length = 72) (gt2 : fw2[0]? = some (.int (nI 0)))  : Met l y_Mo_member (mw y_Mo_member b_Mo_member 8 (some .int)) (rm_Mo_member) (PC g D [] [.ref h0, .int a1, .int a2, .int a3, .int a4] sz [(h0, .inr (14, fs)), (ow, .inl (g 6, 4, .inr (.inr (.inr (.inr (va_up (va_up (va_up (va_up (fun _ => none) 0 (some v0)) 1 (some v1)) 2 (some v2)) 3 (some v3))))))), (v0, .inr (13, fw0)), (v1, .inr (13, fw1)), (v2, .inr (13, fw2))]) (va_Qi (fun (r : Int32) (u : Unit) => r = (-1)) (QW D (va_A [(h0, .inr (14, fs)), (ow, .inl (g 6, 4, .inr (.inr (.inr (.inr (va_up (va_up (va_up (va_up (fun _ => none) 0 (some v0)) 1 (some v1)) 2 (some v2)) 3 (some v3))))))), (v0, .inr (13, fw0)), (v1, .inr (13, fw1)), (v2, .inr (13, fw2))] sz) (fun u : Unit => [])) (va_A [(h0, .inr (14, fs)), (ow, .inl (g 6, 4, .inr (.inr (.inr (.inr (va_up (va_up (va_up (va_up (fun _ => none) 0 (some v0)) 1 (some v1)) 2 (some v2)) 3 (some v3))))))), (v0, .inr (13, fw0)), (v1, .inr (13, fw1)), (v2, .inr (13, fw2))] sz)) 0 0 (va_A [(h0, .inr (14, fs)), (ow, .inl (g 6, 4, .inr (.inr (.inr (.inr (va_up (va_up (va_up (va_up (fun _ => none) 0 (some v0)) 1 (some v1)) 2 (some v2)) 3 (some v3))))))), (v0, .inr (13, fw0)), (v1, .inr (13, fw1)), (v2, .inr (13, fw2))] sz) := by
  refine ofI (by decide +kernel) (Nat.le_of_ble_eq_true rfl) ?_
  intro p e s m args below meth c A Q ls H locs G hsz hP hD hS hl hret
  subst hsz
  have hl : lv_has ls 8 [(0, .ref h0), (1, .int a1), (2, .int a2), (3, .int a3), (4, .int a4)] := hl
  refine lv_aload_n G.1 G.2.1 d_Mo_member_0 rfl (lv_at hl 0 rfl) ?_
  refine lv_iload_n G.1 G.2.1 d_Mo_member_1 rfl (lv_at hl 1 rfl) ?_
  refine lv_iload_n G.1 G.2.1 d_Mo_member_2 rfl (lv_at hl 2 rfl) ?_
  refine kEi (wr := []) G (kV (As := [.int a1, .int a2]) (rest := []) G hP hD hS [0, 1, 2, 3, 4] rfl rfl (c_Mo_isClass l D g h0 a1 a2 fs ow v0 v1 v2 v3 fw0 fw1 fw2 H.size glen gk0 gw0 gt0 gw1 gt1 gw2 gt2) w_Mo_isClass q3661 rfl rfl ⟨Nat.le_of_ble_eq_true rfl, Nat.le_of_ble_eq_true rfl⟩ (fun _ h => absurd h List.not_mem_nil) 0 (ci := 14) rfl rfl rfl hl.1 rfl (Nat.le_of_ble_eq_true rfl) rfl ⟨Nat.le_of_ble_eq_true rfl, (Nat.le_of_ble_eq_true rfl)⟩ d_Mo_member_3) hP hD hS [0, 1, 2, 3, 4] [] rfl rfl rfl rfl (fun r_1 u_2 H locs hw hP hD hS hzH => ?_)
  have hw : r_1 = nI 0 := hw
  have hP : va_P D CL [(h0, .inr (14, fs)), (ow, .inl (g 6, 4, .inr (.inr (.inr (.inr (va_up (va_up (va_up (va_up (fun _ => none) 0 (some v0)) 1 (some v1)) 2 (some v2)) 3 (some v3))))))), (v0, .inr (13, fw0)), (v1, .inr (13, fw1)), (v2, .inr (13, fw2))] H := hP
  have hD : va_D A [(h0, .inr (14, fs)), (ow, .inl (g 6, 4, .inr (.inr (.inr (.inr (va_up (va_up (va_up (va_up (fun _ => none) 0 (some v0)) 1 (some v1)) 2 (some v2)) 3 (some v3))))))), (v0, .inr (13, fw0)), (v1, .inr (13, fw1)), (v2, .inr (13, fw2))] := hD
  subst hw
  refine tpst (w := [.int (nI 0)]) rfl ?_
  refine lv_if_eq (tgt := 25) G.1 G.2.1 d_Mo_member_6 (by decide) (fun c6 => ?_) (fun c6 => absurd c6 (by decide))
  refine lv_iconst (v := (-1)) G.1 G.2.1 d_Mo_member_25 (by decide) ?_
  refine hret (-1) () _ _ _ _ _ ls rfl (hP.sub [] rfl) (hD.sub [] (by decide) rfl) hS (Nat.le_of_ble_eq_true rfl) (Nat.le_of_ble_eq_true rfl) d_Mo_member_26
def y_Mo_link : MethodName := ⟨"ClassWorksModel", "link", "(II)I"⟩
abbrev b_Mo_link : ByteArray := prog_14_method_137_code
theorem d_Mo_link_0 : decode b_Mo_link 0 = .ok (.aload_n 0, 1) := by decide +kernel
theorem d_Mo_link_1 : decode b_Mo_link 1 = .ok (.iload_n 1, 1) := by decide +kernel
theorem d_Mo_link_2 : decode b_Mo_link 2 = .ok (.iload_n 2, 1) := by decide +kernel
theorem d_Mo_link_3 : decode b_Mo_link 3 = .ok (.invokevirtual 1129, 3) := by decide +kernel
theorem d_Mo_link_6 : decode b_Mo_link 6 = .ok (.ifCond .ne 5, 3) := by decide +kernel
theorem d_Mo_link_9 : decode b_Mo_link 9 = .ok (.iconst (-1), 1) := by decide +kernel
theorem d_Mo_link_10 : decode b_Mo_link 10 = .ok (.ireturn, 1) := by decide +kernel
abbrev rm_Mo_link : Room := { frames := 2, cells := 0, slots := 0, locals := 43 }
set_option maxHeartbeats 4000000 in
set_option maxRecDepth 100000 in
/-- link -/
theorem c_Mo_link (l : Launch) (D : va_G) (g : Nat → ClassId) (h0 : Nat) (a1 : Int32) (a2 : Int32) (fs : List Value) (ow : Nat) (v0 : Nat) (v1 : Nat) (v2 : Nat) (v3 : Nat) (fw0 : List Value) (fw1 : List Value) (fw2 : List Value) (sz : Nat) (glen : fs.length = 131) (gk0 : fs[44]? = some (.ref ow)) (gw0 : fw0.length = 72) (gt0 : fw0[0]? = some (.int (nI 0))) (gw1 : fw1.length = 72) (gt1 : fw1[0]? = some (.int (nI 0))) (gw2 : fw2.length = 72) (gt2 : fw2[0]? = some (.int (nI 0)))  : Met l y_Mo_link (mw y_Mo_link b_Mo_link 3 (some .int)) (rm_Mo_link) (PC g D [] [.ref h0, .int a1, .int a2] sz [(h0, .inr (14, fs)), (ow, .inl (g 6, 4, .inr (.inr (.inr (.inr (va_up (va_up (va_up (va_up (fun _ => none) 0 (some v0)) 1 (some v1)) 2 (some v2)) 3 (some v3))))))), (v0, .inr (13, fw0)), (v1, .inr (13, fw1)), (v2, .inr (13, fw2))]) (va_Qi (fun (r : Int32) (u : Unit) => r = (-1)) (QW D (va_A [(h0, .inr (14, fs)), (ow, .inl (g 6, 4, .inr (.inr (.inr (.inr (va_up (va_up (va_up (va_up (fun _ => none) 0 (some v0)) 1 (some v1)) 2 (some v2)) 3 (some v3))))))), (v0, .inr (13, fw0)), (v1, .inr (13, fw1)), (v2, .inr (13, fw2))] sz) (fun u : Unit => [])) (va_A [(h0, .inr (14, fs)), (ow, .inl (g 6, 4, .inr (.inr (.inr (.inr (va_up (va_up (va_up (va_up (fun _ => none) 0 (some v0)) 1 (some v1)) 2 (some v2)) 3 (some v3))))))), (v0, .inr (13, fw0)), (v1, .inr (13, fw1)), (v2, .inr (13, fw2))] sz)) 0 0 (va_A [(h0, .inr (14, fs)), (ow, .inl (g 6, 4, .inr (.inr (.inr (.inr (va_up (va_up (va_up (va_up (fun _ => none) 0 (some v0)) 1 (some v1)) 2 (some v2)) 3 (some v3))))))), (v0, .inr (13, fw0)), (v1, .inr (13, fw1)), (v2, .inr (13, fw2))] sz) := by
  refine ofI (by decide +kernel) (Nat.le_of_ble_eq_true rfl) ?_
  intro p e s m args below meth c A Q ls H locs G hsz hP hD hS hl hret
  subst hsz
  have hl : lv_has ls 3 [(0, .ref h0), (1, .int a1), (2, .int a2)] := hl
  refine lv_aload_n G.1 G.2.1 d_Mo_link_0 rfl (lv_at hl 0 rfl) ?_
  refine lv_iload_n G.1 G.2.1 d_Mo_link_1 rfl (lv_at hl 1 rfl) ?_
  refine lv_iload_n G.1 G.2.1 d_Mo_link_2 rfl (lv_at hl 2 rfl) ?_
  refine kEi (wr := []) G (kV (As := [.int a1, .int a2]) (rest := []) G hP hD hS [0, 1, 2, 3, 4] rfl rfl (c_Mo_isClass l D g h0 a1 a2 fs ow v0 v1 v2 v3 fw0 fw1 fw2 H.size glen gk0 gw0 gt0 gw1 gt1 gw2 gt2) w_Mo_isClass q3661 rfl rfl ⟨Nat.le_of_ble_eq_true rfl, Nat.le_of_ble_eq_true rfl⟩ (fun _ h => absurd h List.not_mem_nil) 0 (ci := 14) rfl rfl rfl hl.1 rfl (Nat.le_of_ble_eq_true rfl) rfl ⟨Nat.le_of_ble_eq_true rfl, (Nat.le_of_ble_eq_true rfl)⟩ d_Mo_link_3) hP hD hS [0, 1, 2, 3, 4] [] rfl rfl rfl rfl (fun r_1 u_2 H locs hw hP hD hS hzH => ?_)
  have hw : r_1 = nI 0 := hw
  have hP : va_P D CL [(h0, .inr (14, fs)), (ow, .inl (g 6, 4, .inr (.inr (.inr (.inr (va_up (va_up (va_up (va_up (fun _ => none) 0 (some v0)) 1 (some v1)) 2 (some v2)) 3 (some v3))))))), (v0, .inr (13, fw0)), (v1, .inr (13, fw1)), (v2, .inr (13, fw2))] H := hP
  have hD : va_D A [(h0, .inr (14, fs)), (ow, .inl (g 6, 4, .inr (.inr (.inr (.inr (va_up (va_up (va_up (va_up (fun _ => none) 0 (some v0)) 1 (some v1)) 2 (some v2)) 3 (some v3))))))), (v0, .inr (13, fw0)), (v1, .inr (13, fw1)), (v2, .inr (13, fw2))] := hD
  subst hw
  refine tpst (w := [.int (nI 0)]) rfl ?_
  refine lv_if_ne (tgt := 11) G.1 G.2.1 d_Mo_link_6 (by decide) (fun c6 => absurd c6 (by decide)) (fun c6 => ?_)
  refine lv_iconst (v := (-1)) G.1 G.2.1 d_Mo_link_9 (by decide) ?_
  refine hret (-1) () _ _ _ _ _ ls rfl (hP.sub [] rfl) (hD.sub [] (by decide) rfl) hS (Nat.le_of_ble_eq_true rfl) (Nat.le_of_ble_eq_true rfl) d_Mo_link_10
def y_Mo_checked : MethodName := ⟨"ClassWorksModel", "checked", "(II)I"⟩
abbrev b_Mo_checked : ByteArray := prog_14_method_138_code
theorem d_Mo_checked_0 : decode b_Mo_checked 0 = .ok (.aload_n 0, 1) := by decide +kernel
theorem d_Mo_checked_1 : decode b_Mo_checked 1 = .ok (.iload_n 1, 1) := by decide +kernel
theorem d_Mo_checked_2 : decode b_Mo_checked 2 = .ok (.invokevirtual 1118, 3) := by decide +kernel
theorem d_Mo_checked_5 : decode b_Mo_checked 5 = .ok (.ifCond .eq 26, 3) := by decide +kernel
theorem d_Mo_checked_31 : decode b_Mo_checked 31 = .ok (.iconst (-1), 1) := by decide +kernel
theorem d_Mo_checked_32 : decode b_Mo_checked 32 = .ok (.ireturn, 1) := by decide +kernel
abbrev rm_Mo_checked : Room := { frames := 1, cells := 0, slots := 0, locals := 21 }
set_option maxHeartbeats 4000000 in
set_option maxRecDepth 100000 in
/-- checked -/
theorem c_Mo_checked (l : Launch) (D : va_G) (g : Nat → ClassId) (h0 : Nat) (a1 : Int32) (a2 : Int32) (fs : List Value) (ow : Nat) (v0 : Nat) (v1 : Nat) (v2 : Nat) (v3 : Nat) (fw0 : List Value) (fw1 : List Value) (fw2 : List Value) (sz : Nat) (glen : fs.length = 131) (gk0 : fs[44]? = some (.ref ow)) (gw0 : fw0.length = 72) (gt0 : fw0[0]? = some (.int (nI 0))) (gw1 : fw1.length = 72) (gt1 : fw1[0]? = some (.int (nI 0))) (gw2 : fw2.length = 72) (gt2 : fw2[0]? = some (.int (nI 0)))  : Met l y_Mo_checked (mw y_Mo_checked b_Mo_checked 3 (some .int)) (rm_Mo_checked) (PC g D [] [.ref h0, .int a1, .int a2] sz [(h0, .inr (14, fs)), (ow, .inl (g 6, 4, .inr (.inr (.inr (.inr (va_up (va_up (va_up (va_up (fun _ => none) 0 (some v0)) 1 (some v1)) 2 (some v2)) 3 (some v3))))))), (v0, .inr (13, fw0)), (v1, .inr (13, fw1)), (v2, .inr (13, fw2))]) (va_Qi (fun (r : Int32) (u : Unit) => r = (-1)) (QW D (va_A [(h0, .inr (14, fs)), (ow, .inl (g 6, 4, .inr (.inr (.inr (.inr (va_up (va_up (va_up (va_up (fun _ => none) 0 (some v0)) 1 (some v1)) 2 (some v2)) 3 (some v3))))))), (v0, .inr (13, fw0)), (v1, .inr (13, fw1)), (v2, .inr (13, fw2))] sz) (fun u : Unit => [])) (va_A [(h0, .inr (14, fs)), (ow, .inl (g 6, 4, .inr (.inr (.inr (.inr (va_up (va_up (va_up (va_up (fun _ => none) 0 (some v0)) 1 (some v1)) 2 (some v2)) 3 (some v3))))))), (v0, .inr (13, fw0)), (v1, .inr (13, fw1)), (v2, .inr (13, fw2))] sz)) 0 0 (va_A [(h0, .inr (14, fs)), (ow, .inl (g 6, 4, .inr (.inr (.inr (.inr (va_up (va_up (va_up (va_up (fun _ => none) 0 (some v0)) 1 (some v1)) 2 (some v2)) 3 (some v3))))))), (v0, .inr (13, fw0)), (v1, .inr (13, fw1)), (v2, .inr (13, fw2))] sz) := by
  refine ofI (by decide +kernel) (Nat.le_of_ble_eq_true rfl) ?_
  intro p e s m args below meth c A Q ls H locs G hsz hP hD hS hl hret
  subst hsz
  have hl : lv_has ls 3 [(0, .ref h0), (1, .int a1), (2, .int a2)] := hl
  refine lv_aload_n G.1 G.2.1 d_Mo_checked_0 rfl (lv_at hl 0 rfl) ?_
  refine lv_iload_n G.1 G.2.1 d_Mo_checked_1 rfl (lv_at hl 1 rfl) ?_
  refine kEi (wr := []) G (kV (As := [.int a1]) (rest := []) G hP hD hS [0, 1, 2, 3, 4] rfl rfl (c_Mo_isWorld l D g h0 a1 fs ow v0 v1 v2 v3 fw0 fw1 fw2 H.size glen gk0 gw0 gt0 gw1 gt1 gw2 gt2) w_Mo_isWorld q3482 rfl rfl ⟨Nat.le_of_ble_eq_true rfl, Nat.le_of_ble_eq_true rfl⟩ (fun _ h => absurd h List.not_mem_nil) 0 (ci := 14) rfl rfl rfl hl.1 rfl (Nat.le_of_ble_eq_true rfl) rfl ⟨Nat.le_of_ble_eq_true rfl, (Nat.le_of_ble_eq_true rfl)⟩ d_Mo_checked_2) hP hD hS [0, 1, 2, 3, 4] [] rfl rfl rfl rfl (fun r_1 u_2 H locs hw hP hD hS hzH => ?_)
  have hw : r_1 = nI 0 := hw
  have hP : va_P D CL [(h0, .inr (14, fs)), (ow, .inl (g 6, 4, .inr (.inr (.inr (.inr (va_up (va_up (va_up (va_up (fun _ => none) 0 (some v0)) 1 (some v1)) 2 (some v2)) 3 (some v3))))))), (v0, .inr (13, fw0)), (v1, .inr (13, fw1)), (v2, .inr (13, fw2))] H := hP
  have hD : va_D A [(h0, .inr (14, fs)), (ow, .inl (g 6, 4, .inr (.inr (.inr (.inr (va_up (va_up (va_up (va_up (fun _ => none) 0 (some v0)) 1 (some v1)) 2 (some v2)) 3 (some v3))))))), (v0, .inr (13, fw0)), (v1, .inr (13, fw1)), (v2, .inr (13, fw2))] := hD
  subst hw
  refine tpst (w := [.int (nI 0)]) rfl ?_
  refine lv_if_eq (tgt := 31) G.1 G.2.1 d_Mo_checked_5 (by decide) (fun c5 => ?_) (fun c5 => absurd c5 (by decide))
  refine lv_iconst (v := (-1)) G.1 G.2.1 d_Mo_checked_31 (by decide) ?_
  refine hret (-1) () _ _ _ _ _ ls rfl (hP.sub [] rfl) (hD.sub [] (by decide) rfl) hS (Nat.le_of_ble_eq_true rfl) (Nat.le_of_ble_eq_true rfl) d_Mo_checked_32
def y_Mo_call : MethodName := ⟨"ClassWorksModel", "call", "(II)I"⟩
abbrev b_Mo_call : ByteArray := prog_14_method_144_code
theorem d_Mo_call_0 : decode b_Mo_call 0 = .ok (.aload_n 0, 1) := by decide +kernel
theorem d_Mo_call_1 : decode b_Mo_call 1 = .ok (.iload_n 1, 1) := by decide +kernel
theorem d_Mo_call_2 : decode b_Mo_call 2 = .ok (.invokevirtual 1118, 3) := by decide +kernel
theorem d_Mo_call_5 : decode b_Mo_call 5 = .ok (.ifCond .eq 10, 3) := by decide +kernel
theorem d_Mo_call_15 : decode b_Mo_call 15 = .ok (.iconst (-1), 1) := by decide +kernel
theorem d_Mo_call_16 : decode b_Mo_call 16 = .ok (.ireturn, 1) := by decide +kernel
abbrev rm_Mo_call : Room := { frames := 1, cells := 0, slots := 0, locals := 21 }
set_option maxHeartbeats 4000000 in
set_option maxRecDepth 100000 in
/-- call -/
theorem c_Mo_call (l : Launch) (D : va_G) (g : Nat → ClassId) (h0 : Nat) (a1 : Int32) (a2 : Int32) (fs : List Value) (ow : Nat) (v0 : Nat) (v1 : Nat) (v2 : Nat) (v3 : Nat) (fw0 : List Value) (fw1 : List Value) (fw2 : List Value) (sz : Nat) (glen : fs.length = 131) (gk0 : fs[44]? = some (.ref ow)) (gw0 : fw0.length = 72) (gt0 : fw0[0]? = some (.int (nI 0))) (gw1 : fw1.length = 72) (gt1 : fw1[0]? = some (.int (nI 0))) (gw2 : fw2.length = 72) (gt2 : fw2[0]? = some (.int (nI 0)))  : Met l y_Mo_call (mw y_Mo_call b_Mo_call 3 (some .int)) (rm_Mo_call) (PC g D [] [.ref h0, .int a1, .int a2] sz [(h0, .inr (14, fs)), (ow, .inl (g 6, 4, .inr (.inr (.inr (.inr (va_up (va_up (va_up (va_up (fun _ => none) 0 (some v0)) 1 (some v1)) 2 (some v2)) 3 (some v3))))))), (v0, .inr (13, fw0)), (v1, .inr (13, fw1)), (v2, .inr (13, fw2))]) (va_Qi (fun (r : Int32) (u : Unit) => r = (-1)) (QW D (va_A [(h0, .inr (14, fs)), (ow, .inl (g 6, 4, .inr (.inr (.inr (.inr (va_up (va_up (va_up (va_up (fun _ => none) 0 (some v0)) 1 (some v1)) 2 (some v2)) 3 (some v3))))))), (v0, .inr (13, fw0)), (v1, .inr (13, fw1)), (v2, .inr (13, fw2))] sz) (fun u : Unit => [])) (va_A [(h0, .inr (14, fs)), (ow, .inl (g 6, 4, .inr (.inr (.inr (.inr (va_up (va_up (va_up (va_up (fun _ => none) 0 (some v0)) 1 (some v1)) 2 (some v2)) 3 (some v3))))))), (v0, .inr (13, fw0)), (v1, .inr (13, fw1)), (v2, .inr (13, fw2))] sz)) 0 0 (va_A [(h0, .inr (14, fs)), (ow, .inl (g 6, 4, .inr (.inr (.inr (.inr (va_up (va_up (va_up (va_up (fun _ => none) 0 (some v0)) 1 (some v1)) 2 (some v2)) 3 (some v3))))))), (v0, .inr (13, fw0)), (v1, .inr (13, fw1)), (v2, .inr (13, fw2))] sz) := by
  refine ofI (by decide +kernel) (Nat.le_of_ble_eq_true rfl) ?_
  intro p e s m args below meth c A Q ls H locs G hsz hP hD hS hl hret
  subst hsz
  have hl : lv_has ls 3 [(0, .ref h0), (1, .int a1), (2, .int a2)] := hl
  refine lv_aload_n G.1 G.2.1 d_Mo_call_0 rfl (lv_at hl 0 rfl) ?_
  refine lv_iload_n G.1 G.2.1 d_Mo_call_1 rfl (lv_at hl 1 rfl) ?_
  refine kEi (wr := []) G (kV (As := [.int a1]) (rest := []) G hP hD hS [0, 1, 2, 3, 4] rfl rfl (c_Mo_isWorld l D g h0 a1 fs ow v0 v1 v2 v3 fw0 fw1 fw2 H.size glen gk0 gw0 gt0 gw1 gt1 gw2 gt2) w_Mo_isWorld q3482 rfl rfl ⟨Nat.le_of_ble_eq_true rfl, Nat.le_of_ble_eq_true rfl⟩ (fun _ h => absurd h List.not_mem_nil) 0 (ci := 14) rfl rfl rfl hl.1 rfl (Nat.le_of_ble_eq_true rfl) rfl ⟨Nat.le_of_ble_eq_true rfl, (Nat.le_of_ble_eq_true rfl)⟩ d_Mo_call_2) hP hD hS [0, 1, 2, 3, 4] [] rfl rfl rfl rfl (fun r_1 u_2 H locs hw hP hD hS hzH => ?_)
  have hw : r_1 = nI 0 := hw
  have hP : va_P D CL [(h0, .inr (14, fs)), (ow, .inl (g 6, 4, .inr (.inr (.inr (.inr (va_up (va_up (va_up (va_up (fun _ => none) 0 (some v0)) 1 (some v1)) 2 (some v2)) 3 (some v3))))))), (v0, .inr (13, fw0)), (v1, .inr (13, fw1)), (v2, .inr (13, fw2))] H := hP
  have hD : va_D A [(h0, .inr (14, fs)), (ow, .inl (g 6, 4, .inr (.inr (.inr (.inr (va_up (va_up (va_up (va_up (fun _ => none) 0 (some v0)) 1 (some v1)) 2 (some v2)) 3 (some v3))))))), (v0, .inr (13, fw0)), (v1, .inr (13, fw1)), (v2, .inr (13, fw2))] := hD
  subst hw
  refine tpst (w := [.int (nI 0)]) rfl ?_
  refine lv_if_eq (tgt := 15) G.1 G.2.1 d_Mo_call_5 (by decide) (fun c5 => ?_) (fun c5 => absurd c5 (by decide))
  refine lv_iconst (v := (-1)) G.1 G.2.1 d_Mo_call_15 (by decide) ?_
  refine hret (-1) () _ _ _ _ _ ls rfl (hP.sub [] rfl) (hD.sub [] (by decide) rfl) hS (Nat.le_of_ble_eq_true rfl) (Nat.le_of_ble_eq_true rfl) d_Mo_call_16
def y_Mo_quantum : MethodName := ⟨"ClassWorksModel", "quantum", "(II)I"⟩
abbrev b_Mo_quantum : ByteArray := prog_14_method_145_code
theorem d_Mo_quantum_0 : decode b_Mo_quantum 0 = .ok (.aload_n 0, 1) := by decide +kernel
theorem d_Mo_quantum_1 : decode b_Mo_quantum 1 = .ok (.iload_n 1, 1) := by decide +kernel
theorem d_Mo_quantum_2 : decode b_Mo_quantum 2 = .ok (.invokevirtual 1118, 3) := by decide +kernel
theorem d_Mo_quantum_5 : decode b_Mo_quantum 5 = .ok (.ifCond .eq 15, 3) := by decide +kernel
theorem d_Mo_quantum_20 : decode b_Mo_quantum 20 = .ok (.iconst (-1), 1) := by decide +kernel
theorem d_Mo_quantum_21 : decode b_Mo_quantum 21 = .ok (.ireturn, 1) := by decide +kernel
abbrev rm_Mo_quantum : Room := { frames := 1, cells := 0, slots := 0, locals := 21 }
set_option maxHeartbeats 4000000 in
set_option maxRecDepth 100000 in
/-- quantum -/
theorem c_Mo_quantum (l : Launch) (D : va_G) (g : Nat → ClassId) (h0 : Nat) (a1 : Int32) (a2 : Int32) (fs : List Value) (ow : Nat) (v0 : Nat) (v1 : Nat) (v2 : Nat) (v3 : Nat) (fw0 : List Value) (fw1 : List Value) (fw2 : List Value) (sz : Nat) (glen : fs.length = 131) (gk0 : fs[44]? = some (.ref ow)) (gw0 : fw0.length = 72) (gt0 : fw0[0]? = some (.int (nI 0))) (gw1 : fw1.length = 72) (gt1 : fw1[0]? = some (.int (nI 0))) (gw2 : fw2.length = 72) (gt2 : fw2[0]? = some (.int (nI 0)))  : Met l y_Mo_quantum (mw y_Mo_quantum b_Mo_quantum 4 (some .int)) (rm_Mo_quantum) (PC g D [] [.ref h0, .int a1, .int a2] sz [(h0, .inr (14, fs)), (ow, .inl (g 6, 4, .inr (.inr (.inr (.inr (va_up (va_up (va_up (va_up (fun _ => none) 0 (some v0)) 1 (some v1)) 2 (some v2)) 3 (some v3))))))), (v0, .inr (13, fw0)), (v1, .inr (13, fw1)), (v2, .inr (13, fw2))]) (va_Qi (fun (r : Int32) (u : Unit) => r = (-1)) (QW D (va_A [(h0, .inr (14, fs)), (ow, .inl (g 6, 4, .inr (.inr (.inr (.inr (va_up (va_up (va_up (va_up (fun _ => none) 0 (some v0)) 1 (some v1)) 2 (some v2)) 3 (some v3))))))), (v0, .inr (13, fw0)), (v1, .inr (13, fw1)), (v2, .inr (13, fw2))] sz) (fun u : Unit => [])) (va_A [(h0, .inr (14, fs)), (ow, .inl (g 6, 4, .inr (.inr (.inr (.inr (va_up (va_up (va_up (va_up (fun _ => none) 0 (some v0)) 1 (some v1)) 2 (some v2)) 3 (some v3))))))), (v0, .inr (13, fw0)), (v1, .inr (13, fw1)), (v2, .inr (13, fw2))] sz)) 0 0 (va_A [(h0, .inr (14, fs)), (ow, .inl (g 6, 4, .inr (.inr (.inr (.inr (va_up (va_up (va_up (va_up (fun _ => none) 0 (some v0)) 1 (some v1)) 2 (some v2)) 3 (some v3))))))), (v0, .inr (13, fw0)), (v1, .inr (13, fw1)), (v2, .inr (13, fw2))] sz) := by
  refine ofI (by decide +kernel) (Nat.le_of_ble_eq_true rfl) ?_
  intro p e s m args below meth c A Q ls H locs G hsz hP hD hS hl hret
  subst hsz
  have hl : lv_has ls 4 [(0, .ref h0), (1, .int a1), (2, .int a2)] := hl
  refine lv_aload_n G.1 G.2.1 d_Mo_quantum_0 rfl (lv_at hl 0 rfl) ?_
  refine lv_iload_n G.1 G.2.1 d_Mo_quantum_1 rfl (lv_at hl 1 rfl) ?_
  refine kEi (wr := []) G (kV (As := [.int a1]) (rest := []) G hP hD hS [0, 1, 2, 3, 4] rfl rfl (c_Mo_isWorld l D g h0 a1 fs ow v0 v1 v2 v3 fw0 fw1 fw2 H.size glen gk0 gw0 gt0 gw1 gt1 gw2 gt2) w_Mo_isWorld q3482 rfl rfl ⟨Nat.le_of_ble_eq_true rfl, Nat.le_of_ble_eq_true rfl⟩ (fun _ h => absurd h List.not_mem_nil) 0 (ci := 14) rfl rfl rfl hl.1 rfl (Nat.le_of_ble_eq_true rfl) rfl ⟨Nat.le_of_ble_eq_true rfl, (Nat.le_of_ble_eq_true rfl)⟩ d_Mo_quantum_2) hP hD hS [0, 1, 2, 3, 4] [] rfl rfl rfl rfl (fun r_1 u_2 H locs hw hP hD hS hzH => ?_)
  have hw : r_1 = nI 0 := hw
  have hP : va_P D CL [(h0, .inr (14, fs)), (ow, .inl (g 6, 4, .inr (.inr (.inr (.inr (va_up (va_up (va_up (va_up (fun _ => none) 0 (some v0)) 1 (some v1)) 2 (some v2)) 3 (some v3))))))), (v0, .inr (13, fw0)), (v1, .inr (13, fw1)), (v2, .inr (13, fw2))] H := hP
  have hD : va_D A [(h0, .inr (14, fs)), (ow, .inl (g 6, 4, .inr (.inr (.inr (.inr (va_up (va_up (va_up (va_up (fun _ => none) 0 (some v0)) 1 (some v1)) 2 (some v2)) 3 (some v3))))))), (v0, .inr (13, fw0)), (v1, .inr (13, fw1)), (v2, .inr (13, fw2))] := hD
  subst hw
  refine tpst (w := [.int (nI 0)]) rfl ?_
  refine lv_if_eq (tgt := 20) G.1 G.2.1 d_Mo_quantum_5 (by decide) (fun c5 => ?_) (fun c5 => absurd c5 (by decide))
  refine lv_iconst (v := (-1)) G.1 G.2.1 d_Mo_quantum_20 (by decide) ?_
  refine hret (-1) () _ _ _ _ _ ls rfl (hP.sub [] rfl) (hD.sub [] (by decide) rfl) hS (Nat.le_of_ble_eq_true rfl) (Nat.le_of_ble_eq_true rfl) d_Mo_quantum_21
def y_Mo_halt : MethodName := ⟨"ClassWorksModel", "halt", "(I)I"⟩
abbrev b_Mo_halt : ByteArray := prog_14_method_146_code
theorem d_Mo_halt_0 : decode b_Mo_halt 0 = .ok (.aload_n 0, 1) := by decide +kernel
theorem d_Mo_halt_1 : decode b_Mo_halt 1 = .ok (.iload_n 1, 1) := by decide +kernel
theorem d_Mo_halt_2 : decode b_Mo_halt 2 = .ok (.invokevirtual 1118, 3) := by decide +kernel
theorem d_Mo_halt_5 : decode b_Mo_halt 5 = .ok (.ifCond .ne 5, 3) := by decide +kernel
theorem d_Mo_halt_8 : decode b_Mo_halt 8 = .ok (.iconst (-1), 1) := by decide +kernel
theorem d_Mo_halt_9 : decode b_Mo_halt 9 = .ok (.ireturn, 1) := by decide +kernel
abbrev rm_Mo_halt : Room := { frames := 1, cells := 0, slots := 0, locals := 21 }
set_option maxHeartbeats 4000000 in
set_option maxRecDepth 100000 in
/-- halt -/
theorem c_Mo_halt (l : Launch) (D : va_G) (g : Nat → ClassId) (h0 : Nat) (a1 : Int32) (fs : List Value) (ow : Nat) (v0 : Nat) (v1 : Nat) (v2 : Nat) (v3 : Nat) (fw0 : List Value) (fw1 : List Value) (fw2 : List Value) (sz : Nat) (glen : fs.length = 131) (gk0 : fs[44]? = some (.ref ow)) (gw0 : fw0.length = 72) (gt0 : fw0[0]? = some (.int (nI 0))) (gw1 : fw1.length = 72) (gt1 : fw1[0]? = some (.int (nI 0))) (gw2 : fw2.length = 72) (gt2 : fw2[0]? = some (.int (nI 0)))  : Met l y_Mo_halt (mw y_Mo_halt b_Mo_halt 4 (some .int)) (rm_Mo_halt) (PC g D [] [.ref h0, .int a1] sz [(h0, .inr (14, fs)), (ow, .inl (g 6, 4, .inr (.inr (.inr (.inr (va_up (va_up (va_up (va_up (fun _ => none) 0 (some v0)) 1 (some v1)) 2 (some v2)) 3 (some v3))))))), (v0, .inr (13, fw0)), (v1, .inr (13, fw1)), (v2, .inr (13, fw2))]) (va_Qi (fun (r : Int32) (u : Unit) => r = (-1)) (QW D (va_A [(h0, .inr (14, fs)), (ow, .inl (g 6, 4, .inr (.inr (.inr (.inr (va_up (va_up (va_up (va_up (fun _ => none) 0 (some v0)) 1 (some v1)) 2 (some v2)) 3 (some v3))))))), (v0, .inr (13, fw0)), (v1, .inr (13, fw1)), (v2, .inr (13, fw2))] sz) (fun u : Unit => [])) (va_A [(h0, .inr (14, fs)), (ow, .inl (g 6, 4, .inr (.inr (.inr (.inr (va_up (va_up (va_up (va_up (fun _ => none) 0 (some v0)) 1 (some v1)) 2 (some v2)) 3 (some v3))))))), (v0, .inr (13, fw0)), (v1, .inr (13, fw1)), (v2, .inr (13, fw2))] sz)) 0 0 (va_A [(h0, .inr (14, fs)), (ow, .inl (g 6, 4, .inr (.inr (.inr (.inr (va_up (va_up (va_up (va_up (fun _ => none) 0 (some v0)) 1 (some v1)) 2 (some v2)) 3 (some v3))))))), (v0, .inr (13, fw0)), (v1, .inr (13, fw1)), (v2, .inr (13, fw2))] sz) := by
  refine ofI (by decide +kernel) (Nat.le_of_ble_eq_true rfl) ?_
  intro p e s m args below meth c A Q ls H locs G hsz hP hD hS hl hret
  subst hsz
  have hl : lv_has ls 4 [(0, .ref h0), (1, .int a1)] := hl
  refine lv_aload_n G.1 G.2.1 d_Mo_halt_0 rfl (lv_at hl 0 rfl) ?_
  refine lv_iload_n G.1 G.2.1 d_Mo_halt_1 rfl (lv_at hl 1 rfl) ?_
  refine kEi (wr := []) G (kV (As := [.int a1]) (rest := []) G hP hD hS [0, 1, 2, 3, 4] rfl rfl (c_Mo_isWorld l D g h0 a1 fs ow v0 v1 v2 v3 fw0 fw1 fw2 H.size glen gk0 gw0 gt0 gw1 gt1 gw2 gt2) w_Mo_isWorld q3482 rfl rfl ⟨Nat.le_of_ble_eq_true rfl, Nat.le_of_ble_eq_true rfl⟩ (fun _ h => absurd h List.not_mem_nil) 0 (ci := 14) rfl rfl rfl hl.1 rfl (Nat.le_of_ble_eq_true rfl) rfl ⟨Nat.le_of_ble_eq_true rfl, (Nat.le_of_ble_eq_true rfl)⟩ d_Mo_halt_2) hP hD hS [0, 1, 2, 3, 4] [] rfl rfl rfl rfl (fun r_1 u_2 H locs hw hP hD hS hzH => ?_)
  have hw : r_1 = nI 0 := hw
  have hP : va_P D CL [(h0, .inr (14, fs)), (ow, .inl (g 6, 4, .inr (.inr (.inr (.inr (va_up (va_up (va_up (va_up (fun _ => none) 0 (some v0)) 1 (some v1)) 2 (some v2)) 3 (some v3))))))), (v0, .inr (13, fw0)), (v1, .inr (13, fw1)), (v2, .inr (13, fw2))] H := hP
  have hD : va_D A [(h0, .inr (14, fs)), (ow, .inl (g 6, 4, .inr (.inr (.inr (.inr (va_up (va_up (va_up (va_up (fun _ => none) 0 (some v0)) 1 (some v1)) 2 (some v2)) 3 (some v3))))))), (v0, .inr (13, fw0)), (v1, .inr (13, fw1)), (v2, .inr (13, fw2))] := hD
  subst hw
  refine tpst (w := [.int (nI 0)]) rfl ?_
  refine lv_if_ne (tgt := 10) G.1 G.2.1 d_Mo_halt_5 (by decide) (fun c5 => absurd c5 (by decide)) (fun c5 => ?_)
  refine lv_iconst (v := (-1)) G.1 G.2.1 d_Mo_halt_8 (by decide) ?_
  refine hret (-1) () _ _ _ _ _ ls rfl (hP.sub [] rfl) (hD.sub [] (by decide) rfl) hS (Nat.le_of_ble_eq_true rfl) (Nat.le_of_ble_eq_true rfl) d_Mo_halt_9
def y_Mo_step : MethodName := ⟨"ClassWorksModel", "step", "(II)I"⟩
abbrev b_Mo_step : ByteArray := prog_14_method_147_code
theorem d_Mo_step_0 : decode b_Mo_step 0 = .ok (.aload_n 0, 1) := by decide +kernel
theorem d_Mo_step_1 : decode b_Mo_step 1 = .ok (.iload_n 1, 1) := by decide +kernel
theorem d_Mo_step_2 : decode b_Mo_step 2 = .ok (.invokevirtual 1118, 3) := by decide +kernel
theorem d_Mo_step_5 : decode b_Mo_step 5 = .ok (.ifCond .eq 15, 3) := by decide +kernel
theorem d_Mo_step_20 : decode b_Mo_step 20 = .ok (.iconst (-1), 1) := by decide +kernel
theorem d_Mo_step_21 : decode b_Mo_step 21 = .ok (.ireturn, 1) := by decide +kernel
abbrev rm_Mo_step : Room := { frames := 1, cells := 0, slots := 0, locals := 21 }
set_option maxHeartbeats 4000000 in
set_option maxRecDepth 100000 in
/-- step -/
theorem c_Mo_step (l : Launch) (D : va_G) (g : Nat → ClassId) (h0 : Nat) (a1 : Int32) (a2 : Int32) (fs : List Value) (ow : Nat) (v0 : Nat) (v1 : Nat) (v2 : Nat) (v3 : Nat) (fw0 : List Value) (fw1 : List Value) (fw2 : List Value) (sz : Nat) (glen : fs.length = 131) (gk0 : fs[44]? = some (.ref ow)) (gw0 : fw0.length = 72) (gt0 : fw0[0]? = some (.int (nI 0))) (gw1 : fw1.length = 72) (gt1 : fw1[0]? = some (.int (nI 0))) (gw2 : fw2.length = 72) (gt2 : fw2[0]? = some (.int (nI 0)))  : Met l y_Mo_step (mw y_Mo_step b_Mo_step 4 (some .int)) (rm_Mo_step) (PC g D [] [.ref h0, .int a1, .int a2] sz [(h0, .inr (14, fs)), (ow, .inl (g 6, 4, .inr (.inr (.inr (.inr (va_up (va_up (va_up (va_up (fun _ => none) 0 (some v0)) 1 (some v1)) 2 (some v2)) 3 (some v3))))))), (v0, .inr (13, fw0)), (v1, .inr (13, fw1)), (v2, .inr (13, fw2))]) (va_Qi (fun (r : Int32) (u : Unit) => r = (-1)) (QW D (va_A [(h0, .inr (14, fs)), (ow, .inl (g 6, 4, .inr (.inr (.inr (.inr (va_up (va_up (va_up (va_up (fun _ => none) 0 (some v0)) 1 (some v1)) 2 (some v2)) 3 (some v3))))))), (v0, .inr (13, fw0)), (v1, .inr (13, fw1)), (v2, .inr (13, fw2))] sz) (fun u : Unit => [])) (va_A [(h0, .inr (14, fs)), (ow, .inl (g 6, 4, .inr (.inr (.inr (.inr (va_up (va_up (va_up (va_up (fun _ => none) 0 (some v0)) 1 (some v1)) 2 (some v2)) 3 (some v3))))))), (v0, .inr (13, fw0)), (v1, .inr (13, fw1)), (v2, .inr (13, fw2))] sz)) 0 0 (va_A [(h0, .inr (14, fs)), (ow, .inl (g 6, 4, .inr (.inr (.inr (.inr (va_up (va_up (va_up (va_up (fun _ => none) 0 (some v0)) 1 (some v1)) 2 (some v2)) 3 (some v3))))))), (v0, .inr (13, fw0)), (v1, .inr (13, fw1)), (v2, .inr (13, fw2))] sz) := by
  refine ofI (by decide +kernel) (Nat.le_of_ble_eq_true rfl) ?_
  intro p e s m args below meth c A Q ls H locs G hsz hP hD hS hl hret
  subst hsz
  have hl : lv_has ls 4 [(0, .ref h0), (1, .int a1), (2, .int a2)] := hl
  refine lv_aload_n G.1 G.2.1 d_Mo_step_0 rfl (lv_at hl 0 rfl) ?_
  refine lv_iload_n G.1 G.2.1 d_Mo_step_1 rfl (lv_at hl 1 rfl) ?_
  refine kEi (wr := []) G (kV (As := [.int a1]) (rest := []) G hP hD hS [0, 1, 2, 3, 4] rfl rfl (c_Mo_isWorld l D g h0 a1 fs ow v0 v1 v2 v3 fw0 fw1 fw2 H.size glen gk0 gw0 gt0 gw1 gt1 gw2 gt2) w_Mo_isWorld q3482 rfl rfl ⟨Nat.le_of_ble_eq_true rfl, Nat.le_of_ble_eq_true rfl⟩ (fun _ h => absurd h List.not_mem_nil) 0 (ci := 14) rfl rfl rfl hl.1 rfl (Nat.le_of_ble_eq_true rfl) rfl ⟨Nat.le_of_ble_eq_true rfl, (Nat.le_of_ble_eq_true rfl)⟩ d_Mo_step_2) hP hD hS [0, 1, 2, 3, 4] [] rfl rfl rfl rfl (fun r_1 u_2 H locs hw hP hD hS hzH => ?_)
  have hw : r_1 = nI 0 := hw
  have hP : va_P D CL [(h0, .inr (14, fs)), (ow, .inl (g 6, 4, .inr (.inr (.inr (.inr (va_up (va_up (va_up (va_up (fun _ => none) 0 (some v0)) 1 (some v1)) 2 (some v2)) 3 (some v3))))))), (v0, .inr (13, fw0)), (v1, .inr (13, fw1)), (v2, .inr (13, fw2))] H := hP
  have hD : va_D A [(h0, .inr (14, fs)), (ow, .inl (g 6, 4, .inr (.inr (.inr (.inr (va_up (va_up (va_up (va_up (fun _ => none) 0 (some v0)) 1 (some v1)) 2 (some v2)) 3 (some v3))))))), (v0, .inr (13, fw0)), (v1, .inr (13, fw1)), (v2, .inr (13, fw2))] := hD
  subst hw
  refine tpst (w := [.int (nI 0)]) rfl ?_
  refine lv_if_eq (tgt := 20) G.1 G.2.1 d_Mo_step_5 (by decide) (fun c5 => ?_) (fun c5 => absurd c5 (by decide))
  refine lv_iconst (v := (-1)) G.1 G.2.1 d_Mo_step_20 (by decide) ?_
  refine hret (-1) () _ _ _ _ _ ls rfl (hP.sub [] rfl) (hD.sub [] (by decide) rfl) hS (Nat.le_of_ble_eq_true rfl) (Nat.le_of_ble_eq_true rfl) d_Mo_step_21
def y_Mo_run : MethodName := ⟨"ClassWorksModel", "run", "(III)I"⟩
abbrev b_Mo_run : ByteArray := prog_14_method_148_code
theorem d_Mo_run_0 : decode b_Mo_run 0 = .ok (.aload_n 0, 1) := by decide +kernel
theorem d_Mo_run_1 : decode b_Mo_run 1 = .ok (.iload_n 1, 1) := by decide +kernel
theorem d_Mo_run_2 : decode b_Mo_run 2 = .ok (.invokevirtual 1118, 3) := by decide +kernel
theorem d_Mo_run_5 : decode b_Mo_run 5 = .ok (.ifCond .eq 20, 3) := by decide +kernel
theorem d_Mo_run_25 : decode b_Mo_run 25 = .ok (.iconst (-1), 1) := by decide +kernel
theorem d_Mo_run_26 : decode b_Mo_run 26 = .ok (.ireturn, 1) := by decide +kernel
abbrev rm_Mo_run : Room := { frames := 1, cells := 0, slots := 0, locals := 21 }
set_option maxHeartbeats 4000000 in
set_option maxRecDepth 100000 in
/-- run -/
theorem c_Mo_run (l : Launch) (D : va_G) (g : Nat → ClassId) (h0 : Nat) (a1 : Int32) (a2 : Int32) (a3 : Int32) (fs : List Value) (ow : Nat) (v0 : Nat) (v1 : Nat) (v2 : Nat) (v3 : Nat) (fw0 : List Value) (fw1 : List Value) (fw2 : List Value) (sz : Nat) (glen : fs.length = 131) (gk0 : fs[44]? = some (.ref ow)) (gw0 : fw0.length = 72) (gt0 : fw0[0]? = some (.int (nI 0))) (gw1 : fw1.length = 72) (gt1 : fw1[0]? = some (.int (nI 0))) (gw2 : fw2.length = 72) (gt2 : fw2[0]? = some (.int (nI 0)))  : Met l y_Mo_run (mw y_Mo_run b_Mo_run 8 (some .int)) (rm_Mo_run) (PC g D [] [.ref h0, .int a1, .int a2, .int a3] sz [(h0, .inr (14, fs)), (ow, .inl (g 6, 4, .inr (.inr (.inr (.inr (va_up (va_up (va_up (va_up (fun _ => none) 0 (some v0)) 1 (some v1)) 2 (some v2)) 3 (some v3))))))), (v0, .inr (13, fw0)), (v1, .inr (13, fw1)), (v2, .inr (13, fw2))]) (va_Qi (fun (r : Int32) (u : Unit) => r = (-1)) (QW D (va_A [(h0, .inr (14, fs)), (ow, .inl (g 6, 4, .inr (.inr (.inr (.inr (va_up (va_up (va_up (va_up (fun _ => none) 0 (some v0)) 1 (some v1)) 2 (some v2)) 3 (some v3))))))), (v0, .inr (13, fw0)), (v1, .inr (13, fw1)), (v2, .inr (13, fw2))] sz) (fun u : Unit => [])) (va_A [(h0, .inr (14, fs)), (ow, .inl (g 6, 4, .inr (.inr (.inr (.inr (va_up (va_up (va_up (va_up (fun _ => none) 0 (some v0)) 1 (some v1)) 2 (some v2)) 3 (some v3))))))), (v0, .inr (13, fw0)), (v1, .inr (13, fw1)), (v2, .inr (13, fw2))] sz)) 0 0 (va_A [(h0, .inr (14, fs)), (ow, .inl (g 6, 4, .inr (.inr (.inr (.inr (va_up (va_up (va_up (va_up (fun _ => none) 0 (some v0)) 1 (some v1)) 2 (some v2)) 3 (some v3))))))), (v0, .inr (13, fw0)), (v1, .inr (13, fw1)), (v2, .inr (13, fw2))] sz) := by
  refine ofI (by decide +kernel) (Nat.le_of_ble_eq_true rfl) ?_
  intro p e s m args below meth c A Q ls H locs G hsz hP hD hS hl hret
  subst hsz
  have hl : lv_has ls 8 [(0, .ref h0), (1, .int a1), (2, .int a2), (3, .int a3)] := hl
  refine lv_aload_n G.1 G.2.1 d_Mo_run_0 rfl (lv_at hl 0 rfl) ?_
  refine lv_iload_n G.1 G.2.1 d_Mo_run_1 rfl (lv_at hl 1 rfl) ?_
  refine kEi (wr := []) G (kV (As := [.int a1]) (rest := []) G hP hD hS [0, 1, 2, 3, 4] rfl rfl (c_Mo_isWorld l D g h0 a1 fs ow v0 v1 v2 v3 fw0 fw1 fw2 H.size glen gk0 gw0 gt0 gw1 gt1 gw2 gt2) w_Mo_isWorld q3482 rfl rfl ⟨Nat.le_of_ble_eq_true rfl, Nat.le_of_ble_eq_true rfl⟩ (fun _ h => absurd h List.not_mem_nil) 0 (ci := 14) rfl rfl rfl hl.1 rfl (Nat.le_of_ble_eq_true rfl) rfl ⟨Nat.le_of_ble_eq_true rfl, (Nat.le_of_ble_eq_true rfl)⟩ d_Mo_run_2) hP hD hS [0, 1, 2, 3, 4] [] rfl rfl rfl rfl (fun r_1 u_2 H locs hw hP hD hS hzH => ?_)
  have hw : r_1 = nI 0 := hw
  have hP : va_P D CL [(h0, .inr (14, fs)), (ow, .inl (g 6, 4, .inr (.inr (.inr (.inr (va_up (va_up (va_up (va_up (fun _ => none) 0 (some v0)) 1 (some v1)) 2 (some v2)) 3 (some v3))))))), (v0, .inr (13, fw0)), (v1, .inr (13, fw1)), (v2, .inr (13, fw2))] H := hP
  have hD : va_D A [(h0, .inr (14, fs)), (ow, .inl (g 6, 4, .inr (.inr (.inr (.inr (va_up (va_up (va_up (va_up (fun _ => none) 0 (some v0)) 1 (some v1)) 2 (some v2)) 3 (some v3))))))), (v0, .inr (13, fw0)), (v1, .inr (13, fw1)), (v2, .inr (13, fw2))] := hD
  subst hw
  refine tpst (w := [.int (nI 0)]) rfl ?_
  refine lv_if_eq (tgt := 25) G.1 G.2.1 d_Mo_run_5 (by decide) (fun c5 => ?_) (fun c5 => absurd c5 (by decide))
  refine lv_iconst (v := (-1)) G.1 G.2.1 d_Mo_run_25 (by decide) ?_
  refine hret (-1) () _ _ _ _ _ ls rfl (hP.sub [] rfl) (hD.sub [] (by decide) rfl) hS (Nat.le_of_ble_eq_true rfl) (Nat.le_of_ble_eq_true rfl) d_Mo_run_26
def y_Mo_started : MethodName := ⟨"ClassWorksModel", "started", "(II)I"⟩
abbrev b_Mo_started : ByteArray := prog_14_method_149_code
theorem d_Mo_started_0 : decode b_Mo_started 0 = .ok (.aload_n 0, 1) := by decide +kernel
theorem d_Mo_started_1 : decode b_Mo_started 1 = .ok (.iload_n 1, 1) := by decide +kernel
theorem d_Mo_started_2 : decode b_Mo_started 2 = .ok (.invokevirtual 1118, 3) := by decide +kernel
theorem d_Mo_started_5 : decode b_Mo_started 5 = .ok (.ifCond .eq 34, 3) := by decide +kernel
theorem d_Mo_started_39 : decode b_Mo_started 39 = .ok (.iconst (-1), 1) := by decide +kernel
theorem d_Mo_started_40 : decode b_Mo_started 40 = .ok (.ireturn, 1) := by decide +kernel
abbrev rm_Mo_started : Room := { frames := 1, cells := 0, slots := 0, locals := 21 }
set_option maxHeartbeats 4000000 in
set_option maxRecDepth 100000 in
/-- started -/
theorem c_Mo_started (l : Launch) (D : va_G) (g : Nat → ClassId) (h0 : Nat) (a1 : Int32) (a2 : Int32) (fs : List Value) (ow : Nat) (v0 : Nat) (v1 : Nat) (v2 : Nat) (v3 : Nat) (fw0 : List Value) (fw1 : List Value) (fw2 : List Value) (sz : Nat) (glen : fs.length = 131) (gk0 : fs[44]? = some (.ref ow)) (gw0 : fw0.length = 72) (gt0 : fw0[0]? = some (.int (nI 0))) (gw1 : fw1.length = 72) (gt1 : fw1[0]? = some (.int (nI 0))) (gw2 : fw2.length = 72) (gt2 : fw2[0]? = some (.int (nI 0)))  : Met l y_Mo_started (mw y_Mo_started b_Mo_started 3 (some .int)) (rm_Mo_started) (PC g D [] [.ref h0, .int a1, .int a2] sz [(h0, .inr (14, fs)), (ow, .inl (g 6, 4, .inr (.inr (.inr (.inr (va_up (va_up (va_up (va_up (fun _ => none) 0 (some v0)) 1 (some v1)) 2 (some v2)) 3 (some v3))))))), (v0, .inr (13, fw0)), (v1, .inr (13, fw1)), (v2, .inr (13, fw2))]) (va_Qi (fun (r : Int32) (u : Unit) => r = (-1)) (QW D (va_A [(h0, .inr (14, fs)), (ow, .inl (g 6, 4, .inr (.inr (.inr (.inr (va_up (va_up (va_up (va_up (fun _ => none) 0 (some v0)) 1 (some v1)) 2 (some v2)) 3 (some v3))))))), (v0, .inr (13, fw0)), (v1, .inr (13, fw1)), (v2, .inr (13, fw2))] sz) (fun u : Unit => [])) (va_A [(h0, .inr (14, fs)), (ow, .inl (g 6, 4, .inr (.inr (.inr (.inr (va_up (va_up (va_up (va_up (fun _ => none) 0 (some v0)) 1 (some v1)) 2 (some v2)) 3 (some v3))))))), (v0, .inr (13, fw0)), (v1, .inr (13, fw1)), (v2, .inr (13, fw2))] sz)) 0 0 (va_A [(h0, .inr (14, fs)), (ow, .inl (g 6, 4, .inr (.inr (.inr (.inr (va_up (va_up (va_up (va_up (fun _ => none) 0 (some v0)) 1 (some v1)) 2 (some v2)) 3 (some v3))))))), (v0, .inr (13, fw0)), (v1, .inr (13, fw1)), (v2, .inr (13, fw2))] sz) := by
  refine ofI (by decide +kernel) (Nat.le_of_ble_eq_true rfl) ?_
  intro p e s m args below meth c A Q ls H locs G hsz hP hD hS hl hret
  subst hsz
  have hl : lv_has ls 3 [(0, .ref h0), (1, .int a1), (2, .int a2)] := hl
  refine lv_aload_n G.1 G.2.1 d_Mo_started_0 rfl (lv_at hl 0 rfl) ?_
  refine lv_iload_n G.1 G.2.1 d_Mo_started_1 rfl (lv_at hl 1 rfl) ?_
  refine kEi (wr := []) G (kV (As := [.int a1]) (rest := []) G hP hD hS [0, 1, 2, 3, 4] rfl rfl (c_Mo_isWorld l D g h0 a1 fs ow v0 v1 v2 v3 fw0 fw1 fw2 H.size glen gk0 gw0 gt0 gw1 gt1 gw2 gt2) w_Mo_isWorld q3482 rfl rfl ⟨Nat.le_of_ble_eq_true rfl, Nat.le_of_ble_eq_true rfl⟩ (fun _ h => absurd h List.not_mem_nil) 0 (ci := 14) rfl rfl rfl hl.1 rfl (Nat.le_of_ble_eq_true rfl) rfl ⟨Nat.le_of_ble_eq_true rfl, (Nat.le_of_ble_eq_true rfl)⟩ d_Mo_started_2) hP hD hS [0, 1, 2, 3, 4] [] rfl rfl rfl rfl (fun r_1 u_2 H locs hw hP hD hS hzH => ?_)
  have hw : r_1 = nI 0 := hw
  have hP : va_P D CL [(h0, .inr (14, fs)), (ow, .inl (g 6, 4, .inr (.inr (.inr (.inr (va_up (va_up (va_up (va_up (fun _ => none) 0 (some v0)) 1 (some v1)) 2 (some v2)) 3 (some v3))))))), (v0, .inr (13, fw0)), (v1, .inr (13, fw1)), (v2, .inr (13, fw2))] H := hP
  have hD : va_D A [(h0, .inr (14, fs)), (ow, .inl (g 6, 4, .inr (.inr (.inr (.inr (va_up (va_up (va_up (va_up (fun _ => none) 0 (some v0)) 1 (some v1)) 2 (some v2)) 3 (some v3))))))), (v0, .inr (13, fw0)), (v1, .inr (13, fw1)), (v2, .inr (13, fw2))] := hD
  subst hw
  refine tpst (w := [.int (nI 0)]) rfl ?_
  refine lv_if_eq (tgt := 39) G.1 G.2.1 d_Mo_started_5 (by decide) (fun c5 => ?_) (fun c5 => absurd c5 (by decide))
  refine lv_iconst (v := (-1)) G.1 G.2.1 d_Mo_started_39 (by decide) ?_
  refine hret (-1) () _ _ _ _ _ ls rfl (hP.sub [] rfl) (hD.sub [] (by decide) rfl) hS (Nat.le_of_ble_eq_true rfl) (Nat.le_of_ble_eq_true rfl) d_Mo_started_40
def y_Mo_value : MethodName := ⟨"ClassWorksModel", "value", "(IIZI)I"⟩
abbrev b_Mo_value : ByteArray := prog_14_method_151_code
theorem d_Mo_value_0 : decode b_Mo_value 0 = .ok (.aload_n 0, 1) := by decide +kernel
theorem d_Mo_value_1 : decode b_Mo_value 1 = .ok (.iload_n 1, 1) := by decide +kernel
theorem d_Mo_value_2 : decode b_Mo_value 2 = .ok (.invokevirtual 1118, 3) := by decide +kernel
theorem d_Mo_value_5 : decode b_Mo_value 5 = .ok (.ifCond .eq 15, 3) := by decide +kernel
theorem d_Mo_value_20 : decode b_Mo_value 20 = .ok (.iconst (-1), 1) := by decide +kernel
theorem d_Mo_value_21 : decode b_Mo_value 21 = .ok (.ireturn, 1) := by decide +kernel
abbrev rm_Mo_value : Room := { frames := 1, cells := 0, slots := 0, locals := 21 }
set_option maxHeartbeats 4000000 in
set_option maxRecDepth 100000 in
/-- value -/
theorem c_Mo_value (l : Launch) (D : va_G) (g : Nat → ClassId) (h0 : Nat) (a1 : Int32) (a2 : Int32) (a3 : Int32) (a4 : Int32) (fs : List Value) (ow : Nat) (v0 : Nat) (v1 : Nat) (v2 : Nat) (v3 : Nat) (fw0 : List Value) (fw1 : List Value) (fw2 : List Value) (sz : Nat) (glen : fs.length = 131) (gk0 : fs[44]? = some (.ref ow)) (gw0 : fw0.length = 72) (gt0 : fw0[0]? = some (.int (nI 0))) (gw1 : fw1.length = 72) (gt1 : fw1[0]? = some (.int (nI 0))) (gw2 : fw2.length = 72) (gt2 : fw2[0]? = some (.int (nI 0)))  : Met l y_Mo_value (mw y_Mo_value b_Mo_value 9 (some .int)) (rm_Mo_value) (PC g D [] [.ref h0, .int a1, .int a2, .int a3, .int a4] sz [(h0, .inr (14, fs)), (ow, .inl (g 6, 4, .inr (.inr (.inr (.inr (va_up (va_up (va_up (va_up (fun _ => none) 0 (some v0)) 1 (some v1)) 2 (some v2)) 3 (some v3))))))), (v0, .inr (13, fw0)), (v1, .inr (13, fw1)), (v2, .inr (13, fw2))]) (va_Qi (fun (r : Int32) (u : Unit) => r = (-1)) (QW D (va_A [(h0, .inr (14, fs)), (ow, .inl (g 6, 4, .inr (.inr (.inr (.inr (va_up (va_up (va_up (va_up (fun _ => none) 0 (some v0)) 1 (some v1)) 2 (some v2)) 3 (some v3))))))), (v0, .inr (13, fw0)), (v1, .inr (13, fw1)), (v2, .inr (13, fw2))] sz) (fun u : Unit => [])) (va_A [(h0, .inr (14, fs)), (ow, .inl (g 6, 4, .inr (.inr (.inr (.inr (va_up (va_up (va_up (va_up (fun _ => none) 0 (some v0)) 1 (some v1)) 2 (some v2)) 3 (some v3))))))), (v0, .inr (13, fw0)), (v1, .inr (13, fw1)), (v2, .inr (13, fw2))] sz)) 0 0 (va_A [(h0, .inr (14, fs)), (ow, .inl (g 6, 4, .inr (.inr (.inr (.inr (va_up (va_up (va_up (va_up (fun _ => none) 0 (some v0)) 1 (some v1)) 2 (some v2)) 3 (some v3))))))), (v0, .inr (13, fw0)), (v1, .inr (13, fw1)), (v2, .inr (13, fw2))] sz) := by
  refine ofI (by decide +kernel) (Nat.le_of_ble_eq_true rfl) ?_
  intro p e s m args below meth c A Q ls H locs G hsz hP hD hS hl hret
  subst hsz
  have hl : lv_has ls 9 [(0, .ref h0), (1, .int a1), (2, .int a2), (3, .int a3), (4, .int a4)] := hl
  refine lv_aload_n G.1 G.2.1 d_Mo_value_0 rfl (lv_at hl 0 rfl) ?_
  refine lv_iload_n G.1 G.2.1 d_Mo_value_1 rfl (lv_at hl 1 rfl) ?_
  refine kEi (wr := []) G (kV (As := [.int a1]) (rest := []) G hP hD hS [0, 1, 2, 3, 4] rfl rfl (c_Mo_isWorld l D g h0 a1 fs ow v0 v1 v2 v3 fw0 fw1 fw2 H.size glen gk0 gw0 gt0 gw1 gt1 gw2 gt2) w_Mo_isWorld q3482 rfl rfl ⟨Nat.le_of_ble_eq_true rfl, Nat.le_of_ble_eq_true rfl⟩ (fun _ h => absurd h List.not_mem_nil) 0 (ci := 14) rfl rfl rfl hl.1 rfl (Nat.le_of_ble_eq_true rfl) rfl ⟨Nat.le_of_ble_eq_true rfl, (Nat.le_of_ble_eq_true rfl)⟩ d_Mo_value_2) hP hD hS [0, 1, 2, 3, 4] [] rfl rfl rfl rfl (fun r_1 u_2 H locs hw hP hD hS hzH => ?_)
  have hw : r_1 = nI 0 := hw
  have hP : va_P D CL [(h0, .inr (14, fs)), (ow, .inl (g 6, 4, .inr (.inr (.inr (.inr (va_up (va_up (va_up (va_up (fun _ => none) 0 (some v0)) 1 (some v1)) 2 (some v2)) 3 (some v3))))))), (v0, .inr (13, fw0)), (v1, .inr (13, fw1)), (v2, .inr (13, fw2))] H := hP
  have hD : va_D A [(h0, .inr (14, fs)), (ow, .inl (g 6, 4, .inr (.inr (.inr (.inr (va_up (va_up (va_up (va_up (fun _ => none) 0 (some v0)) 1 (some v1)) 2 (some v2)) 3 (some v3))))))), (v0, .inr (13, fw0)), (v1, .inr (13, fw1)), (v2, .inr (13, fw2))] := hD
  subst hw
  refine tpst (w := [.int (nI 0)]) rfl ?_
  refine lv_if_eq (tgt := 20) G.1 G.2.1 d_Mo_value_5 (by decide) (fun c5 => ?_) (fun c5 => absurd c5 (by decide))
  refine lv_iconst (v := (-1)) G.1 G.2.1 d_Mo_value_20 (by decide) ?_
  refine hret (-1) () _ _ _ _ _ ls rfl (hP.sub [] rfl) (hD.sub [] (by decide) rfl) hS (Nat.le_of_ble_eq_true rfl) (Nat.le_of_ble_eq_true rfl) d_Mo_value_21
def y_Mo_fixed : MethodName := ⟨"ClassWorksModel", "fixed", "(III)I"⟩
abbrev b_Mo_fixed : ByteArray := prog_14_method_152_code
theorem d_Mo_fixed_0 : decode b_Mo_fixed 0 = .ok (.aload_n 0, 1) := by decide +kernel
theorem d_Mo_fixed_1 : decode b_Mo_fixed 1 = .ok (.iload_n 1, 1) := by decide +kernel
theorem d_Mo_fixed_2 : decode b_Mo_fixed 2 = .ok (.iload_n 2, 1) := by decide +kernel
theorem d_Mo_fixed_3 : decode b_Mo_fixed 3 = .ok (.invokevirtual 1129, 3) := by decide +kernel
theorem d_Mo_fixed_6 : decode b_Mo_fixed 6 = .ok (.ifCond .eq 22, 3) := by decide +kernel
theorem d_Mo_fixed_28 : decode b_Mo_fixed 28 = .ok (.iconst (-1), 1) := by decide +kernel
theorem d_Mo_fixed_29 : decode b_Mo_fixed 29 = .ok (.ireturn, 1) := by decide +kernel
abbrev rm_Mo_fixed : Room := { frames := 2, cells := 0, slots := 0, locals := 43 }
set_option maxHeartbeats 4000000 in
set_option maxRecDepth 100000 in
/-- fixed -/
theorem c_Mo_fixed (l : Launch) (D : va_G) (g : Nat → ClassId) (h0 : Nat) (a1 : Int32) (a2 : Int32) (a3 : Int32) (fs : List Value) (ow : Nat) (v0 : Nat) (v1 : Nat) (v2 : Nat) (v3 : Nat) (fw0 : List Value) (fw1 : List Value) (fw2 : List Value) (sz : Nat) (glen : fs.length = 131) (gk0 : fs[44]? = some (.ref ow)) (gw0 : fw0.length = 72) (gt0 : fw0[0]? = some (.int (nI 0))) (gw1 : fw1.length = 72) (gt1 : fw1[0]? = some (.int (nI 0))) (gw2 : fw2.length = 72) (gt2 : fw2[0]? = some (.int (nI 0)))  : Met l y_Mo_fixed (mw y_Mo_fixed b_Mo_fixed 6 (some .int)) (rm_Mo_fixed) (PC g D [] [.ref h0, .int a1, .int a2, .int a3] sz [(h0, .inr (14, fs)), (ow, .inl (g 6, 4, .inr (.inr (.inr (.inr (va_up (va_up (va_up (va_up (fun _ => none) 0 (some v0)) 1 (some v1)) 2 (some v2)) 3 (some v3))))))), (v0, .inr (13, fw0)), (v1, .inr (13, fw1)), (v2, .inr (13, fw2))]) (va_Qi (fun (r : Int32) (u : Unit) => r = (-1)) (QW D (va_A [(h0, .inr (14, fs)), (ow, .inl (g 6, 4, .inr (.inr (.inr (.inr (va_up (va_up (va_up (va_up (fun _ => none) 0 (some v0)) 1 (some v1)) 2 (some v2)) 3 (some v3))))))), (v0, .inr (13, fw0)), (v1, .inr (13, fw1)), (v2, .inr (13, fw2))] sz) (fun u : Unit => [])) (va_A [(h0, .inr (14, fs)), (ow, .inl (g 6, 4, .inr (.inr (.inr (.inr (va_up (va_up (va_up (va_up (fun _ => none) 0 (some v0)) 1 (some v1)) 2 (some v2)) 3 (some v3))))))), (v0, .inr (13, fw0)), (v1, .inr (13, fw1)), (v2, .inr (13, fw2))] sz)) 0 0 (va_A [(h0, .inr (14, fs)), (ow, .inl (g 6, 4, .inr (.inr (.inr (.inr (va_up (va_up (va_up (va_up (fun _ => none) 0 (some v0)) 1 (some v1)) 2 (some v2)) 3 (some v3))))))), (v0, .inr (13, fw0)), (v1, .inr (13, fw1)), (v2, .inr (13, fw2))] sz) := by
  refine ofI (by decide +kernel) (Nat.le_of_ble_eq_true rfl) ?_
  intro p e s m args below meth c A Q ls H locs G hsz hP hD hS hl hret
  subst hsz
  have hl : lv_has ls 6 [(0, .ref h0), (1, .int a1), (2, .int a2), (3, .int a3)] := hl
  refine lv_aload_n G.1 G.2.1 d_Mo_fixed_0 rfl (lv_at hl 0 rfl) ?_
  refine lv_iload_n G.1 G.2.1 d_Mo_fixed_1 rfl (lv_at hl 1 rfl) ?_
  refine lv_iload_n G.1 G.2.1 d_Mo_fixed_2 rfl (lv_at hl 2 rfl) ?_
  refine kEi (wr := []) G (kV (As := [.int a1, .int a2]) (rest := []) G hP hD hS [0, 1, 2, 3, 4] rfl rfl (c_Mo_isClass l D g h0 a1 a2 fs ow v0 v1 v2 v3 fw0 fw1 fw2 H.size glen gk0 gw0 gt0 gw1 gt1 gw2 gt2) w_Mo_isClass q3661 rfl rfl ⟨Nat.le_of_ble_eq_true rfl, Nat.le_of_ble_eq_true rfl⟩ (fun _ h => absurd h List.not_mem_nil) 0 (ci := 14) rfl rfl rfl hl.1 rfl (Nat.le_of_ble_eq_true rfl) rfl ⟨Nat.le_of_ble_eq_true rfl, (Nat.le_of_ble_eq_true rfl)⟩ d_Mo_fixed_3) hP hD hS [0, 1, 2, 3, 4] [] rfl rfl rfl rfl (fun r_1 u_2 H locs hw hP hD hS hzH => ?_)
  have hw : r_1 = nI 0 := hw
  have hP : va_P D CL [(h0, .inr (14, fs)), (ow, .inl (g 6, 4, .inr (.inr (.inr (.inr (va_up (va_up (va_up (va_up (fun _ => none) 0 (some v0)) 1 (some v1)) 2 (some v2)) 3 (some v3))))))), (v0, .inr (13, fw0)), (v1, .inr (13, fw1)), (v2, .inr (13, fw2))] H := hP
  have hD : va_D A [(h0, .inr (14, fs)), (ow, .inl (g 6, 4, .inr (.inr (.inr (.inr (va_up (va_up (va_up (va_up (fun _ => none) 0 (some v0)) 1 (some v1)) 2 (some v2)) 3 (some v3))))))), (v0, .inr (13, fw0)), (v1, .inr (13, fw1)), (v2, .inr (13, fw2))] := hD
  subst hw
  refine tpst (w := [.int (nI 0)]) rfl ?_
  refine lv_if_eq (tgt := 28) G.1 G.2.1 d_Mo_fixed_6 (by decide) (fun c6 => ?_) (fun c6 => absurd c6 (by decide))
  refine lv_iconst (v := (-1)) G.1 G.2.1 d_Mo_fixed_28 (by decide) ?_
  refine hret (-1) () _ _ _ _ _ ls rfl (hP.sub [] rfl) (hD.sub [] (by decide) rfl) hS (Nat.le_of_ble_eq_true rfl) (Nat.le_of_ble_eq_true rfl) d_Mo_fixed_29
def y_Mo_object : MethodName := ⟨"ClassWorksModel", "object", "(III)I"⟩
abbrev b_Mo_object : ByteArray := prog_14_method_153_code
theorem d_Mo_object_0 : decode b_Mo_object 0 = .ok (.aload_n 0, 1) := by decide +kernel
theorem d_Mo_object_1 : decode b_Mo_object 1 = .ok (.iload_n 1, 1) := by decide +kernel
theorem d_Mo_object_2 : decode b_Mo_object 2 = .ok (.invokevirtual 1118, 3) := by decide +kernel
theorem d_Mo_object_5 : decode b_Mo_object 5 = .ok (.ifCond .eq 35, 3) := by decide +kernel
theorem d_Mo_object_40 : decode b_Mo_object 40 = .ok (.iconst (-1), 1) := by decide +kernel
theorem d_Mo_object_41 : decode b_Mo_object 41 = .ok (.ireturn, 1) := by decide +kernel
abbrev rm_Mo_object : Room := { frames := 1, cells := 0, slots := 0, locals := 21 }
set_option maxHeartbeats 4000000 in
set_option maxRecDepth 100000 in
/-- object -/
theorem c_Mo_object (l : Launch) (D : va_G) (g : Nat → ClassId) (h0 : Nat) (a1 : Int32) (a2 : Int32) (a3 : Int32) (fs : List Value) (ow : Nat) (v0 : Nat) (v1 : Nat) (v2 : Nat) (v3 : Nat) (fw0 : List Value) (fw1 : List Value) (fw2 : List Value) (sz : Nat) (glen : fs.length = 131) (gk0 : fs[44]? = some (.ref ow)) (gw0 : fw0.length = 72) (gt0 : fw0[0]? = some (.int (nI 0))) (gw1 : fw1.length = 72) (gt1 : fw1[0]? = some (.int (nI 0))) (gw2 : fw2.length = 72) (gt2 : fw2[0]? = some (.int (nI 0)))  : Met l y_Mo_object (mw y_Mo_object b_Mo_object 5 (some .int)) (rm_Mo_object) (PC g D [] [.ref h0, .int a1, .int a2, .int a3] sz [(h0, .inr (14, fs)), (ow, .inl (g 6, 4, .inr (.inr (.inr (.inr (va_up (va_up (va_up (va_up (fun _ => none) 0 (some v0)) 1 (some v1)) 2 (some v2)) 3 (some v3))))))), (v0, .inr (13, fw0)), (v1, .inr (13, fw1)), (v2, .inr (13, fw2))]) (va_Qi (fun (r : Int32) (u : Unit) => r = (-1)) (QW D (va_A [(h0, .inr (14, fs)), (ow, .inl (g 6, 4, .inr (.inr (.inr (.inr (va_up (va_up (va_up (va_up (fun _ => none) 0 (some v0)) 1 (some v1)) 2 (some v2)) 3 (some v3))))))), (v0, .inr (13, fw0)), (v1, .inr (13, fw1)), (v2, .inr (13, fw2))] sz) (fun u : Unit => [])) (va_A [(h0, .inr (14, fs)), (ow, .inl (g 6, 4, .inr (.inr (.inr (.inr (va_up (va_up (va_up (va_up (fun _ => none) 0 (some v0)) 1 (some v1)) 2 (some v2)) 3 (some v3))))))), (v0, .inr (13, fw0)), (v1, .inr (13, fw1)), (v2, .inr (13, fw2))] sz)) 0 0 (va_A [(h0, .inr (14, fs)), (ow, .inl (g 6, 4, .inr (.inr (.inr (.inr (va_up (va_up (va_up (va_up (fun _ => none) 0 (some v0)) 1 (some v1)) 2 (some v2)) 3 (some v3))))))), (v0, .inr (13, fw0)), (v1, .inr (13, fw1)), (v2, .inr (13, fw2))] sz) := by
  refine ofI (by decide +kernel) (Nat.le_of_ble_eq_true rfl) ?_
  intro p e s m args below meth c A Q ls H locs G hsz hP hD hS hl hret
  subst hsz
  have hl : lv_has ls 5 [(0, .ref h0), (1, .int a1), (2, .int a2), (3, .int a3)] := hl
  refine lv_aload_n G.1 G.2.1 d_Mo_object_0 rfl (lv_at hl 0 rfl) ?_
  refine lv_iload_n G.1 G.2.1 d_Mo_object_1 rfl (lv_at hl 1 rfl) ?_
  refine kEi (wr := []) G (kV (As := [.int a1]) (rest := []) G hP hD hS [0, 1, 2, 3, 4] rfl rfl (c_Mo_isWorld l D g h0 a1 fs ow v0 v1 v2 v3 fw0 fw1 fw2 H.size glen gk0 gw0 gt0 gw1 gt1 gw2 gt2) w_Mo_isWorld q3482 rfl rfl ⟨Nat.le_of_ble_eq_true rfl, Nat.le_of_ble_eq_true rfl⟩ (fun _ h => absurd h List.not_mem_nil) 0 (ci := 14) rfl rfl rfl hl.1 rfl (Nat.le_of_ble_eq_true rfl) rfl ⟨Nat.le_of_ble_eq_true rfl, (Nat.le_of_ble_eq_true rfl)⟩ d_Mo_object_2) hP hD hS [0, 1, 2, 3, 4] [] rfl rfl rfl rfl (fun r_1 u_2 H locs hw hP hD hS hzH => ?_)
  have hw : r_1 = nI 0 := hw
  have hP : va_P D CL [(h0, .inr (14, fs)), (ow, .inl (g 6, 4, .inr (.inr (.inr (.inr (va_up (va_up (va_up (va_up (fun _ => none) 0 (some v0)) 1 (some v1)) 2 (some v2)) 3 (some v3))))))), (v0, .inr (13, fw0)), (v1, .inr (13, fw1)), (v2, .inr (13, fw2))] H := hP
  have hD : va_D A [(h0, .inr (14, fs)), (ow, .inl (g 6, 4, .inr (.inr (.inr (.inr (va_up (va_up (va_up (va_up (fun _ => none) 0 (some v0)) 1 (some v1)) 2 (some v2)) 3 (some v3))))))), (v0, .inr (13, fw0)), (v1, .inr (13, fw1)), (v2, .inr (13, fw2))] := hD
  subst hw
  refine tpst (w := [.int (nI 0)]) rfl ?_
  refine lv_if_eq (tgt := 40) G.1 G.2.1 d_Mo_object_5 (by decide) (fun c5 => ?_) (fun c5 => absurd c5 (by decide))
  refine lv_iconst (v := (-1)) G.1 G.2.1 d_Mo_object_40 (by decide) ?_
  refine hret (-1) () _ _ _ _ _ ls rfl (hP.sub [] rfl) (hD.sub [] (by decide) rfl) hS (Nat.le_of_ble_eq_true rfl) (Nat.le_of_ble_eq_true rfl) d_Mo_object_41
def y_Mo_print : MethodName := ⟨"ClassWorksModel", "print", "(II)I"⟩
abbrev b_Mo_print : ByteArray := prog_14_method_162_code
theorem d_Mo_print_0 : decode b_Mo_print 0 = .ok (.aload_n 0, 1) := by decide +kernel
theorem d_Mo_print_1 : decode b_Mo_print 1 = .ok (.iload_n 1, 1) := by decide +kernel
theorem d_Mo_print_2 : decode b_Mo_print 2 = .ok (.iload_n 2, 1) := by decide +kernel
theorem d_Mo_print_3 : decode b_Mo_print 3 = .ok (.invokevirtual 1129, 3) := by decide +kernel
theorem d_Mo_print_6 : decode b_Mo_print 6 = .ok (.ifCond .eq 9, 3) := by decide +kernel
theorem d_Mo_print_15 : decode b_Mo_print 15 = .ok (.iconst (-1), 1) := by decide +kernel
theorem d_Mo_print_16 : decode b_Mo_print 16 = .ok (.ireturn, 1) := by decide +kernel
abbrev rm_Mo_print : Room := { frames := 2, cells := 0, slots := 0, locals := 43 }
set_option maxHeartbeats 4000000 in
set_option maxRecDepth 100000 in
/-- print -/
theorem c_Mo_print (l : Launch) (D : va_G) (g : Nat → ClassId) (h0 : Nat) (a1 : Int32) (a2 : Int32) (fs : List Value) (ow : Nat) (v0 : Nat) (v1 : Nat) (v2 : Nat) (v3 : Nat) (fw0 : List Value) (fw1 : List Value) (fw2 : List Value) (sz : Nat) (glen : fs.length = 131) (gk0 : fs[44]? = some (.ref ow)) (gw0 : fw0.length = 72) (gt0 : fw0[0]? = some (.int (nI 0))) (gw1 : fw1.length = 72) (gt1 : fw1[0]? = some (.int (nI 0))) (gw2 : fw2.length = 72) (gt2 : fw2[0]? = some (.int (nI 0)))  : Met l y_Mo_print (mw y_Mo_print b_Mo_print 4 (some .int)) (rm_Mo_print) (PC g D [] [.ref h0, .int a1, .int a2] sz [(h0, .inr (14, fs)), (ow, .inl (g 6, 4, .inr (.inr (.inr (.inr (va_up (va_up (va_up (va_up (fun _ => none) 0 (some v0)) 1 (some v1)) 2 (some v2)) 3 (some v3))))))), (v0, .inr (13, fw0)), (v1, .inr (13, fw1)), (v2, .inr (13, fw2))]) (va_Qi (fun (r : Int32) (u : Unit) => r = (-1)) (QW D (va_A [(h0, .inr (14, fs)), (ow, .inl (g 6, 4, .inr (.inr (.inr (.inr (va_up (va_up (va_up (va_up (fun _ => none) 0 (some v0)) 1 (some v1)) 2 (some v2)) 3 (some v3))))))), (v0, .inr (13, fw0)), (v1, .inr (13, fw1)), (v2, .inr (13, fw2))] sz) (fun u : Unit => [])) (va_A [(h0, .inr (14, fs)), (ow, .inl (g 6, 4, .inr (.inr (.inr (.inr (va_up (va_up (va_up (va_up (fun _ => none) 0 (some v0)) 1 (some v1)) 2 (some v2)) 3 (some v3))))))), (v0, .inr (13, fw0)), (v1, .inr (13, fw1)), (v2, .inr (13, fw2))] sz)) 0 0 (va_A [(h0, .inr (14, fs)), (ow, .inl (g 6, 4, .inr (.inr (.inr (.inr (va_up (va_up (va_up (va_up (fun _ => none) 0 (some v0)) 1 (some v1)) 2 (some v2)) 3 (some v3))))))), (v0, .inr (13, fw0)), (v1, .inr (13, fw1)), (v2, .inr (13, fw2))] sz) := by
  refine ofI (by decide +kernel) (Nat.le_of_ble_eq_true rfl) ?_
  intro p e s m args below meth c A Q ls H locs G hsz hP hD hS hl hret
  subst hsz
  have hl : lv_has ls 4 [(0, .ref h0), (1, .int a1), (2, .int a2)] := hl
  refine lv_aload_n G.1 G.2.1 d_Mo_print_0 rfl (lv_at hl 0 rfl) ?_
  refine lv_iload_n G.1 G.2.1 d_Mo_print_1 rfl (lv_at hl 1 rfl) ?_
  refine lv_iload_n G.1 G.2.1 d_Mo_print_2 rfl (lv_at hl 2 rfl) ?_
  refine kEi (wr := []) G (kV (As := [.int a1, .int a2]) (rest := []) G hP hD hS [0, 1, 2, 3, 4] rfl rfl (c_Mo_isClass l D g h0 a1 a2 fs ow v0 v1 v2 v3 fw0 fw1 fw2 H.size glen gk0 gw0 gt0 gw1 gt1 gw2 gt2) w_Mo_isClass q3661 rfl rfl ⟨Nat.le_of_ble_eq_true rfl, Nat.le_of_ble_eq_true rfl⟩ (fun _ h => absurd h List.not_mem_nil) 0 (ci := 14) rfl rfl rfl hl.1 rfl (Nat.le_of_ble_eq_true rfl) rfl ⟨Nat.le_of_ble_eq_true rfl, (Nat.le_of_ble_eq_true rfl)⟩ d_Mo_print_3) hP hD hS [0, 1, 2, 3, 4] [] rfl rfl rfl rfl (fun r_1 u_2 H locs hw hP hD hS hzH => ?_)
  have hw : r_1 = nI 0 := hw
  have hP : va_P D CL [(h0, .inr (14, fs)), (ow, .inl (g 6, 4, .inr (.inr (.inr (.inr (va_up (va_up (va_up (va_up (fun _ => none) 0 (some v0)) 1 (some v1)) 2 (some v2)) 3 (some v3))))))), (v0, .inr (13, fw0)), (v1, .inr (13, fw1)), (v2, .inr (13, fw2))] H := hP
  have hD : va_D A [(h0, .inr (14, fs)), (ow, .inl (g 6, 4, .inr (.inr (.inr (.inr (va_up (va_up (va_up (va_up (fun _ => none) 0 (some v0)) 1 (some v1)) 2 (some v2)) 3 (some v3))))))), (v0, .inr (13, fw0)), (v1, .inr (13, fw1)), (v2, .inr (13, fw2))] := hD
  subst hw
  refine tpst (w := [.int (nI 0)]) rfl ?_
  refine lv_if_eq (tgt := 15) G.1 G.2.1 d_Mo_print_6 (by decide) (fun c6 => ?_) (fun c6 => absurd c6 (by decide))
  refine lv_iconst (v := (-1)) G.1 G.2.1 d_Mo_print_15 (by decide) ?_
  refine hret (-1) () _ _ _ _ _ ls rfl (hP.sub [] rfl) (hD.sub [] (by decide) rfl) hS (Nat.le_of_ble_eq_true rfl) (Nat.le_of_ble_eq_true rfl) d_Mo_print_16
def y_Mo_kinds : MethodName := ⟨"ClassWorksModel", "kinds", "(IIIZ)I"⟩
abbrev b_Mo_kinds : ByteArray := prog_14_method_170_code
theorem d_Mo_kinds_0 : decode b_Mo_kinds 0 = .ok (.aload_n 0, 1) := by decide +kernel
theorem d_Mo_kinds_1 : decode b_Mo_kinds 1 = .ok (.iload_n 1, 1) := by decide +kernel
theorem d_Mo_kinds_2 : decode b_Mo_kinds 2 = .ok (.iload_n 2, 1) := by decide +kernel
theorem d_Mo_kinds_3 : decode b_Mo_kinds 3 = .ok (.invokevirtual 1129, 3) := by decide +kernel
theorem d_Mo_kinds_6 : decode b_Mo_kinds 6 = .ok (.ifCond .eq 41, 3) := by decide +kernel
theorem d_Mo_kinds_47 : decode b_Mo_kinds 47 = .ok (.iconst (-1), 1) := by decide +kernel
theorem d_Mo_kinds_48 : decode b_Mo_kinds 48 = .ok (.ireturn, 1) := by decide +kernel
abbrev rm_Mo_kinds : Room := { frames := 2, cells := 0, slots := 0, locals := 43 }
set_option maxHeartbeats 4000000 in
set_option maxRecDepth 100000 in
/-- kinds -/
theorem c_Mo_kinds (l : Launch) (D : va_G) (g : Nat → ClassId) (h0 : Nat) (a1 : Int32) (a2 : Int32) (a3 : Int32) (a4 : Int32) (fs : List Value) (ow : Nat) (v0 : Nat) (v1 : Nat) (v2 : Nat) (v3 : Nat) (fw0 : List Value) (fw1 : List Value) (fw2 : List Value) (sz : Nat) (glen : fs.length = 131) (gk0 : fs[44]? = some (.ref ow)) (gw0 : fw0.length = 72) (gt0 : fw0[0]? = some (.int (nI 0))) (gw1 : fw1.length = 72) (gt1 : fw1[0]? = some (.int (nI 0))) (gw2 : fw2.length = 72) (gt2 : fw2[0]? = some (.int (nI 0)))  : Met l y_Mo_kinds (mw y_Mo_kinds b_Mo_kinds 9 (some .int)) (rm_Mo_kinds) (PC g D [] [.ref h0, .int a1, .int a2, .int a3, .int a4] sz [(h0, .inr (14, fs)), (ow, .inl (g 6, 4, .inr (.inr (.inr (.inr (va_up (va_up (va_up (va_up (fun _ => none) 0 (some v0)) 1 (some v1)) 2 (some v2)) 3 (some v3))))))), (v0, .inr (13, fw0)), (v1, .inr (13, fw1)), (v2, .inr (13, fw2))]) (va_Qi (fun (r : Int32) (u : Unit) => r = (-1)) (QW D (va_A [(h0, .inr (14, fs)), (ow, .inl (g 6, 4, .inr (.inr (.inr (.inr (va_up (va_up (va_up (va_up (fun _ => none) 0 (some v0)) 1 (some v1)) 2 (some v2)) 3 (some v3))))))), (v0, .inr (13, fw0)), (v1, .inr (13, fw1)), (v2, .inr (13, fw2))] sz) (fun u : Unit => [])) (va_A [(h0, .inr (14, fs)), (ow, .inl (g 6, 4, .inr (.inr (.inr (.inr (va_up (va_up (va_up (va_up (fun _ => none) 0 (some v0)) 1 (some v1)) 2 (some v2)) 3 (some v3))))))), (v0, .inr (13, fw0)), (v1, .inr (13, fw1)), (v2, .inr (13, fw2))] sz)) 0 0 (va_A [(h0, .inr (14, fs)), (ow, .inl (g 6, 4, .inr (.inr (.inr (.inr (va_up (va_up (va_up (va_up (fun _ => none) 0 (some v0)) 1 (some v1)) 2 (some v2)) 3 (some v3))))))), (v0, .inr (13, fw0)), (v1, .inr (13, fw1)), (v2, .inr (13, fw2))] sz) := by
  refine ofI (by decide +kernel) (Nat.le_of_ble_eq_true rfl) ?_
  intro p e s m args below meth c A Q ls H locs G hsz hP hD hS hl hret
  subst hsz
  have hl : lv_has ls 9 [(0, .ref h0), (1, .int a1), (2, .int a2), (3, .int a3), (4, .int a4)] := hl
  refine lv_aload_n G.1 G.2.1 d_Mo_kinds_0 rfl (lv_at hl 0 rfl) ?_
  refine lv_iload_n G.1 G.2.1 d_Mo_kinds_1 rfl (lv_at hl 1 rfl) ?_
  refine lv_iload_n G.1 G.2.1 d_Mo_kinds_2 rfl (lv_at hl 2 rfl) ?_
  refine kEi (wr := []) G (kV (As := [.int a1, .int a2]) (rest := []) G hP hD hS [0, 1, 2, 3, 4] rfl rfl (c_Mo_isClass l D g h0 a1 a2 fs ow v0 v1 v2 v3 fw0 fw1 fw2 H.size glen gk0 gw0 gt0 gw1 gt1 gw2 gt2) w_Mo_isClass q3661 rfl rfl ⟨Nat.le_of_ble_eq_true rfl, Nat.le_of_ble_eq_true rfl⟩ (fun _ h => absurd h List.not_mem_nil) 0 (ci := 14) rfl rfl rfl hl.1 rfl (Nat.le_of_ble_eq_true rfl) rfl ⟨Nat.le_of_ble_eq_true rfl, (Nat.le_of_ble_eq_true rfl)⟩ d_Mo_kinds_3) hP hD hS [0, 1, 2, 3, 4] [] rfl rfl rfl rfl (fun r_1 u_2 H locs hw hP hD hS hzH => ?_)
  have hw : r_1 = nI 0 := hw
  have hP : va_P D CL [(h0, .inr (14, fs)), (ow, .inl (g 6, 4, .inr (.inr (.inr (.inr (va_up (va_up (va_up (va_up (fun _ => none) 0 (some v0)) 1 (some v1)) 2 (some v2)) 3 (some v3))))))), (v0, .inr (13, fw0)), (v1, .inr (13, fw1)), (v2, .inr (13, fw2))] H := hP
  have hD : va_D A [(h0, .inr (14, fs)), (ow, .inl (g 6, 4, .inr (.inr (.inr (.inr (va_up (va_up (va_up (va_up (fun _ => none) 0 (some v0)) 1 (some v1)) 2 (some v2)) 3 (some v3))))))), (v0, .inr (13, fw0)), (v1, .inr (13, fw1)), (v2, .inr (13, fw2))] := hD
  subst hw
  refine tpst (w := [.int (nI 0)]) rfl ?_
  refine lv_if_eq (tgt := 47) G.1 G.2.1 d_Mo_kinds_6 (by decide) (fun c6 => ?_) (fun c6 => absurd c6 (by decide))
  refine lv_iconst (v := (-1)) G.1 G.2.1 d_Mo_kinds_47 (by decide) ?_
  refine hret (-1) () _ _ _ _ _ ls rfl (hP.sub [] rfl) (hD.sub [] (by decide) rfl) hS (Nat.le_of_ble_eq_true rfl) (Nat.le_of_ble_eq_true rfl) d_Mo_kinds_48
def y_Mo_foretell : MethodName := ⟨"ClassWorksModel", "foretell", "(IIII)I"⟩
abbrev b_Mo_foretell : ByteArray := prog_14_method_180_code
theorem d_Mo_foretell_0 : decode b_Mo_foretell 0 = .ok (.aload_n 0, 1) := by decide +kernel
theorem d_Mo_foretell_1 : decode b_Mo_foretell 1 = .ok (.iload_n 1, 1) := by decide +kernel
theorem d_Mo_foretell_2 : decode b_Mo_foretell 2 = .ok (.iload_n 2, 1) := by decide +kernel
theorem d_Mo_foretell_3 : decode b_Mo_foretell 3 = .ok (.invokevirtual 1129, 3) := by decide +kernel
theorem d_Mo_foretell_6 : decode b_Mo_foretell 6 = .ok (.ifCond .eq 18, 3) := by decide +kernel
theorem d_Mo_foretell_24 : decode b_Mo_foretell 24 = .ok (.iconst (-1), 1) := by decide +kernel
theorem d_Mo_foretell_25 : decode b_Mo_foretell 25 = .ok (.ireturn, 1) := by decide +kernel
abbrev rm_Mo_foretell : Room := { frames := 2, cells := 0, slots := 0, locals := 43 }
set_option maxHeartbeats 4000000 in
set_option maxRecDepth 100000 in
/-- foretell -/
theorem c_Mo_foretell (l : Launch) (D : va_G) (g : Nat → ClassId) (h0 : Nat) (a1 : Int32) (a2 : Int32) (a3 : Int32) (a4 : Int32) (fs : List Value) (ow : Nat) (v0 : Nat) (v1 : Nat) (v2 : Nat) (v3 : Nat) (fw0 : List Value) (fw1 : List Value) (fw2 : List Value) (sz : Nat) (glen : fs.length = 131) (gk0 : fs[44]? = some (.ref ow)) (gw0 : fw0.length = 72) (gt0 : fw0[0]? = some (.int (nI 0))) (gw1 : fw1.length = 72) (gt1 : fw1[0]? = some (.int (nI 0))) (gw2 : fw2.length = 72) (gt2 : fw2[0]? = some (.int (nI 0)))  : Met l y_Mo_foretell (mw y_Mo_foretell b_Mo_foretell 10 (some .int)) (rm_Mo_foretell) (PC g D [] [.ref h0, .int a1, .int a2, .int a3, .int a4] sz [(h0, .inr (14, fs)), (ow, .inl (g 6, 4, .inr (.inr (.inr (.inr (va_up (va_up (va_up (va_up (fun _ => none) 0 (some v0)) 1 (some v1)) 2 (some v2)) 3 (some v3))))))), (v0, .inr (13, fw0)), (v1, .inr (13, fw1)), (v2, .inr (13, fw2))]) (va_Qi (fun (r : Int32) (u : Unit) => r = (-1)) (QW D (va_A [(h0, .inr (14, fs)), (ow, .inl (g 6, 4, .inr (.inr (.inr (.inr (va_up (va_up (va_up (va_up (fun _ => none) 0 (some v0)) 1 (some v1)) 2 (some v2)) 3 (some v3))))))), (v0, .inr (13, fw0)), (v1, .inr (13, fw1)), (v2, .inr (13, fw2))] sz) (fun u : Unit => [])) (va_A [(h0, .inr (14, fs)), (ow, .inl (g 6, 4, .inr (.inr (.inr (.inr (va_up (va_up (va_up (va_up (fun _ => none) 0 (some v0)) 1 (some v1)) 2 (some v2)) 3 (some v3))))))), (v0, .inr (13, fw0)), (v1, .inr (13, fw1)), (v2, .inr (13, fw2))] sz)) 0 0 (va_A [(h0, .inr (14, fs)), (ow, .inl (g 6, 4, .inr (.inr (.inr (.inr (va_up (va_up (va_up (va_up (fun _ => none) 0 (some v0)) 1 (some v1)) 2 (some v2)) 3 (some v3))))))), (v0, .inr (13, fw0)), (v1, .inr (13, fw1)), (v2, .inr (13, fw2))] sz) := by
  refine ofI (by decide +kernel) (Nat.le_of_ble_eq_true rfl) ?_
  intro p e s m args below meth c A Q ls H locs G hsz hP hD hS hl hret
  subst hsz
  have hl : lv_has ls 10 [(0, .ref h0), (1, .int a1), (2, .int a2), (3, .int a3), (4, .int a4)] := hl
  refine lv_aload_n G.1 G.2.1 d_Mo_foretell_0 rfl (lv_at hl 0 rfl) ?_
  refine lv_iload_n G.1 G.2.1 d_Mo_foretell_1 rfl (lv_at hl 1 rfl) ?_
  refine lv_iload_n G.1 G.2.1 d_Mo_foretell_2 rfl (lv_at hl 2 rfl) ?_
  refine kEi (wr := []) G (kV (As := [.int a1, .int a2]) (rest := []) G hP hD hS [0, 1, 2, 3, 4] rfl rfl (c_Mo_isClass l D g h0 a1 a2 fs ow v0 v1 v2 v3 fw0 fw1 fw2 H.size glen gk0 gw0 gt0 gw1 gt1 gw2 gt2) w_Mo_isClass q3661 rfl rfl ⟨Nat.le_of_ble_eq_true rfl, Nat.le_of_ble_eq_true rfl⟩ (fun _ h => absurd h List.not_mem_nil) 0 (ci := 14) rfl rfl rfl hl.1 rfl (Nat.le_of_ble_eq_true rfl) rfl ⟨Nat.le_of_ble_eq_true rfl, (Nat.le_of_ble_eq_true rfl)⟩ d_Mo_foretell_3) hP hD hS [0, 1, 2, 3, 4] [] rfl rfl rfl rfl (fun r_1 u_2 H locs hw hP hD hS hzH => ?_)
  have hw : r_1 = nI 0 := hw
  have hP : va_P D CL [(h0, .inr (14, fs)), (ow, .inl (g 6, 4, .inr (.inr (.inr (.inr (va_up (va_up (va_up (va_up (fun _ => none) 0 (some v0)) 1 (some v1)) 2 (some v2)) 3 (some v3))))))), (v0, .inr (13, fw0)), (v1, .inr (13, fw1)), (v2, .inr (13, fw2))] H := hP
  have hD : va_D A [(h0, .inr (14, fs)), (ow, .inl (g 6, 4, .inr (.inr (.inr (.inr (va_up (va_up (va_up (va_up (fun _ => none) 0 (some v0)) 1 (some v1)) 2 (some v2)) 3 (some v3))))))), (v0, .inr (13, fw0)), (v1, .inr (13, fw1)), (v2, .inr (13, fw2))] := hD
  subst hw
  refine tpst (w := [.int (nI 0)]) rfl ?_
  refine lv_if_eq (tgt := 24) G.1 G.2.1 d_Mo_foretell_6 (by decide) (fun c6 => ?_) (fun c6 => absurd c6 (by decide))
  refine lv_iconst (v := (-1)) G.1 G.2.1 d_Mo_foretell_24 (by decide) ?_
  refine hret (-1) () _ _ _ _ _ ls rfl (hP.sub [] rfl) (hD.sub [] (by decide) rfl) hS (Nat.le_of_ble_eq_true rfl) (Nat.le_of_ble_eq_true rfl) d_Mo_foretell_25
def y_Mo_asked : MethodName := ⟨"ClassWorksModel", "asked", "(II)I"⟩
abbrev b_Mo_asked : ByteArray := prog_14_method_181_code
theorem d_Mo_asked_0 : decode b_Mo_asked 0 = .ok (.aload_n 0, 1) := by decide +kernel
theorem d_Mo_asked_1 : decode b_Mo_asked 1 = .ok (.iload_n 1, 1) := by decide +kernel
theorem d_Mo_asked_2 : decode b_Mo_asked 2 = .ok (.iload_n 2, 1) := by decide +kernel
theorem d_Mo_asked_3 : decode b_Mo_asked 3 = .ok (.invokevirtual 1129, 3) := by decide +kernel
theorem d_Mo_asked_6 : decode b_Mo_asked 6 = .ok (.ifCond .ne 5, 3) := by decide +kernel
theorem d_Mo_asked_9 : decode b_Mo_asked 9 = .ok (.iconst (-1), 1) := by decide +kernel
theorem d_Mo_asked_10 : decode b_Mo_asked 10 = .ok (.ireturn, 1) := by decide +kernel
abbrev rm_Mo_asked : Room := { frames := 2, cells := 0, slots := 0, locals := 43 }
set_option maxHeartbeats 4000000 in
set_option maxRecDepth 100000 in
/-- asked -/
theorem c_Mo_asked (l : Launch) (D : va_G) (g : Nat → ClassId) (h0 : Nat) (a1 : Int32) (a2 : Int32) (fs : List Value) (ow : Nat) (v0 : Nat) (v1 : Nat) (v2 : Nat) (v3 : Nat) (fw0 : List Value) (fw1 : List Value) (fw2 : List Value) (sz : Nat) (glen : fs.length = 131) (gk0 : fs[44]? = some (.ref ow)) (gw0 : fw0.length = 72) (gt0 : fw0[0]? = some (.int (nI 0))) (gw1 : fw1.length = 72) (gt1 : fw1[0]? = some (.int (nI 0))) (gw2 : fw2.length = 72) (gt2 : fw2[0]? = some (.int (nI 0)))  : Met l y_Mo_asked (mw y_Mo_asked b_Mo_asked 4 (some .int)) (rm_Mo_asked) (PC g D [] [.ref h0, .int a1, .int a2] sz [(h0, .inr (14, fs)), (ow, .inl (g 6, 4, .inr (.inr (.inr (.inr (va_up (va_up (va_up (va_up (fun _ => none) 0 (some v0)) 1 (some v1)) 2 (some v2)) 3 (some v3))))))), (v0, .inr (13, fw0)), (v1, .inr (13, fw1)), (v2, .inr (13, fw2))]) (va_Qi (fun (r : Int32) (u : Unit) => r = (-1)) (QW D (va_A [(h0, .inr (14, fs)), (ow, .inl (g 6, 4, .inr (.inr (.inr (.inr (va_up (va_up (va_up (va_up (fun _ => none) 0 (some v0)) 1 (some v1)) 2 (some v2)) 3 (some v3))))))), (v0, .inr (13, fw0)), (v1, .inr (13, fw1)), (v2, .inr (13, fw2))] sz) (fun u : Unit => [])) (va_A [(h0, .inr (14, fs)), (ow, .inl (g 6, 4, .inr (.inr (.inr (.inr (va_up (va_up (va_up (va_up (fun _ => none) 0 (some v0)) 1 (some v1)) 2 (some v2)) 3 (some v3))))))), (v0, .inr (13, fw0)), (v1, .inr (13, fw1)), (v2, .inr (13, fw2))] sz)) 0 0 (va_A [(h0, .inr (14, fs)), (ow, .inl (g 6, 4, .inr (.inr (.inr (.inr (va_up (va_up (va_up (va_up (fun _ => none) 0 (some v0)) 1 (some v1)) 2 (some v2)) 3 (some v3))))))), (v0, .inr (13, fw0)), (v1, .inr (13, fw1)), (v2, .inr (13, fw2))] sz) := by
  refine ofI (by decide +kernel) (Nat.le_of_ble_eq_true rfl) ?_
  intro p e s m args below meth c A Q ls H locs G hsz hP hD hS hl hret
  subst hsz
  have hl : lv_has ls 4 [(0, .ref h0), (1, .int a1), (2, .int a2)] := hl
  refine lv_aload_n G.1 G.2.1 d_Mo_asked_0 rfl (lv_at hl 0 rfl) ?_
  refine lv_iload_n G.1 G.2.1 d_Mo_asked_1 rfl (lv_at hl 1 rfl) ?_
  refine lv_iload_n G.1 G.2.1 d_Mo_asked_2 rfl (lv_at hl 2 rfl) ?_
  refine kEi (wr := []) G (kV (As := [.int a1, .int a2]) (rest := []) G hP hD hS [0, 1, 2, 3, 4] rfl rfl (c_Mo_isClass l D g h0 a1 a2 fs ow v0 v1 v2 v3 fw0 fw1 fw2 H.size glen gk0 gw0 gt0 gw1 gt1 gw2 gt2) w_Mo_isClass q3661 rfl rfl ⟨Nat.le_of_ble_eq_true rfl, Nat.le_of_ble_eq_true rfl⟩ (fun _ h => absurd h List.not_mem_nil) 0 (ci := 14) rfl rfl rfl hl.1 rfl (Nat.le_of_ble_eq_true rfl) rfl ⟨Nat.le_of_ble_eq_true rfl, (Nat.le_of_ble_eq_true rfl)⟩ d_Mo_asked_3) hP hD hS [0, 1, 2, 3, 4] [] rfl rfl rfl rfl (fun r_1 u_2 H locs hw hP hD hS hzH => ?_)
  have hw : r_1 = nI 0 := hw
  have hP : va_P D CL [(h0, .inr (14, fs)), (ow, .inl (g 6, 4, .inr (.inr (.inr (.inr (va_up (va_up (va_up (va_up (fun _ => none) 0 (some v0)) 1 (some v1)) 2 (some v2)) 3 (some v3))))))), (v0, .inr (13, fw0)), (v1, .inr (13, fw1)), (v2, .inr (13, fw2))] H := hP
  have hD : va_D A [(h0, .inr (14, fs)), (ow, .inl (g 6, 4, .inr (.inr (.inr (.inr (va_up (va_up (va_up (va_up (fun _ => none) 0 (some v0)) 1 (some v1)) 2 (some v2)) 3 (some v3))))))), (v0, .inr (13, fw0)), (v1, .inr (13, fw1)), (v2, .inr (13, fw2))] := hD
  subst hw
  refine tpst (w := [.int (nI 0)]) rfl ?_
  refine lv_if_ne (tgt := 11) G.1 G.2.1 d_Mo_asked_6 (by decide) (fun c6 => absurd c6 (by decide)) (fun c6 => ?_)
  refine lv_iconst (v := (-1)) G.1 G.2.1 d_Mo_asked_9 (by decide) ?_
  refine hret (-1) () _ _ _ _ _ ls rfl (hP.sub [] rfl) (hD.sub [] (by decide) rfl) hS (Nat.le_of_ble_eq_true rfl) (Nat.le_of_ble_eq_true rfl) d_Mo_asked_10
def y_Mo_trace : MethodName := ⟨"ClassWorksModel", "trace", "(III)I"⟩
abbrev b_Mo_trace : ByteArray := prog_14_method_192_code
theorem d_Mo_trace_0 : decode b_Mo_trace 0 = .ok (.aload_n 0, 1) := by decide +kernel
theorem d_Mo_trace_1 : decode b_Mo_trace 1 = .ok (.iload_n 1, 1) := by decide +kernel
theorem d_Mo_trace_2 : decode b_Mo_trace 2 = .ok (.invokevirtual 1118, 3) := by decide +kernel
theorem d_Mo_trace_5 : decode b_Mo_trace 5 = .ok (.ifCond .eq 16, 3) := by decide +kernel
theorem d_Mo_trace_21 : decode b_Mo_trace 21 = .ok (.iconst (-1), 1) := by decide +kernel
theorem d_Mo_trace_22 : decode b_Mo_trace 22 = .ok (.ireturn, 1) := by decide +kernel
abbrev rm_Mo_trace : Room := { frames := 1, cells := 0, slots := 0, locals := 21 }
set_option maxHeartbeats 4000000 in
set_option maxRecDepth 100000 in
/-- trace -/
theorem c_Mo_trace (l : Launch) (D : va_G) (g : Nat → ClassId) (h0 : Nat) (a1 : Int32) (a2 : Int32) (a3 : Int32) (fs : List Value) (ow : Nat) (v0 : Nat) (v1 : Nat) (v2 : Nat) (v3 : Nat) (fw0 : List Value) (fw1 : List Value) (fw2 : List Value) (sz : Nat) (glen : fs.length = 131) (gk0 : fs[44]? = some (.ref ow)) (gw0 : fw0.length = 72) (gt0 : fw0[0]? = some (.int (nI 0))) (gw1 : fw1.length = 72) (gt1 : fw1[0]? = some (.int (nI 0))) (gw2 : fw2.length = 72) (gt2 : fw2[0]? = some (.int (nI 0)))  : Met l y_Mo_trace (mw y_Mo_trace b_Mo_trace 6 (some .int)) (rm_Mo_trace) (PC g D [] [.ref h0, .int a1, .int a2, .int a3] sz [(h0, .inr (14, fs)), (ow, .inl (g 6, 4, .inr (.inr (.inr (.inr (va_up (va_up (va_up (va_up (fun _ => none) 0 (some v0)) 1 (some v1)) 2 (some v2)) 3 (some v3))))))), (v0, .inr (13, fw0)), (v1, .inr (13, fw1)), (v2, .inr (13, fw2))]) (va_Qi (fun (r : Int32) (u : Unit) => r = (-1)) (QW D (va_A [(h0, .inr (14, fs)), (ow, .inl (g 6, 4, .inr (.inr (.inr (.inr (va_up (va_up (va_up (va_up (fun _ => none) 0 (some v0)) 1 (some v1)) 2 (some v2)) 3 (some v3))))))), (v0, .inr (13, fw0)), (v1, .inr (13, fw1)), (v2, .inr (13, fw2))] sz) (fun u : Unit => [])) (va_A [(h0, .inr (14, fs)), (ow, .inl (g 6, 4, .inr (.inr (.inr (.inr (va_up (va_up (va_up (va_up (fun _ => none) 0 (some v0)) 1 (some v1)) 2 (some v2)) 3 (some v3))))))), (v0, .inr (13, fw0)), (v1, .inr (13, fw1)), (v2, .inr (13, fw2))] sz)) 0 0 (va_A [(h0, .inr (14, fs)), (ow, .inl (g 6, 4, .inr (.inr (.inr (.inr (va_up (va_up (va_up (va_up (fun _ => none) 0 (some v0)) 1 (some v1)) 2 (some v2)) 3 (some v3))))))), (v0, .inr (13, fw0)), (v1, .inr (13, fw1)), (v2, .inr (13, fw2))] sz) := by
  refine ofI (by decide +kernel) (Nat.le_of_ble_eq_true rfl) ?_
  intro p e s m args below meth c A Q ls H locs G hsz hP hD hS hl hret
  subst hsz
  have hl : lv_has ls 6 [(0, .ref h0), (1, .int a1), (2, .int a2), (3, .int a3)] := hl
  refine lv_aload_n G.1 G.2.1 d_Mo_trace_0 rfl (lv_at hl 0 rfl) ?_
  refine lv_iload_n G.1 G.2.1 d_Mo_trace_1 rfl (lv_at hl 1 rfl) ?_
  refine kEi (wr := []) G (kV (As := [.int a1]) (rest := []) G hP hD hS [0, 1, 2, 3, 4] rfl rfl (c_Mo_isWorld l D g h0 a1 fs ow v0 v1 v2 v3 fw0 fw1 fw2 H.size glen gk0 gw0 gt0 gw1 gt1 gw2 gt2) w_Mo_isWorld q3482 rfl rfl ⟨Nat.le_of_ble_eq_true rfl, Nat.le_of_ble_eq_true rfl⟩ (fun _ h => absurd h List.not_mem_nil) 0 (ci := 14) rfl rfl rfl hl.1 rfl (Nat.le_of_ble_eq_true rfl) rfl ⟨Nat.le_of_ble_eq_true rfl, (Nat.le_of_ble_eq_true rfl)⟩ d_Mo_trace_2) hP hD hS [0, 1, 2, 3, 4] [] rfl rfl rfl rfl (fun r_1 u_2 H locs hw hP hD hS hzH => ?_)
  have hw : r_1 = nI 0 := hw
  have hP : va_P D CL [(h0, .inr (14, fs)), (ow, .inl (g 6, 4, .inr (.inr (.inr (.inr (va_up (va_up (va_up (va_up (fun _ => none) 0 (some v0)) 1 (some v1)) 2 (some v2)) 3 (some v3))))))), (v0, .inr (13, fw0)), (v1, .inr (13, fw1)), (v2, .inr (13, fw2))] H := hP
  have hD : va_D A [(h0, .inr (14, fs)), (ow, .inl (g 6, 4, .inr (.inr (.inr (.inr (va_up (va_up (va_up (va_up (fun _ => none) 0 (some v0)) 1 (some v1)) 2 (some v2)) 3 (some v3))))))), (v0, .inr (13, fw0)), (v1, .inr (13, fw1)), (v2, .inr (13, fw2))] := hD
  subst hw
  refine tpst (w := [.int (nI 0)]) rfl ?_
  refine lv_if_eq (tgt := 21) G.1 G.2.1 d_Mo_trace_5 (by decide) (fun c5 => ?_) (fun c5 => absurd c5 (by decide))
  refine lv_iconst (v := (-1)) G.1 G.2.1 d_Mo_trace_21 (by decide) ?_
  refine hret (-1) () _ _ _ _ _ ls rfl (hP.sub [] rfl) (hD.sub [] (by decide) rfl) hS (Nat.le_of_ble_eq_true rfl) (Nat.le_of_ble_eq_true rfl) d_Mo_trace_22
def y_Mo_done : MethodName := ⟨"ClassWorksModel", "done", "(II)I"⟩
abbrev b_Mo_done : ByteArray := prog_14_method_193_code
theorem d_Mo_done_0 : decode b_Mo_done 0 = .ok (.aload_n 0, 1) := by decide +kernel
theorem d_Mo_done_1 : decode b_Mo_done 1 = .ok (.iload_n 1, 1) := by decide +kernel
theorem d_Mo_done_2 : decode b_Mo_done 2 = .ok (.invokevirtual 1118, 3) := by decide +kernel
theorem d_Mo_done_5 : decode b_Mo_done 5 = .ok (.ifCond .eq 27, 3) := by decide +kernel
theorem d_Mo_done_32 : decode b_Mo_done 32 = .ok (.iconst (-1), 1) := by decide +kernel
theorem d_Mo_done_33 : decode b_Mo_done 33 = .ok (.ireturn, 1) := by decide +kernel
abbrev rm_Mo_done : Room := { frames := 1, cells := 0, slots := 0, locals := 21 }
set_option maxHeartbeats 4000000 in
set_option maxRecDepth 100000 in
/-- done -/
theorem c_Mo_done (l : Launch) (D : va_G) (g : Nat → ClassId) (h0 : Nat) (a1 : Int32) (a2 : Int32) (fs : List Value) (ow : Nat) (v0 : Nat) (v1 : Nat) (v2 : Nat) (v3 : Nat) (fw0 : List Value) (fw1 : List Value) (fw2 : List Value) (sz : Nat) (glen : fs.length = 131) (gk0 : fs[44]? = some (.ref ow)) (gw0 : fw0.length = 72) (gt0 : fw0[0]? = some (.int (nI 0))) (gw1 : fw1.length = 72) (gt1 : fw1[0]? = some (.int (nI 0))) (gw2 : fw2.length = 72) (gt2 : fw2[0]? = some (.int (nI 0)))  : Met l y_Mo_done (mw y_Mo_done b_Mo_done 3 (some .int)) (rm_Mo_done) (PC g D [] [.ref h0, .int a1, .int a2] sz [(h0, .inr (14, fs)), (ow, .inl (g 6, 4, .inr (.inr (.inr (.inr (va_up (va_up (va_up (va_up (fun _ => none) 0 (some v0)) 1 (some v1)) 2 (some v2)) 3 (some v3))))))), (v0, .inr (13, fw0)), (v1, .inr (13, fw1)), (v2, .inr (13, fw2))]) (va_Qi (fun (r : Int32) (u : Unit) => r = (-1)) (QW D (va_A [(h0, .inr (14, fs)), (ow, .inl (g 6, 4, .inr (.inr (.inr (.inr (va_up (va_up (va_up (va_up (fun _ => none) 0 (some v0)) 1 (some v1)) 2 (some v2)) 3 (some v3))))))), (v0, .inr (13, fw0)), (v1, .inr (13, fw1)), (v2, .inr (13, fw2))] sz) (fun u : Unit => [])) (va_A [(h0, .inr (14, fs)), (ow, .inl (g 6, 4, .inr (.inr (.inr (.inr (va_up (va_up (va_up (va_up (fun _ => none) 0 (some v0)) 1 (some v1)) 2 (some v2)) 3 (some v3))))))), (v0, .inr (13, fw0)), (v1, .inr (13, fw1)), (v2, .inr (13, fw2))] sz)) 0 0 (va_A [(h0, .inr (14, fs)), (ow, .inl (g 6, 4, .inr (.inr (.inr (.inr (va_up (va_up (va_up (va_up (fun _ => none) 0 (some v0)) 1 (some v1)) 2 (some v2)) 3 (some v3))))))), (v0, .inr (13, fw0)), (v1, .inr (13, fw1)), (v2, .inr (13, fw2))] sz) := by
  refine ofI (by decide +kernel) (Nat.le_of_ble_eq_true rfl) ?_
  intro p e s m args below meth c A Q ls H locs G hsz hP hD hS hl hret
  subst hsz
  have hl : lv_has ls 3 [(0, .ref h0), (1, .int a1), (2, .int a2)] := hl
  refine lv_aload_n G.1 G.2.1 d_Mo_done_0 rfl (lv_at hl 0 rfl) ?_
  refine lv_iload_n G.1 G.2.1 d_Mo_done_1 rfl (lv_at hl 1 rfl) ?_
  refine kEi (wr := []) G (kV (As := [.int a1]) (rest := []) G hP hD hS [0, 1, 2, 3, 4] rfl rfl (c_Mo_isWorld l D g h0 a1 fs ow v0 v1 v2 v3 fw0 fw1 fw2 H.size glen gk0 gw0 gt0 gw1 gt1 gw2 gt2) w_Mo_isWorld q3482 rfl rfl ⟨Nat.le_of_ble_eq_true rfl, Nat.le_of_ble_eq_true rfl⟩ (fun _ h => absurd h List.not_mem_nil) 0 (ci := 14) rfl rfl rfl hl.1 rfl (Nat.le_of_ble_eq_true rfl) rfl ⟨Nat.le_of_ble_eq_true rfl, (Nat.le_of_ble_eq_true rfl)⟩ d_Mo_done_2) hP hD hS [0, 1, 2, 3, 4] [] rfl rfl rfl rfl (fun r_1 u_2 H locs hw hP hD hS hzH => ?_)
  have hw : r_1 = nI 0 := hw
  have hP : va_P D CL [(h0, .inr (14, fs)), (ow, .inl (g 6, 4, .inr (.inr (.inr (.inr (va_up (va_up (va_up (va_up (fun _ => none) 0 (some v0)) 1 (some v1)) 2 (some v2)) 3 (some v3))))))), (v0, .inr (13, fw0)), (v1, .inr (13, fw1)), (v2, .inr (13, fw2))] H := hP
  have hD : va_D A [(h0, .inr (14, fs)), (ow, .inl (g 6, 4, .inr (.inr (.inr (.inr (va_up (va_up (va_up (va_up (fun _ => none) 0 (some v0)) 1 (some v1)) 2 (some v2)) 3 (some v3))))))), (v0, .inr (13, fw0)), (v1, .inr (13, fw1)), (v2, .inr (13, fw2))] := hD
  subst hw
  refine tpst (w := [.int (nI 0)]) rfl ?_
  refine lv_if_eq (tgt := 32) G.1 G.2.1 d_Mo_done_5 (by decide) (fun c5 => ?_) (fun c5 => absurd c5 (by decide))
  refine lv_iconst (v := (-1)) G.1 G.2.1 d_Mo_done_32 (by decide) ?_
  refine hret (-1) () _ _ _ _ _ ls rfl (hP.sub [] rfl) (hD.sub [] (by decide) rfl) hS (Nat.le_of_ble_eq_true rfl) (Nat.le_of_ble_eq_true rfl) d_Mo_done_33
def y_Mo_collect : MethodName := ⟨"ClassWorksModel", "collect", "(I)I"⟩
abbrev b_Mo_collect : ByteArray := prog_14_method_188_code
theorem d_Mo_collect_0 : decode b_Mo_collect 0 = .ok (.aload_n 0, 1) := by decide +kernel
theorem d_Mo_collect_1 : decode b_Mo_collect 1 = .ok (.iload_n 1, 1) := by decide +kernel
theorem d_Mo_collect_2 : decode b_Mo_collect 2 = .ok (.invokevirtual 1118, 3) := by decide +kernel
theorem d_Mo_collect_5 : decode b_Mo_collect 5 = .ok (.ifCond .ne 5, 3) := by decide +kernel
theorem d_Mo_collect_8 : decode b_Mo_collect 8 = .ok (.iconst (-1), 1) := by decide +kernel
theorem d_Mo_collect_9 : decode b_Mo_collect 9 = .ok (.ireturn, 1) := by decide +kernel
abbrev rm_Mo_collect : Room := { frames := 1, cells := 0, slots := 0, locals := 21 }
set_option maxHeartbeats 4000000 in
set_option maxRecDepth 100000 in
/-- collect -/
theorem c_Mo_collect (l : Launch) (D : va_G) (g : Nat → ClassId) (h0 : Nat) (a1 : Int32) (fs : List Value) (ow : Nat) (v0 : Nat) (v1 : Nat) (v2 : Nat) (v3 : Nat) (fw0 : List Value) (fw1 : List Value) (fw2 : List Value) (sz : Nat) (glen : fs.length = 131) (gk0 : fs[44]? = some (.ref ow)) (gw0 : fw0.length = 72) (gt0 : fw0[0]? = some (.int (nI 0))) (gw1 : fw1.length = 72) (gt1 : fw1[0]? = some (.int (nI 0))) (gw2 : fw2.length = 72) (gt2 : fw2[0]? = some (.int (nI 0)))  : Met l y_Mo_collect (mw y_Mo_collect b_Mo_collect 7 (some .int)) (rm_Mo_collect) (PC g D [] [.ref h0, .int a1] sz [(h0, .inr (14, fs)), (ow, .inl (g 6, 4, .inr (.inr (.inr (.inr (va_up (va_up (va_up (va_up (fun _ => none) 0 (some v0)) 1 (some v1)) 2 (some v2)) 3 (some v3))))))), (v0, .inr (13, fw0)), (v1, .inr (13, fw1)), (v2, .inr (13, fw2))]) (va_Qi (fun (r : Int32) (u : Unit) => r = (-1)) (QW D (va_A [(h0, .inr (14, fs)), (ow, .inl (g 6, 4, .inr (.inr (.inr (.inr (va_up (va_up (va_up (va_up (fun _ => none) 0 (some v0)) 1 (some v1)) 2 (some v2)) 3 (some v3))))))), (v0, .inr (13, fw0)), (v1, .inr (13, fw1)), (v2, .inr (13, fw2))] sz) (fun u : Unit => [])) (va_A [(h0, .inr (14, fs)), (ow, .inl (g 6, 4, .inr (.inr (.inr (.inr (va_up (va_up (va_up (va_up (fun _ => none) 0 (some v0)) 1 (some v1)) 2 (some v2)) 3 (some v3))))))), (v0, .inr (13, fw0)), (v1, .inr (13, fw1)), (v2, .inr (13, fw2))] sz)) 0 0 (va_A [(h0, .inr (14, fs)), (ow, .inl (g 6, 4, .inr (.inr (.inr (.inr (va_up (va_up (va_up (va_up (fun _ => none) 0 (some v0)) 1 (some v1)) 2 (some v2)) 3 (some v3))))))), (v0, .inr (13, fw0)), (v1, .inr (13, fw1)), (v2, .inr (13, fw2))] sz) := by
  refine ofI (by decide +kernel) (Nat.le_of_ble_eq_true rfl) ?_
  intro p e s m args below meth c A Q ls H locs G hsz hP hD hS hl hret
  subst hsz
  have hl : lv_has ls 7 [(0, .ref h0), (1, .int a1)] := hl
  refine lv_aload_n G.1 G.2.1 d_Mo_collect_0 rfl (lv_at hl 0 rfl) ?_
  refine lv_iload_n G.1 G.2.1 d_Mo_collect_1 rfl (lv_at hl 1 rfl) ?_
  refine kEi (wr := []) G (kV (As := [.int a1]) (rest := []) G hP hD hS [0, 1, 2, 3, 4] rfl rfl (c_Mo_isWorld l D g h0 a1 fs ow v0 v1 v2 v3 fw0 fw1 fw2 H.size glen gk0 gw0 gt0 gw1 gt1 gw2 gt2) w_Mo_isWorld q3482 rfl rfl ⟨Nat.le_of_ble_eq_true rfl, Nat.le_of_ble_eq_true rfl⟩ (fun _ h => absurd h List.not_mem_nil) 0 (ci := 14) rfl rfl rfl hl.1 rfl (Nat.le_of_ble_eq_true rfl) rfl ⟨Nat.le_of_ble_eq_true rfl, (Nat.le_of_ble_eq_true rfl)⟩ d_Mo_collect_2) hP hD hS [0, 1, 2, 3, 4] [] rfl rfl rfl rfl (fun r_1 u_2 H locs hw hP hD hS hzH => ?_)
  have hw : r_1 = nI 0 := hw
  have hP : va_P D CL [(h0, .inr (14, fs)), (ow, .inl (g 6, 4, .inr (.inr (.inr (.inr (va_up (va_up (va_up (va_up (fun _ => none) 0 (some v0)) 1 (some v1)) 2 (some v2)) 3 (some v3))))))), (v0, .inr (13, fw0)), (v1, .inr (13, fw1)), (v2, .inr (13, fw2))] H := hP
  have hD : va_D A [(h0, .inr (14, fs)), (ow, .inl (g 6, 4, .inr (.inr (.inr (.inr (va_up (va_up (va_up (va_up (fun _ => none) 0 (some v0)) 1 (some v1)) 2 (some v2)) 3 (some v3))))))), (v0, .inr (13, fw0)), (v1, .inr (13, fw1)), (v2, .inr (13, fw2))] := hD
  subst hw
  refine tpst (w := [.int (nI 0)]) rfl ?_
  refine lv_if_ne (tgt := 10) G.1 G.2.1 d_Mo_collect_5 (by decide) (fun c5 => absurd c5 (by decide)) (fun c5 => ?_)
  refine lv_iconst (v := (-1)) G.1 G.2.1 d_Mo_collect_8 (by decide) ?_
  refine hret (-1) () _ _ _ _ _ ls rfl (hP.sub [] rfl) (hD.sub [] (by decide) rfl) hS (Nat.le_of_ble_eq_true rfl) (Nat.le_of_ble_eq_true rfl) d_Mo_collect_9
def y_Mo_differ : MethodName := ⟨"ClassWorksModel", "differ", "(IIIII)I"⟩
abbrev b_Mo_differ : ByteArray := prog_14_method_191_code
theorem d_Mo_differ_0 : decode b_Mo_differ 0 = .ok (.aload_n 0, 1) := by decide +kernel
theorem d_Mo_differ_1 : decode b_Mo_differ 1 = .ok (.iload_n 1, 1) := by decide +kernel
theorem d_Mo_differ_2 : decode b_Mo_differ 2 = .ok (.iload_n 2, 1) := by decide +kernel
theorem d_Mo_differ_3 : decode b_Mo_differ 3 = .ok (.invokevirtual 1129, 3) := by decide +kernel
theorem d_Mo_differ_6 : decode b_Mo_differ 6 = .ok (.ifCond .eq 24, 3) := by decide +kernel
theorem d_Mo_differ_30 : decode b_Mo_differ 30 = .ok (.iconst (-1), 1) := by decide +kernel
theorem d_Mo_differ_31 : decode b_Mo_differ 31 = .ok (.ireturn, 1) := by decide +kernel
abbrev rm_Mo_differ : Room := { frames := 2, cells := 0, slots := 0, locals := 43 }
set_option maxHeartbeats 4000000 in
set_option maxRecDepth 100000 in
/-- differ -/
theorem c_Mo_differ (l : Launch) (D : va_G) (g : Nat → ClassId) (h0 : Nat) (a1 : Int32) (a2 : Int32) (a3 : Int32) (a4 : Int32) (a5 : Int32) (fs : List Value) (ow : Nat) (v0 : Nat) (v1 : Nat) (v2 : Nat) (v3 : Nat) (fw0 : List Value) (fw1 : List Value) (fw2 : List Value) (sz : Nat) (glen : fs.length = 131) (gk0 : fs[44]? = some (.ref ow)) (gw0 : fw0.length = 72) (gt0 : fw0[0]? = some (.int (nI 0))) (gw1 : fw1.length = 72) (gt1 : fw1[0]? = some (.int (nI 0))) (gw2 : fw2.length = 72) (gt2 : fw2[0]? = some (.int (nI 0)))  : Met l y_Mo_differ (mw y_Mo_differ b_Mo_differ 11 (some .int)) (rm_Mo_differ) (PC g D [] [.ref h0, .int a1, .int a2, .int a3, .int a4, .int a5] sz [(h0, .inr (14, fs)), (ow, .inl (g 6, 4, .inr (.inr (.inr (.inr (va_up (va_up (va_up (va_up (fun _ => none) 0 (some v0)) 1 (some v1)) 2 (some v2)) 3 (some v3))))))), (v0, .inr (13, fw0)), (v1, .inr (13, fw1)), (v2, .inr (13, fw2))]) (va_Qi (fun (r : Int32) (u : Unit) => r = (-1)) (QW D (va_A [(h0, .inr (14, fs)), (ow, .inl (g 6, 4, .inr (.inr (.inr (.inr (va_up (va_up (va_up (va_up (fun _ => none) 0 (some v0)) 1 (some v1)) 2 (some v2)) 3 (some v3))))))), (v0, .inr (13, fw0)), (v1, .inr (13, fw1)), (v2, .inr (13, fw2))] sz) (fun u : Unit => [])) (va_A [(h0, .inr (14, fs)), (ow, .inl (g 6, 4, .inr (.inr (.inr (.inr (va_up (va_up (va_up (va_up (fun _ => none) 0 (some v0)) 1 (some v1)) 2 (some v2)) 3 (some v3))))))), (v0, .inr (13, fw0)), (v1, .inr (13, fw1)), (v2, .inr (13, fw2))] sz)) 0 0 (va_A [(h0, .inr (14, fs)), (ow, .inl (g 6, 4, .inr (.inr (.inr (.inr (va_up (va_up (va_up (va_up (fun _ => none) 0 (some v0)) 1 (some v1)) 2 (some v2)) 3 (some v3))))))), (v0, .inr (13, fw0)), (v1, .inr (13, fw1)), (v2, .inr (13, fw2))] sz) := by
  refine ofI (by decide +kernel) (Nat.le_of_ble_eq_true rfl) ?_
  intro p e s m args below meth c A Q ls H locs G hsz hP hD hS hl hret
  subst hsz
  have hl : lv_has ls 11 [(0, .ref h0), (1, .int a1), (2, .int a2), (3, .int a3), (4, .int a4), (5, .int a5)] := hl
  refine lv_aload_n G.1 G.2.1 d_Mo_differ_0 rfl (lv_at hl 0 rfl) ?_
  refine lv_iload_n G.1 G.2.1 d_Mo_differ_1 rfl (lv_at hl 1 rfl) ?_
  refine lv_iload_n G.1 G.2.1 d_Mo_differ_2 rfl (lv_at hl 2 rfl) ?_
  refine kEi (wr := []) G (kV (As := [.int a1, .int a2]) (rest := []) G hP hD hS [0, 1, 2, 3, 4] rfl rfl (c_Mo_isClass l D g h0 a1 a2 fs ow v0 v1 v2 v3 fw0 fw1 fw2 H.size glen gk0 gw0 gt0 gw1 gt1 gw2 gt2) w_Mo_isClass q3661 rfl rfl ⟨Nat.le_of_ble_eq_true rfl, Nat.le_of_ble_eq_true rfl⟩ (fun _ h => absurd h List.not_mem_nil) 0 (ci := 14) rfl rfl rfl hl.1 rfl (Nat.le_of_ble_eq_true rfl) rfl ⟨Nat.le_of_ble_eq_true rfl, (Nat.le_of_ble_eq_true rfl)⟩ d_Mo_differ_3) hP hD hS [0, 1, 2, 3, 4] [] rfl rfl rfl rfl (fun r_1 u_2 H locs hw hP hD hS hzH => ?_)
  have hw : r_1 = nI 0 := hw
  have hP : va_P D CL [(h0, .inr (14, fs)), (ow, .inl (g 6, 4, .inr (.inr (.inr (.inr (va_up (va_up (va_up (va_up (fun _ => none) 0 (some v0)) 1 (some v1)) 2 (some v2)) 3 (some v3))))))), (v0, .inr (13, fw0)), (v1, .inr (13, fw1)), (v2, .inr (13, fw2))] H := hP
  have hD : va_D A [(h0, .inr (14, fs)), (ow, .inl (g 6, 4, .inr (.inr (.inr (.inr (va_up (va_up (va_up (va_up (fun _ => none) 0 (some v0)) 1 (some v1)) 2 (some v2)) 3 (some v3))))))), (v0, .inr (13, fw0)), (v1, .inr (13, fw1)), (v2, .inr (13, fw2))] := hD
  subst hw
  refine tpst (w := [.int (nI 0)]) rfl ?_
  refine lv_if_eq (tgt := 30) G.1 G.2.1 d_Mo_differ_6 (by decide) (fun c6 => ?_) (fun c6 => absurd c6 (by decide))
  refine lv_iconst (v := (-1)) G.1 G.2.1 d_Mo_differ_30 (by decide) ?_
  refine hret (-1) () _ _ _ _ _ ls rfl (hP.sub [] rfl) (hD.sub [] (by decide) rfl) hS (Nat.le_of_ble_eq_true rfl) (Nat.le_of_ble_eq_true rfl) d_Mo_differ_31
def y_Mo_reach : MethodName := ⟨"ClassWorksModel", "reach", "(III)I"⟩
abbrev b_Mo_reach : ByteArray := prog_14_method_185_code
theorem d_Mo_reach_0 : decode b_Mo_reach 0 = .ok (.aload_n 0, 1) := by decide +kernel
theorem d_Mo_reach_1 : decode b_Mo_reach 1 = .ok (.iload_n 1, 1) := by decide +kernel
theorem d_Mo_reach_2 : decode b_Mo_reach 2 = .ok (.iload_n 2, 1) := by decide +kernel
theorem d_Mo_reach_3 : decode b_Mo_reach 3 = .ok (.invokevirtual 1129, 3) := by decide +kernel
theorem d_Mo_reach_6 : decode b_Mo_reach 6 = .ok (.ifCond .eq 22, 3) := by decide +kernel
theorem d_Mo_reach_28 : decode b_Mo_reach 28 = .ok (.iconst (-1), 1) := by decide +kernel
theorem d_Mo_reach_29 : decode b_Mo_reach 29 = .ok (.ireturn, 1) := by decide +kernel
abbrev rm_Mo_reach : Room := { frames := 2, cells := 0, slots := 0, locals := 43 }
set_option maxHeartbeats 4000000 in
set_option maxRecDepth 100000 in
/-- reach -/
theorem c_Mo_reach (l : Launch) (D : va_G) (g : Nat → ClassId) (h0 : Nat) (a1 : Int32) (a2 : Int32) (a3 : Int32) (fs : List Value) (ow : Nat) (v0 : Nat) (v1 : Nat) (v2 : Nat) (v3 : Nat) (fw0 : List Value) (fw1 : List Value) (fw2 : List Value) (sz : Nat) (glen : fs.length = 131) (gk0 : fs[44]? = some (.ref ow)) (gw0 : fw0.length = 72) (gt0 : fw0[0]? = some (.int (nI 0))) (gw1 : fw1.length = 72) (gt1 : fw1[0]? = some (.int (nI 0))) (gw2 : fw2.length = 72) (gt2 : fw2[0]? = some (.int (nI 0)))  : Met l y_Mo_reach (mw y_Mo_reach b_Mo_reach 7 (some .int)) (rm_Mo_reach) (PC g D [] [.ref h0, .int a1, .int a2, .int a3] sz [(h0, .inr (14, fs)), (ow, .inl (g 6, 4, .inr (.inr (.inr (.inr (va_up (va_up (va_up (va_up (fun _ => none) 0 (some v0)) 1 (some v1)) 2 (some v2)) 3 (some v3))))))), (v0, .inr (13, fw0)), (v1, .inr (13, fw1)), (v2, .inr (13, fw2))]) (va_Qi (fun (r : Int32) (u : Unit) => r = (-1)) (QW D (va_A [(h0, .inr (14, fs)), (ow, .inl (g 6, 4, .inr (.inr (.inr (.inr (va_up (va_up (va_up (va_up (fun _ => none) 0 (some v0)) 1 (some v1)) 2 (some v2)) 3 (some v3))))))), (v0, .inr (13, fw0)), (v1, .inr (13, fw1)), (v2, .inr (13, fw2))] sz) (fun u : Unit => [])) (va_A [(h0, .inr (14, fs)), (ow, .inl (g 6, 4, .inr (.inr (.inr (.inr (va_up (va_up (va_up (va_up (fun _ => none) 0 (some v0)) 1 (some v1)) 2 (some v2)) 3 (some v3))))))), (v0, .inr (13, fw0)), (v1, .inr (13, fw1)), (v2, .inr (13, fw2))] sz)) 0 0 (va_A [(h0, .inr (14, fs)), (ow, .inl (g 6, 4, .inr (.inr (.inr (.inr (va_up (va_up (va_up (va_up (fun _ => none) 0 (some v0)) 1 (some v1)) 2 (some v2)) 3 (some v3))))))), (v0, .inr (13, fw0)), (v1, .inr (13, fw1)), (v2, .inr (13, fw2))] sz) := by
  refine ofI (by decide +kernel) (Nat.le_of_ble_eq_true rfl) ?_
  intro p e s m args below meth c A Q ls H locs G hsz hP hD hS hl hret
  subst hsz
  have hl : lv_has ls 7 [(0, .ref h0), (1, .int a1), (2, .int a2), (3, .int a3)] := hl
  refine lv_aload_n G.1 G.2.1 d_Mo_reach_0 rfl (lv_at hl 0 rfl) ?_
  refine lv_iload_n G.1 G.2.1 d_Mo_reach_1 rfl (lv_at hl 1 rfl) ?_
  refine lv_iload_n G.1 G.2.1 d_Mo_reach_2 rfl (lv_at hl 2 rfl) ?_
  refine kEi (wr := []) G (kV (As := [.int a1, .int a2]) (rest := []) G hP hD hS [0, 1, 2, 3, 4] rfl rfl (c_Mo_isClass l D g h0 a1 a2 fs ow v0 v1 v2 v3 fw0 fw1 fw2 H.size glen gk0 gw0 gt0 gw1 gt1 gw2 gt2) w_Mo_isClass q3661 rfl rfl ⟨Nat.le_of_ble_eq_true rfl, Nat.le_of_ble_eq_true rfl⟩ (fun _ h => absurd h List.not_mem_nil) 0 (ci := 14) rfl rfl rfl hl.1 rfl (Nat.le_of_ble_eq_true rfl) rfl ⟨Nat.le_of_ble_eq_true rfl, (Nat.le_of_ble_eq_true rfl)⟩ d_Mo_reach_3) hP hD hS [0, 1, 2, 3, 4] [] rfl rfl rfl rfl (fun r_1 u_2 H locs hw hP hD hS hzH => ?_)
  have hw : r_1 = nI 0 := hw
  have hP : va_P D CL [(h0, .inr (14, fs)), (ow, .inl (g 6, 4, .inr (.inr (.inr (.inr (va_up (va_up (va_up (va_up (fun _ => none) 0 (some v0)) 1 (some v1)) 2 (some v2)) 3 (some v3))))))), (v0, .inr (13, fw0)), (v1, .inr (13, fw1)), (v2, .inr (13, fw2))] H := hP
  have hD : va_D A [(h0, .inr (14, fs)), (ow, .inl (g 6, 4, .inr (.inr (.inr (.inr (va_up (va_up (va_up (va_up (fun _ => none) 0 (some v0)) 1 (some v1)) 2 (some v2)) 3 (some v3))))))), (v0, .inr (13, fw0)), (v1, .inr (13, fw1)), (v2, .inr (13, fw2))] := hD
  subst hw
  refine tpst (w := [.int (nI 0)]) rfl ?_
  refine lv_if_eq (tgt := 28) G.1 G.2.1 d_Mo_reach_6 (by decide) (fun c6 => ?_) (fun c6 => absurd c6 (by decide))
  refine lv_iconst (v := (-1)) G.1 G.2.1 d_Mo_reach_28 (by decide) ?_
  refine hret (-1) () _ _ _ _ _ ls rfl (hP.sub [] rfl) (hD.sub [] (by decide) rfl) hS (Nat.le_of_ble_eq_true rfl) (Nat.le_of_ble_eq_true rfl) d_Mo_reach_29
def y_Mo_outcome : MethodName := ⟨"ClassWorksModel", "outcome", "(III)I"⟩
abbrev b_Mo_outcome : ByteArray := prog_14_method_199_code
theorem q4227 : Cond.code y_Mo_isTrial b_Mo_isTrial 2 (some (.boolean)) ∈ lw_ok := lw_okmem (List.mem_of_getElem? (i := 4227) (by decide +kernel)) rfl
theorem q4226 : Cond.instanceMethod y_Mo_isTrial ∈ lw_ok := lw_okmem (List.mem_of_getElem? (i := 4226) (by decide +kernel)) rfl
theorem q320 : Cond.selects y_Mo_isTrial.cls y_Mo_isTrial y_Mo_isTrial ∈ lw_ok := lw_okmem (List.mem_of_getElem? (i := 320) (by decide +kernel)) rfl
theorem w_Mo_isTrial : CWv y_Mo_isTrial b_Mo_isTrial 2 (some (.boolean)) 1 ∧ Cond.instanceMethod y_Mo_isTrial ∈ lw_ok ∧ Cond.selects y_Mo_isTrial.cls y_Mo_isTrial y_Mo_isTrial ∈ lw_ok := ⟨⟨q4227, q348, by decide +kernel, by decide +kernel, by decide +kernel⟩, q4226, q320⟩
theorem q4224 : Cond.methodLink "ClassWorksModel" 1329 y_Mo_isTrial ∈ lw_ok := lw_okmem (List.mem_of_getElem? (i := 4224) (by decide +kernel)) rfl
theorem d_Mo_outcome_0 : decode b_Mo_outcome 0 = .ok (.aload_n 0, 1) := by decide +kernel
theorem d_Mo_outcome_1 : decode b_Mo_outcome 1 = .ok (.iload_n 1, 1) := by decide +kernel
theorem d_Mo_outcome_2 : decode b_Mo_outcome 2 = .ok (.invokevirtual 1329, 3) := by decide +kernel
theorem d_Mo_outcome_5 : decode b_Mo_outcome 5 = .ok (.ifCond .eq 23, 3) := by decide +kernel
theorem d_Mo_outcome_28 : decode b_Mo_outcome 28 = .ok (.iconst (-1), 1) := by decide +kernel
theorem d_Mo_outcome_29 : decode b_Mo_outcome 29 = .ok (.ireturn, 1) := by decide +kernel
abbrev rm_Mo_outcome : Room := { frames := 1, cells := 0, slots := 0, locals := 21 }
set_option maxHeartbeats 4000000 in
set_option maxRecDepth 100000 in
/-- outcome -/
theorem c_Mo_outcome (l : Launch) (D : va_G) (g : Nat → ClassId) (h0 : Nat) (a1 : Int32) (a2 : Int32) (a3 : Int32) (fs : List Value) (sz : Nat) (glen : fs.length = 131) (gk0 : fs[121]? = some (.int (nI 0)))  : Met l y_Mo_outcome (mw y_Mo_outcome b_Mo_outcome 4 (some .int)) (rm_Mo_outcome) (PC g D [] [.ref h0, .int a1, .int a2, .int a3] sz [(h0, .inr (14, fs))]) (va_Qi (fun (r : Int32) (u : Unit) => r = (-1)) (QW D (va_A [(h0, .inr (14, fs))] sz) (fun u : Unit => [])) (va_A [(h0, .inr (14, fs))] sz)) 0 0 (va_A [(h0, .inr (14, fs))] sz) := by
  refine ofI (by decide +kernel) (Nat.le_of_ble_eq_true rfl) ?_
  intro p e s m args below meth c A Q ls H locs G hsz hP hD hS hl hret
  subst hsz
  have hl : lv_has ls 4 [(0, .ref h0), (1, .int a1), (2, .int a2), (3, .int a3)] := hl
  refine lv_aload_n G.1 G.2.1 d_Mo_outcome_0 rfl (lv_at hl 0 rfl) ?_
  refine lv_iload_n G.1 G.2.1 d_Mo_outcome_1 rfl (lv_at hl 1 rfl) ?_
  refine kEi (wr := []) G (kV (As := [.int a1]) (rest := []) G hP hD hS [0] rfl rfl (c_Mo_isTrial l D g h0 a1 fs H.size glen gk0) w_Mo_isTrial q4224 rfl rfl ⟨Nat.le_of_ble_eq_true rfl, Nat.le_of_ble_eq_true rfl⟩ (fun _ h => absurd h List.not_mem_nil) 0 (ci := 14) rfl rfl rfl hl.1 rfl (Nat.le_of_ble_eq_true rfl) rfl ⟨Nat.le_of_ble_eq_true rfl, (Nat.le_of_ble_eq_true rfl)⟩ d_Mo_outcome_2) hP hD hS [0] [] rfl rfl rfl rfl (fun r_1 u_2 H locs hw hP hD hS hzH => ?_)
  have hw : r_1 = nI 0 := hw
  have hP : va_P D CL [(h0, .inr (14, fs))] H := hP
  have hD : va_D A [(h0, .inr (14, fs))] := hD
  subst hw
  refine tpst (w := [.int (nI 0)]) rfl ?_
  refine lv_if_eq (tgt := 28) G.1 G.2.1 d_Mo_outcome_5 (by decide) (fun c5 => ?_) (fun c5 => absurd c5 (by decide))
  refine lv_iconst (v := (-1)) G.1 G.2.1 d_Mo_outcome_28 (by decide) ?_
  refine hret (-1) () _ _ _ _ _ ls rfl (hP.sub [] rfl) (hD.sub [] (by decide) rfl) hS (Nat.le_of_ble_eq_true rfl) (Nat.le_of_ble_eq_true rfl) d_Mo_outcome_29
def y_Mo_meets : MethodName := ⟨"ClassWorksModel", "meets", "(I)I"⟩
abbrev b_Mo_meets : ByteArray := prog_14_method_201_code
theorem d_Mo_meets_0 : decode b_Mo_meets 0 = .ok (.aload_n 0, 1) := by decide +kernel
theorem d_Mo_meets_1 : decode b_Mo_meets 1 = .ok (.iload_n 1, 1) := by decide +kernel
theorem d_Mo_meets_2 : decode b_Mo_meets 2 = .ok (.invokevirtual 1329, 3) := by decide +kernel
theorem d_Mo_meets_5 : decode b_Mo_meets 5 = .ok (.ifCond .ne 5, 3) := by decide +kernel
theorem d_Mo_meets_8 : decode b_Mo_meets 8 = .ok (.iconst (-1), 1) := by decide +kernel
theorem d_Mo_meets_9 : decode b_Mo_meets 9 = .ok (.ireturn, 1) := by decide +kernel
abbrev rm_Mo_meets : Room := { frames := 1, cells := 0, slots := 0, locals := 21 }
set_option maxHeartbeats 4000000 in
set_option maxRecDepth 100000 in
/-- meets -/
theorem c_Mo_meets (l : Launch) (D : va_G) (g : Nat → ClassId) (h0 : Nat) (a1 : Int32) (fs : List Value) (sz : Nat) (glen : fs.length = 131) (gk0 : fs[121]? = some (.int (nI 0)))  : Met l y_Mo_meets (mw y_Mo_meets b_Mo_meets 2 (some .int)) (rm_Mo_meets) (PC g D [] [.ref h0, .int a1] sz [(h0, .inr (14, fs))]) (va_Qi (fun (r : Int32) (u : Unit) => r = (-1)) (QW D (va_A [(h0, .inr (14, fs))] sz) (fun u : Unit => [])) (va_A [(h0, .inr (14, fs))] sz)) 0 0 (va_A [(h0, .inr (14, fs))] sz) := by
  refine ofI (by decide +kernel) (Nat.le_of_ble_eq_true rfl) ?_
  intro p e s m args below meth c A Q ls H locs G hsz hP hD hS hl hret
  subst hsz
  have hl : lv_has ls 2 [(0, .ref h0), (1, .int a1)] := hl
  refine lv_aload_n G.1 G.2.1 d_Mo_meets_0 rfl (lv_at hl 0 rfl) ?_
  refine lv_iload_n G.1 G.2.1 d_Mo_meets_1 rfl (lv_at hl 1 rfl) ?_
  refine kEi (wr := []) G (kV (As := [.int a1]) (rest := []) G hP hD hS [0] rfl rfl (c_Mo_isTrial l D g h0 a1 fs H.size glen gk0) w_Mo_isTrial q4224 rfl rfl ⟨Nat.le_of_ble_eq_true rfl, Nat.le_of_ble_eq_true rfl⟩ (fun _ h => absurd h List.not_mem_nil) 0 (ci := 14) rfl rfl rfl hl.1 rfl (Nat.le_of_ble_eq_true rfl) rfl ⟨Nat.le_of_ble_eq_true rfl, (Nat.le_of_ble_eq_true rfl)⟩ d_Mo_meets_2) hP hD hS [0] [] rfl rfl rfl rfl (fun r_1 u_2 H locs hw hP hD hS hzH => ?_)
  have hw : r_1 = nI 0 := hw
  have hP : va_P D CL [(h0, .inr (14, fs))] H := hP
  have hD : va_D A [(h0, .inr (14, fs))] := hD
  subst hw
  refine tpst (w := [.int (nI 0)]) rfl ?_
  refine lv_if_ne (tgt := 10) G.1 G.2.1 d_Mo_meets_5 (by decide) (fun c5 => absurd c5 (by decide)) (fun c5 => ?_)
  refine lv_iconst (v := (-1)) G.1 G.2.1 d_Mo_meets_8 (by decide) ?_
  refine hret (-1) () _ _ _ _ _ ls rfl (hP.sub [] rfl) (hD.sub [] (by decide) rfl) hS (Nat.le_of_ble_eq_true rfl) (Nat.le_of_ble_eq_true rfl) d_Mo_meets_9
def y_Mo_finds : MethodName := ⟨"ClassWorksModel", "finds", "(II)I"⟩
abbrev b_Mo_finds : ByteArray := prog_14_method_202_code
theorem d_Mo_finds_0 : decode b_Mo_finds 0 = .ok (.aload_n 0, 1) := by decide +kernel
theorem d_Mo_finds_1 : decode b_Mo_finds 1 = .ok (.iload_n 1, 1) := by decide +kernel
theorem d_Mo_finds_2 : decode b_Mo_finds 2 = .ok (.invokevirtual 1329, 3) := by decide +kernel
theorem d_Mo_finds_5 : decode b_Mo_finds 5 = .ok (.ifCond .eq 14, 3) := by decide +kernel
theorem d_Mo_finds_19 : decode b_Mo_finds 19 = .ok (.iconst (-1), 1) := by decide +kernel
theorem d_Mo_finds_20 : decode b_Mo_finds 20 = .ok (.ireturn, 1) := by decide +kernel
abbrev rm_Mo_finds : Room := { frames := 1, cells := 0, slots := 0, locals := 21 }
set_option maxHeartbeats 4000000 in
set_option maxRecDepth 100000 in
/-- finds -/
theorem c_Mo_finds (l : Launch) (D : va_G) (g : Nat → ClassId) (h0 : Nat) (a1 : Int32) (a2 : Int32) (fs : List Value) (sz : Nat) (glen : fs.length = 131) (gk0 : fs[121]? = some (.int (nI 0)))  : Met l y_Mo_finds (mw y_Mo_finds b_Mo_finds 5 (some .int)) (rm_Mo_finds) (PC g D [] [.ref h0, .int a1, .int a2] sz [(h0, .inr (14, fs))]) (va_Qi (fun (r : Int32) (u : Unit) => r = (-1)) (QW D (va_A [(h0, .inr (14, fs))] sz) (fun u : Unit => [])) (va_A [(h0, .inr (14, fs))] sz)) 0 0 (va_A [(h0, .inr (14, fs))] sz) := by
  refine ofI (by decide +kernel) (Nat.le_of_ble_eq_true rfl) ?_
  intro p e s m args below meth c A Q ls H locs G hsz hP hD hS hl hret
  subst hsz
  have hl : lv_has ls 5 [(0, .ref h0), (1, .int a1), (2, .int a2)] := hl
  refine lv_aload_n G.1 G.2.1 d_Mo_finds_0 rfl (lv_at hl 0 rfl) ?_
  refine lv_iload_n G.1 G.2.1 d_Mo_finds_1 rfl (lv_at hl 1 rfl) ?_
  refine kEi (wr := []) G (kV (As := [.int a1]) (rest := []) G hP hD hS [0] rfl rfl (c_Mo_isTrial l D g h0 a1 fs H.size glen gk0) w_Mo_isTrial q4224 rfl rfl ⟨Nat.le_of_ble_eq_true rfl, Nat.le_of_ble_eq_true rfl⟩ (fun _ h => absurd h List.not_mem_nil) 0 (ci := 14) rfl rfl rfl hl.1 rfl (Nat.le_of_ble_eq_true rfl) rfl ⟨Nat.le_of_ble_eq_true rfl, (Nat.le_of_ble_eq_true rfl)⟩ d_Mo_finds_2) hP hD hS [0] [] rfl rfl rfl rfl (fun r_1 u_2 H locs hw hP hD hS hzH => ?_)
  have hw : r_1 = nI 0 := hw
  have hP : va_P D CL [(h0, .inr (14, fs))] H := hP
  have hD : va_D A [(h0, .inr (14, fs))] := hD
  subst hw
  refine tpst (w := [.int (nI 0)]) rfl ?_
  refine lv_if_eq (tgt := 19) G.1 G.2.1 d_Mo_finds_5 (by decide) (fun c5 => ?_) (fun c5 => absurd c5 (by decide))
  refine lv_iconst (v := (-1)) G.1 G.2.1 d_Mo_finds_19 (by decide) ?_
  refine hret (-1) () _ _ _ _ _ ls rfl (hP.sub [] rfl) (hD.sub [] (by decide) rfl) hS (Nat.le_of_ble_eq_true rfl) (Nat.le_of_ble_eq_true rfl) d_Mo_finds_20
def y_Mo_shrink : MethodName := ⟨"ClassWorksModel", "shrink", "(II)I"⟩
abbrev b_Mo_shrink : ByteArray := prog_14_method_211_code
theorem d_Mo_shrink_0 : decode b_Mo_shrink 0 = .ok (.aload_n 0, 1) := by decide +kernel
theorem d_Mo_shrink_1 : decode b_Mo_shrink 1 = .ok (.iload_n 1, 1) := by decide +kernel
theorem d_Mo_shrink_2 : decode b_Mo_shrink 2 = .ok (.invokevirtual 1329, 3) := by decide +kernel
theorem d_Mo_shrink_5 : decode b_Mo_shrink 5 = .ok (.ifCond .eq 14, 3) := by decide +kernel
theorem d_Mo_shrink_19 : decode b_Mo_shrink 19 = .ok (.iconst (-1), 1) := by decide +kernel
theorem d_Mo_shrink_20 : decode b_Mo_shrink 20 = .ok (.ireturn, 1) := by decide +kernel
abbrev rm_Mo_shrink : Room := { frames := 1, cells := 0, slots := 0, locals := 21 }
set_option maxHeartbeats 4000000 in
set_option maxRecDepth 100000 in
/-- shrink -/
theorem c_Mo_shrink (l : Launch) (D : va_G) (g : Nat → ClassId) (h0 : Nat) (a1 : Int32) (a2 : Int32) (fs : List Value) (sz : Nat) (glen : fs.length = 131) (gk0 : fs[121]? = some (.int (nI 0)))  : Met l y_Mo_shrink (mw y_Mo_shrink b_Mo_shrink 10 (some .int)) (rm_Mo_shrink) (PC g D [] [.ref h0, .int a1, .int a2] sz [(h0, .inr (14, fs))]) (va_Qi (fun (r : Int32) (u : Unit) => r = (-1)) (QW D (va_A [(h0, .inr (14, fs))] sz) (fun u : Unit => [])) (va_A [(h0, .inr (14, fs))] sz)) 0 0 (va_A [(h0, .inr (14, fs))] sz) := by
  refine ofI (by decide +kernel) (Nat.le_of_ble_eq_true rfl) ?_
  intro p e s m args below meth c A Q ls H locs G hsz hP hD hS hl hret
  subst hsz
  have hl : lv_has ls 10 [(0, .ref h0), (1, .int a1), (2, .int a2)] := hl
  refine lv_aload_n G.1 G.2.1 d_Mo_shrink_0 rfl (lv_at hl 0 rfl) ?_
  refine lv_iload_n G.1 G.2.1 d_Mo_shrink_1 rfl (lv_at hl 1 rfl) ?_
  refine kEi (wr := []) G (kV (As := [.int a1]) (rest := []) G hP hD hS [0] rfl rfl (c_Mo_isTrial l D g h0 a1 fs H.size glen gk0) w_Mo_isTrial q4224 rfl rfl ⟨Nat.le_of_ble_eq_true rfl, Nat.le_of_ble_eq_true rfl⟩ (fun _ h => absurd h List.not_mem_nil) 0 (ci := 14) rfl rfl rfl hl.1 rfl (Nat.le_of_ble_eq_true rfl) rfl ⟨Nat.le_of_ble_eq_true rfl, (Nat.le_of_ble_eq_true rfl)⟩ d_Mo_shrink_2) hP hD hS [0] [] rfl rfl rfl rfl (fun r_1 u_2 H locs hw hP hD hS hzH => ?_)
  have hw : r_1 = nI 0 := hw
  have hP : va_P D CL [(h0, .inr (14, fs))] H := hP
  have hD : va_D A [(h0, .inr (14, fs))] := hD
  subst hw
  refine tpst (w := [.int (nI 0)]) rfl ?_
  refine lv_if_eq (tgt := 19) G.1 G.2.1 d_Mo_shrink_5 (by decide) (fun c5 => ?_) (fun c5 => absurd c5 (by decide))
  refine lv_iconst (v := (-1)) G.1 G.2.1 d_Mo_shrink_19 (by decide) ?_
  refine hret (-1) () _ _ _ _ _ ls rfl (hP.sub [] rfl) (hD.sub [] (by decide) rfl) hS (Nat.le_of_ble_eq_true rfl) (Nat.le_of_ble_eq_true rfl) d_Mo_shrink_20
def y_Mo_change : MethodName := ⟨"ClassWorksModel", "change", "(IIII)I"⟩
abbrev b_Mo_change : ByteArray := prog_14_method_212_code
theorem d_Mo_change_0 : decode b_Mo_change 0 = .ok (.aload_n 0, 1) := by decide +kernel
theorem d_Mo_change_1 : decode b_Mo_change 1 = .ok (.iload_n 1, 1) := by decide +kernel
theorem d_Mo_change_2 : decode b_Mo_change 2 = .ok (.invokevirtual 1329, 3) := by decide +kernel
theorem d_Mo_change_5 : decode b_Mo_change 5 = .ok (.ifCond .eq 12, 3) := by decide +kernel
theorem d_Mo_change_17 : decode b_Mo_change 17 = .ok (.iconst (-1), 1) := by decide +kernel
theorem d_Mo_change_18 : decode b_Mo_change 18 = .ok (.ireturn, 1) := by decide +kernel
abbrev rm_Mo_change : Room := { frames := 1, cells := 0, slots := 0, locals := 21 }
set_option maxHeartbeats 4000000 in
set_option maxRecDepth 100000 in
/-- change -/
theorem c_Mo_change (l : Launch) (D : va_G) (g : Nat → ClassId) (h0 : Nat) (a1 : Int32) (a2 : Int32) (a3 : Int32) (a4 : Int32) (fs : List Value) (sz : Nat) (glen : fs.length = 131) (gk0 : fs[121]? = some (.int (nI 0)))  : Met l y_Mo_change (mw y_Mo_change b_Mo_change 10 (some .int)) (rm_Mo_change) (PC g D [] [.ref h0, .int a1, .int a2, .int a3, .int a4] sz [(h0, .inr (14, fs))]) (va_Qi (fun (r : Int32) (u : Unit) => r = (-1)) (QW D (va_A [(h0, .inr (14, fs))] sz) (fun u : Unit => [])) (va_A [(h0, .inr (14, fs))] sz)) 0 0 (va_A [(h0, .inr (14, fs))] sz) := by
  refine ofI (by decide +kernel) (Nat.le_of_ble_eq_true rfl) ?_
  intro p e s m args below meth c A Q ls H locs G hsz hP hD hS hl hret
  subst hsz
  have hl : lv_has ls 10 [(0, .ref h0), (1, .int a1), (2, .int a2), (3, .int a3), (4, .int a4)] := hl
  refine lv_aload_n G.1 G.2.1 d_Mo_change_0 rfl (lv_at hl 0 rfl) ?_
  refine lv_iload_n G.1 G.2.1 d_Mo_change_1 rfl (lv_at hl 1 rfl) ?_
  refine kEi (wr := []) G (kV (As := [.int a1]) (rest := []) G hP hD hS [0] rfl rfl (c_Mo_isTrial l D g h0 a1 fs H.size glen gk0) w_Mo_isTrial q4224 rfl rfl ⟨Nat.le_of_ble_eq_true rfl, Nat.le_of_ble_eq_true rfl⟩ (fun _ h => absurd h List.not_mem_nil) 0 (ci := 14) rfl rfl rfl hl.1 rfl (Nat.le_of_ble_eq_true rfl) rfl ⟨Nat.le_of_ble_eq_true rfl, (Nat.le_of_ble_eq_true rfl)⟩ d_Mo_change_2) hP hD hS [0] [] rfl rfl rfl rfl (fun r_1 u_2 H locs hw hP hD hS hzH => ?_)
  have hw : r_1 = nI 0 := hw
  have hP : va_P D CL [(h0, .inr (14, fs))] H := hP
  have hD : va_D A [(h0, .inr (14, fs))] := hD
  subst hw
  refine tpst (w := [.int (nI 0)]) rfl ?_
  refine lv_if_eq (tgt := 17) G.1 G.2.1 d_Mo_change_5 (by decide) (fun c5 => ?_) (fun c5 => absurd c5 (by decide))
  refine lv_iconst (v := (-1)) G.1 G.2.1 d_Mo_change_17 (by decide) ?_
  refine hret (-1) () _ _ _ _ _ ls rfl (hP.sub [] rfl) (hD.sub [] (by decide) rfl) hS (Nat.le_of_ble_eq_true rfl) (Nat.le_of_ble_eq_true rfl) d_Mo_change_18
def y_Mo_text : MethodName := ⟨"ClassWorksModel", "text", "(II)I"⟩
abbrev b_Mo_text : ByteArray := prog_14_method_213_code
theorem d_Mo_text_0 : decode b_Mo_text 0 = .ok (.aload_n 0, 1) := by decide +kernel
theorem d_Mo_text_1 : decode b_Mo_text 1 = .ok (.iload_n 1, 1) := by decide +kernel
theorem d_Mo_text_2 : decode b_Mo_text 2 = .ok (.invokevirtual 1329, 3) := by decide +kernel
theorem d_Mo_text_5 : decode b_Mo_text 5 = .ok (.ifCond .eq 17, 3) := by decide +kernel
theorem d_Mo_text_22 : decode b_Mo_text 22 = .ok (.iconst (-1), 1) := by decide +kernel
theorem d_Mo_text_23 : decode b_Mo_text 23 = .ok (.goto 19, 3) := by decide +kernel
theorem d_Mo_text_42 : decode b_Mo_text 42 = .ok (.ireturn, 1) := by decide +kernel
abbrev rm_Mo_text : Room := { frames := 1, cells := 0, slots := 0, locals := 21 }
set_option maxHeartbeats 4000000 in
set_option maxRecDepth 100000 in
/-- text -/
theorem c_Mo_text (l : Launch) (D : va_G) (g : Nat → ClassId) (h0 : Nat) (a1 : Int32) (a2 : Int32) (fs : List Value) (sz : Nat) (glen : fs.length = 131) (gk0 : fs[121]? = some (.int (nI 0)))  : Met l y_Mo_text (mw y_Mo_text b_Mo_text 3 (some .int)) (rm_Mo_text) (PC g D [] [.ref h0, .int a1, .int a2] sz [(h0, .inr (14, fs))]) (va_Qi (fun (r : Int32) (u : Unit) => r = (-1)) (QW D (va_A [(h0, .inr (14, fs))] sz) (fun u : Unit => [])) (va_A [(h0, .inr (14, fs))] sz)) 0 0 (va_A [(h0, .inr (14, fs))] sz) := by
  refine ofI (by decide +kernel) (Nat.le_of_ble_eq_true rfl) ?_
  intro p e s m args below meth c A Q ls H locs G hsz hP hD hS hl hret
  subst hsz
  have hl : lv_has ls 3 [(0, .ref h0), (1, .int a1), (2, .int a2)] := hl
  refine lv_aload_n G.1 G.2.1 d_Mo_text_0 rfl (lv_at hl 0 rfl) ?_
  refine lv_iload_n G.1 G.2.1 d_Mo_text_1 rfl (lv_at hl 1 rfl) ?_
  refine kEi (wr := []) G (kV (As := [.int a1]) (rest := []) G hP hD hS [0] rfl rfl (c_Mo_isTrial l D g h0 a1 fs H.size glen gk0) w_Mo_isTrial q4224 rfl rfl ⟨Nat.le_of_ble_eq_true rfl, Nat.le_of_ble_eq_true rfl⟩ (fun _ h => absurd h List.not_mem_nil) 0 (ci := 14) rfl rfl rfl hl.1 rfl (Nat.le_of_ble_eq_true rfl) rfl ⟨Nat.le_of_ble_eq_true rfl, (Nat.le_of_ble_eq_true rfl)⟩ d_Mo_text_2) hP hD hS [0] [] rfl rfl rfl rfl (fun r_1 u_2 H locs hw hP hD hS hzH => ?_)
  have hw : r_1 = nI 0 := hw
  have hP : va_P D CL [(h0, .inr (14, fs))] H := hP
  have hD : va_D A [(h0, .inr (14, fs))] := hD
  subst hw
  refine tpst (w := [.int (nI 0)]) rfl ?_
  refine lv_if_eq (tgt := 22) G.1 G.2.1 d_Mo_text_5 (by decide) (fun c5 => ?_) (fun c5 => absurd c5 (by decide))
  refine lv_iconst (v := (-1)) G.1 G.2.1 d_Mo_text_22 (by decide) ?_
  refine lv_goto (tgt := 42) G.1 G.2.1 d_Mo_text_23 (by decide) ?_
  refine hret (-1) () _ _ _ _ _ ls rfl (hP.sub [] rfl) (hD.sub [] (by decide) rfl) hS (Nat.le_of_ble_eq_true rfl) (Nat.le_of_ble_eq_true rfl) d_Mo_text_42
def y_Mo_cut : MethodName := ⟨"ClassWorksModel", "cut", "(I)I"⟩
abbrev b_Mo_cut : ByteArray := prog_14_method_126_code
theorem q3149 : Cond.fieldLink "ClassWorksModel" 1112 "ClassWorksModel" "taped" "I" ∈ lw_ok := lw_okmem (List.mem_of_getElem? (i := 3149) (by decide +kernel)) rfl
theorem d_Mo_cut_0 : decode b_Mo_cut 0 = .ok (.iload_n 1, 1) := by decide +kernel
theorem d_Mo_cut_1 : decode b_Mo_cut 1 = .ok (.ifCond .lt 11, 3) := by decide +kernel
theorem d_Mo_cut_4 : decode b_Mo_cut 4 = .ok (.iload_n 1, 1) := by decide +kernel
theorem d_Mo_cut_5 : decode b_Mo_cut 5 = .ok (.aload_n 0, 1) := by decide +kernel
theorem d_Mo_cut_6 : decode b_Mo_cut 6 = .ok (.getfield 1112, 3) := by decide +kernel
theorem d_Mo_cut_9 : decode b_Mo_cut 9 = .ok (.if_icmp .le 5, 3) := by decide +kernel
theorem d_Mo_cut_12 : decode b_Mo_cut 12 = .ok (.iconst (-1), 1) := by decide +kernel
theorem d_Mo_cut_13 : decode b_Mo_cut 13 = .ok (.ireturn, 1) := by decide +kernel
theorem d_Mo_cut_14 : decode b_Mo_cut 14 = .ok (.aload_n 0, 1) := by decide +kernel
theorem d_Mo_cut_15 : decode b_Mo_cut 15 = .ok (.dup, 1) := by decide +kernel
theorem d_Mo_cut_16 : decode b_Mo_cut 16 = .ok (.getfield 1112, 3) := by decide +kernel
theorem d_Mo_cut_19 : decode b_Mo_cut 19 = .ok (.iload_n 1, 1) := by decide +kernel
theorem d_Mo_cut_20 : decode b_Mo_cut 20 = .ok (.isub, 1) := by decide +kernel
theorem d_Mo_cut_21 : decode b_Mo_cut 21 = .ok (.putfield 1112, 3) := by decide +kernel
theorem d_Mo_cut_24 : decode b_Mo_cut 24 = .ok (.aload_n 0, 1) := by decide +kernel
theorem d_Mo_cut_25 : decode b_Mo_cut 25 = .ok (.getfield 1112, 3) := by decide +kernel
theorem d_Mo_cut_28 : decode b_Mo_cut 28 = .ok (.ireturn, 1) := by decide +kernel
abbrev rm_Mo_cut : Room := { frames := 0, cells := 0, slots := 0, locals := 0 }
set_option maxHeartbeats 4000000 in
set_option maxRecDepth 100000 in
/-- cut -/
theorem c_Mo_cut (l : Launch) (D : va_G) (g : Nat → ClassId) (h0 : Nat) (a1 : Int32) (fs : List Value) (sz : Nat) (glen : fs.length = 131) (gk0 : fs[85]? = some (.int (nI 0)))  : Met l y_Mo_cut (mw y_Mo_cut b_Mo_cut 2 (some .int)) (rm_Mo_cut) (PC g D [] [.ref h0, .int a1] sz [(h0, .inr (14, fs))]) (va_Qi (fun (r : Int32) (u : Unit) => r = cuF a1) (QW D (va_A [(h0, .inr (14, fs))] sz) (fun u : Unit => [])) (va_A [(h0, .inr (14, fs))] sz)) 0 0 (va_A [(h0, .inr (14, fs))] sz) := by
  refine ofI (by decide +kernel) (Nat.le_of_ble_eq_true rfl) ?_
  intro p e s m args below meth c A Q ls H locs G hsz hP hD hS hl hret
  subst hsz
  have hl : lv_has ls 2 [(0, .ref h0), (1, .int a1)] := hl
  refine lv_iload_n G.1 G.2.1 d_Mo_cut_0 rfl (lv_at hl 1 rfl) ?_
  refine lv_if_lt (tgt := 12) G.1 G.2.1 d_Mo_cut_1 (by decide) (fun c1 => ?_) (fun c1 => ?_)
  · skip
    refine lv_iconst (v := (-1)) G.1 G.2.1 d_Mo_cut_12 (by decide) ?_
    refine hret (-1) () _ _ _ _ _ ls (cuF_lt c1) (hP.sub [] rfl) (hD.sub [] (by decide) rfl) hS (Nat.le_of_ble_eq_true rfl) (Nat.le_of_ble_eq_true rfl) d_Mo_cut_13
  · skip
    refine lv_iload_n G.1 G.2.1 d_Mo_cut_4 rfl (lv_at hl 1 rfl) ?_
    refine lv_aload_n G.1 G.2.1 d_Mo_cut_5 rfl (lv_at hl 0 rfl) ?_
    refine kg (ci := 14) (v := .int (nI 0)) G iMo hP 0 rfl rfl 85 (by decide) q3149 rfl gk0 d_Mo_cut_6 ?_
    refine lv_icmp_le (tgt := 14) G.1 G.2.1 d_Mo_cut_9 (by decide) (fun c9 => ?_) (fun c9 => ?_)
    · skip
      obtain rfl := i_anti c1 c9
      refine lv_aload_n G.1 G.2.1 d_Mo_cut_14 rfl (lv_at hl 0 rfl) ?_
      refine lv_dup G.1 G.2.1 d_Mo_cut_15 rfl ?_
      refine kg (ci := 14) (v := .int (nI 0)) G iMo hP 0 rfl rfl 85 (by decide) q3149 rfl gk0 d_Mo_cut_16 ?_
      refine lv_iload_n G.1 G.2.1 d_Mo_cut_19 rfl (lv_at hl 1 rfl) ?_
      refine lv_isub G.1 G.2.1 d_Mo_cut_20 ?_
      refine tpi (w := nI 0) (by decide) ?_
      refine W.eq (g2 := F0 m 21 ls [.int (nI 0), .ref h0]) rfl ?_
      refine kp (ci := 14) G iMo tMo tMo_ok nMo hP hD hS 0 rfl rfl 85 (by decide) q3149 rfl rfl rfl rfl (by rw [glen]; decide) d_Mo_cut_21 (fun H locs hP hD hS => ?_)
      rw [lset_same gk0] at hP hD
      have hP : va_P D CL [(h0, .inr (14, fs))] H := hP
      have hD : va_D A [(h0, .inr (14, fs))] := hD
      refine lv_aload_n G.1 G.2.1 d_Mo_cut_24 rfl (lv_at hl 0 rfl) ?_
      refine kg (ci := 14) (v := .int (nI 0)) G iMo hP 0 rfl rfl 85 (by decide) q3149 rfl gk0 d_Mo_cut_25 ?_
      refine hret (nI 0) () _ _ _ _ _ ls rfl (hP.sub [] rfl) (hD.sub [] (by decide) rfl) hS (Nat.le_of_ble_eq_true rfl) (Nat.le_of_ble_eq_true rfl) d_Mo_cut_28
    · skip
      refine lv_iconst (v := (-1)) G.1 G.2.1 d_Mo_cut_12 (by decide) ?_
      refine hret (-1) () _ _ _ _ _ ls (cuF_gt c9) (hP.sub [] rfl) (hD.sub [] (by decide) rfl) hS (Nat.le_of_ble_eq_true rfl) (Nat.le_of_ble_eq_true rfl) d_Mo_cut_13
def y_Mo_place : MethodName := ⟨"ClassWorksModel", "place", "()I"⟩
abbrev b_Mo_place : ByteArray := prog_14_method_132_code
theorem d_Mo_place_0 : decode b_Mo_place 0 = .ok (.aload_n 0, 1) := by decide +kernel
theorem d_Mo_place_1 : decode b_Mo_place 1 = .ok (.getfield 317, 3) := by decide +kernel
theorem d_Mo_place_4 : decode b_Mo_place 4 = .ok (.ireturn, 1) := by decide +kernel
abbrev rm_Mo_place : Room := { frames := 0, cells := 0, slots := 0, locals := 0 }
set_option maxHeartbeats 4000000 in
set_option maxRecDepth 100000 in
/-- place -/
theorem c_Mo_place (l : Launch) (D : va_G) (g : Nat → ClassId) (h0 : Nat) (fs : List Value) (sz : Nat) (glen : fs.length = 131) (gk0 : fs[86]? = some (.int (-2)))  : Met l y_Mo_place (mw y_Mo_place b_Mo_place 1 (some .int)) (rm_Mo_place) (PC g D [] [.ref h0] sz [(h0, .inr (14, fs))]) (va_Qi (fun (r : Int32) (u : Unit) => r = (-2)) (QW D (va_A [(h0, .inr (14, fs))] sz) (fun u : Unit => [])) (va_A [(h0, .inr (14, fs))] sz)) 0 0 (va_A [(h0, .inr (14, fs))] sz) := by
  refine ofI (by decide +kernel) (Nat.le_of_ble_eq_true rfl) ?_
  intro p e s m args below meth c A Q ls H locs G hsz hP hD hS hl hret
  subst hsz
  have hl : lv_has ls 1 [(0, .ref h0)] := hl
  refine lv_aload_n G.1 G.2.1 d_Mo_place_0 rfl (lv_at hl 0 rfl) ?_
  refine kg (ci := 14) (v := .int (-2)) G iMo hP 0 rfl rfl 86 (by decide) q3150 rfl gk0 d_Mo_place_1 ?_
  refine hret (-2) () _ _ _ _ _ ls rfl (hP.sub [] rfl) (hD.sub [] (by decide) rfl) hS (Nat.le_of_ble_eq_true rfl) (Nat.le_of_ble_eq_true rfl) d_Mo_place_4
def y_Mo_kind : MethodName := ⟨"ClassWorksModel", "kind", "(II)I"⟩
abbrev b_Mo_kind : ByteArray := prog_14_method_172_code
theorem q3165 : Cond.fieldLink "ClassWorksModel" 1257 "ClassWorksModel" "toldSize" "I" ∈ lw_ok := lw_okmem (List.mem_of_getElem? (i := 3165) (by decide +kernel)) rfl
theorem d_Mo_kind_0 : decode b_Mo_kind 0 = .ok (.iload_n 1, 1) := by decide +kernel
theorem d_Mo_kind_1 : decode b_Mo_kind 1 = .ok (.ifCond .lt 31, 3) := by decide +kernel
theorem d_Mo_kind_4 : decode b_Mo_kind 4 = .ok (.iload_n 1, 1) := by decide +kernel
theorem d_Mo_kind_5 : decode b_Mo_kind 5 = .ok (.aload_n 0, 1) := by decide +kernel
theorem d_Mo_kind_6 : decode b_Mo_kind 6 = .ok (.getfield 1257, 3) := by decide +kernel
theorem d_Mo_kind_9 : decode b_Mo_kind 9 = .ok (.if_icmp .ge 23, 3) := by decide +kernel
theorem d_Mo_kind_32 : decode b_Mo_kind 32 = .ok (.iconst (-1), 1) := by decide +kernel
theorem d_Mo_kind_33 : decode b_Mo_kind 33 = .ok (.ireturn, 1) := by decide +kernel
abbrev rm_Mo_kind : Room := { frames := 0, cells := 0, slots := 0, locals := 0 }
set_option maxHeartbeats 4000000 in
set_option maxRecDepth 100000 in
/-- kind -/
theorem c_Mo_kind (l : Launch) (D : va_G) (g : Nat → ClassId) (h0 : Nat) (a1 : Int32) (a2 : Int32) (fs : List Value) (sz : Nat) (glen : fs.length = 131) (gk0 : fs[101]? = some (.int (nI 0)))  : Met l y_Mo_kind (mw y_Mo_kind b_Mo_kind 3 (some .int)) (rm_Mo_kind) (PC g D [] [.ref h0, .int a1, .int a2] sz [(h0, .inr (14, fs))]) (va_Qi (fun (r : Int32) (u : Unit) => r = (-1)) (QW D (va_A [(h0, .inr (14, fs))] sz) (fun u : Unit => [])) (va_A [(h0, .inr (14, fs))] sz)) 0 0 (va_A [(h0, .inr (14, fs))] sz) := by
  refine ofI (by decide +kernel) (Nat.le_of_ble_eq_true rfl) ?_
  intro p e s m args below meth c A Q ls H locs G hsz hP hD hS hl hret
  subst hsz
  have hl : lv_has ls 3 [(0, .ref h0), (1, .int a1), (2, .int a2)] := hl
  refine lv_iload_n G.1 G.2.1 d_Mo_kind_0 rfl (lv_at hl 1 rfl) ?_
  refine lv_if_lt (tgt := 32) G.1 G.2.1 d_Mo_kind_1 (by decide) (fun c1 => ?_) (fun c1 => ?_)
  · skip
    refine lv_iconst (v := (-1)) G.1 G.2.1 d_Mo_kind_32 (by decide) ?_
    refine hret (-1) () _ _ _ _ _ ls rfl (hP.sub [] rfl) (hD.sub [] (by decide) rfl) hS (Nat.le_of_ble_eq_true rfl) (Nat.le_of_ble_eq_true rfl) d_Mo_kind_33
  · skip
    refine lv_iload_n G.1 G.2.1 d_Mo_kind_4 rfl (lv_at hl 1 rfl) ?_
    refine lv_aload_n G.1 G.2.1 d_Mo_kind_5 rfl (lv_at hl 0 rfl) ?_
    refine kg (ci := 14) (v := .int (nI 0)) G iMo hP 0 rfl rfl 101 (by decide) q3165 rfl gk0 d_Mo_kind_6 ?_
    refine lv_icmp_ge (tgt := 32) G.1 G.2.1 d_Mo_kind_9 (by decide) (fun c9 => ?_) (fun c9 => absurd c9 (fun h => h (i_nn c1)))
    refine lv_iconst (v := (-1)) G.1 G.2.1 d_Mo_kind_32 (by decide) ?_
    refine hret (-1) () _ _ _ _ _ ls rfl (hP.sub [] rfl) (hD.sub [] (by decide) rfl) hS (Nat.le_of_ble_eq_true rfl) (Nat.le_of_ble_eq_true rfl) d_Mo_kind_33
def y_Mo_written : MethodName := ⟨"ClassWorksModel", "written", "(I)I"⟩
abbrev b_Mo_written : ByteArray := prog_14_method_168_code
theorem q3159 : Cond.fieldLink "ClassWorksModel" 1176 "ClassWorksModel" "paged" "I" ∈ lw_ok := lw_okmem (List.mem_of_getElem? (i := 3159) (by decide +kernel)) rfl
theorem d_Mo_written_0 : decode b_Mo_written 0 = .ok (.iload_n 1, 1) := by decide +kernel
theorem d_Mo_written_1 : decode b_Mo_written 1 = .ok (.ifCond .lt 11, 3) := by decide +kernel
theorem d_Mo_written_4 : decode b_Mo_written 4 = .ok (.iload_n 1, 1) := by decide +kernel
theorem d_Mo_written_5 : decode b_Mo_written 5 = .ok (.aload_n 0, 1) := by decide +kernel
theorem d_Mo_written_6 : decode b_Mo_written 6 = .ok (.getfield 1176, 3) := by decide +kernel
theorem d_Mo_written_9 : decode b_Mo_written 9 = .ok (.if_icmp .lt 7, 3) := by decide +kernel
theorem d_Mo_written_12 : decode b_Mo_written 12 = .ok (.iconst (-1), 1) := by decide +kernel
theorem d_Mo_written_13 : decode b_Mo_written 13 = .ok (.goto 9, 3) := by decide +kernel
theorem d_Mo_written_22 : decode b_Mo_written 22 = .ok (.ireturn, 1) := by decide +kernel
abbrev rm_Mo_written : Room := { frames := 0, cells := 0, slots := 0, locals := 0 }
set_option maxHeartbeats 4000000 in
set_option maxRecDepth 100000 in
/-- written -/
theorem c_Mo_written (l : Launch) (D : va_G) (g : Nat → ClassId) (h0 : Nat) (a1 : Int32) (fs : List Value) (sz : Nat) (glen : fs.length = 131) (gk0 : fs[95]? = some (.int (nI 0)))  : Met l y_Mo_written (mw y_Mo_written b_Mo_written 2 (some .int)) (rm_Mo_written) (PC g D [] [.ref h0, .int a1] sz [(h0, .inr (14, fs))]) (va_Qi (fun (r : Int32) (u : Unit) => r = (-1)) (QW D (va_A [(h0, .inr (14, fs))] sz) (fun u : Unit => [])) (va_A [(h0, .inr (14, fs))] sz)) 0 0 (va_A [(h0, .inr (14, fs))] sz) := by
  refine ofI (by decide +kernel) (Nat.le_of_ble_eq_true rfl) ?_
  intro p e s m args below meth c A Q ls H locs G hsz hP hD hS hl hret
  subst hsz
  have hl : lv_has ls 2 [(0, .ref h0), (1, .int a1)] := hl
  refine lv_iload_n G.1 G.2.1 d_Mo_written_0 rfl (lv_at hl 1 rfl) ?_
  refine lv_if_lt (tgt := 12) G.1 G.2.1 d_Mo_written_1 (by decide) (fun c1 => ?_) (fun c1 => ?_)
  · skip
    refine lv_iconst (v := (-1)) G.1 G.2.1 d_Mo_written_12 (by decide) ?_
    refine lv_goto (tgt := 22) G.1 G.2.1 d_Mo_written_13 (by decide) ?_
    refine hret (-1) () _ _ _ _ _ ls rfl (hP.sub [] rfl) (hD.sub [] (by decide) rfl) hS (Nat.le_of_ble_eq_true rfl) (Nat.le_of_ble_eq_true rfl) d_Mo_written_22
  · skip
    refine lv_iload_n G.1 G.2.1 d_Mo_written_4 rfl (lv_at hl 1 rfl) ?_
    refine lv_aload_n G.1 G.2.1 d_Mo_written_5 rfl (lv_at hl 0 rfl) ?_
    refine kg (ci := 14) (v := .int (nI 0)) G iMo hP 0 rfl rfl 95 (by decide) q3159 rfl gk0 d_Mo_written_6 ?_
    refine lv_icmp_lt (tgt := 16) G.1 G.2.1 d_Mo_written_9 (by decide) (fun c9 => absurd c9 c1) (fun c9 => ?_)
    refine lv_iconst (v := (-1)) G.1 G.2.1 d_Mo_written_12 (by decide) ?_
    refine lv_goto (tgt := 22) G.1 G.2.1 d_Mo_written_13 (by decide) ?_
    refine hret (-1) () _ _ _ _ _ ls rfl (hP.sub [] rfl) (hD.sub [] (by decide) rfl) hS (Nat.le_of_ble_eq_true rfl) (Nat.le_of_ble_eq_true rfl) d_Mo_written_22
def y_Mo_reached : MethodName := ⟨"ClassWorksModel", "reached", "(I)I"⟩
abbrev b_Mo_reached : ByteArray := prog_14_method_186_code
theorem q3173 : Cond.fieldLink "ClassWorksModel" 1288 "ClassWorksModel" "reachedCount" "I" ∈ lw_ok := lw_okmem (List.mem_of_getElem? (i := 3173) (by decide +kernel)) rfl
theorem d_Mo_reached_0 : decode b_Mo_reached 0 = .ok (.iload_n 1, 1) := by decide +kernel
theorem d_Mo_reached_1 : decode b_Mo_reached 1 = .ok (.ifCond .lt 11, 3) := by decide +kernel
theorem d_Mo_reached_4 : decode b_Mo_reached 4 = .ok (.iload_n 1, 1) := by decide +kernel
theorem d_Mo_reached_5 : decode b_Mo_reached 5 = .ok (.aload_n 0, 1) := by decide +kernel
theorem d_Mo_reached_6 : decode b_Mo_reached 6 = .ok (.getfield 1288, 3) := by decide +kernel
theorem d_Mo_reached_9 : decode b_Mo_reached 9 = .ok (.if_icmp .lt 8, 3) := by decide +kernel
theorem d_Mo_reached_12 : decode b_Mo_reached 12 = .ok (.bipush (-2), 2) := by decide +kernel
theorem d_Mo_reached_14 : decode b_Mo_reached 14 = .ok (.goto 25, 3) := by decide +kernel
theorem d_Mo_reached_39 : decode b_Mo_reached 39 = .ok (.ireturn, 1) := by decide +kernel
abbrev rm_Mo_reached : Room := { frames := 0, cells := 0, slots := 0, locals := 0 }
set_option maxHeartbeats 4000000 in
set_option maxRecDepth 100000 in
/-- reached -/
theorem c_Mo_reached (l : Launch) (D : va_G) (g : Nat → ClassId) (h0 : Nat) (a1 : Int32) (fs : List Value) (sz : Nat) (glen : fs.length = 131) (gk0 : fs[109]? = some (.int (nI 0)))  : Met l y_Mo_reached (mw y_Mo_reached b_Mo_reached 2 (some .int)) (rm_Mo_reached) (PC g D [] [.ref h0, .int a1] sz [(h0, .inr (14, fs))]) (va_Qi (fun (r : Int32) (u : Unit) => r = (-2)) (QW D (va_A [(h0, .inr (14, fs))] sz) (fun u : Unit => [])) (va_A [(h0, .inr (14, fs))] sz)) 0 0 (va_A [(h0, .inr (14, fs))] sz) := by
  refine ofI (by decide +kernel) (Nat.le_of_ble_eq_true rfl) ?_
  intro p e s m args below meth c A Q ls H locs G hsz hP hD hS hl hret
  subst hsz
  have hl : lv_has ls 2 [(0, .ref h0), (1, .int a1)] := hl
  refine lv_iload_n G.1 G.2.1 d_Mo_reached_0 rfl (lv_at hl 1 rfl) ?_
  refine lv_if_lt (tgt := 12) G.1 G.2.1 d_Mo_reached_1 (by decide) (fun c1 => ?_) (fun c1 => ?_)
  · skip
    refine lv_bipush (v := (-2)) G.1 G.2.1 d_Mo_reached_12 (by decide) ?_
    refine lv_goto (tgt := 39) G.1 G.2.1 d_Mo_reached_14 (by decide) ?_
    refine hret (-2) () _ _ _ _ _ ls rfl (hP.sub [] rfl) (hD.sub [] (by decide) rfl) hS (Nat.le_of_ble_eq_true rfl) (Nat.le_of_ble_eq_true rfl) d_Mo_reached_39
  · skip
    refine lv_iload_n G.1 G.2.1 d_Mo_reached_4 rfl (lv_at hl 1 rfl) ?_
    refine lv_aload_n G.1 G.2.1 d_Mo_reached_5 rfl (lv_at hl 0 rfl) ?_
    refine kg (ci := 14) (v := .int (nI 0)) G iMo hP 0 rfl rfl 109 (by decide) q3173 rfl gk0 d_Mo_reached_6 ?_
    refine lv_icmp_lt (tgt := 17) G.1 G.2.1 d_Mo_reached_9 (by decide) (fun c9 => absurd c9 c1) (fun c9 => ?_)
    refine lv_bipush (v := (-2)) G.1 G.2.1 d_Mo_reached_12 (by decide) ?_
    refine lv_goto (tgt := 39) G.1 G.2.1 d_Mo_reached_14 (by decide) ?_
    refine hret (-2) () _ _ _ _ _ ls rfl (hP.sub [] rfl) (hD.sub [] (by decide) rfl) hS (Nat.le_of_ble_eq_true rfl) (Nat.le_of_ble_eq_true rfl) d_Mo_reached_39
def y_Mo_count : MethodName := ⟨"ClassWorksModel", "count", "(I)I"⟩
abbrev b_Mo_count : ByteArray := prog_14_method_214_code
theorem q3830 : Cond.constant "ClassWorksModel" 1163 (60000) ∈ lw_ok := lw_okmem (List.mem_of_getElem? (i := 3830) (by decide +kernel)) rfl
theorem q3157 : Cond.fieldLink "ClassWorksModel" 1164 "ClassWorksModel" "houseSteps" "I" ∈ lw_ok := lw_okmem (List.mem_of_getElem? (i := 3157) (by decide +kernel)) rfl
theorem d_Mo_count_0 : decode b_Mo_count 0 = .ok (.iload_n 1, 1) := by decide +kernel
theorem d_Mo_count_1 : decode b_Mo_count 1 = .ok (.ifCond .ne 10, 3) := by decide +kernel
theorem d_Mo_count_4 : decode b_Mo_count 4 = .ok (.aload_n 0, 1) := by decide +kernel
theorem d_Mo_count_5 : decode b_Mo_count 5 = .ok (.getfield 1314, 3) := by decide +kernel
theorem d_Mo_count_8 : decode b_Mo_count 8 = .ok (.goto 32, 3) := by decide +kernel
theorem d_Mo_count_11 : decode b_Mo_count 11 = .ok (.iload_n 1, 1) := by decide +kernel
theorem d_Mo_count_12 : decode b_Mo_count 12 = .ok (.iconst 1, 1) := by decide +kernel
theorem d_Mo_count_13 : decode b_Mo_count 13 = .ok (.if_icmp .ne 14, 3) := by decide +kernel
theorem d_Mo_count_16 : decode b_Mo_count 16 = .ok (.ldc_w 1163, 3) := by decide +kernel
theorem d_Mo_count_19 : decode b_Mo_count 19 = .ok (.aload_n 0, 1) := by decide +kernel
theorem d_Mo_count_20 : decode b_Mo_count 20 = .ok (.getfield 1164, 3) := by decide +kernel
theorem d_Mo_count_23 : decode b_Mo_count 23 = .ok (.isub, 1) := by decide +kernel
theorem d_Mo_count_24 : decode b_Mo_count 24 = .ok (.goto 16, 3) := by decide +kernel
theorem d_Mo_count_27 : decode b_Mo_count 27 = .ok (.iload_n 1, 1) := by decide +kernel
theorem d_Mo_count_28 : decode b_Mo_count 28 = .ok (.iconst 2, 1) := by decide +kernel
theorem d_Mo_count_29 : decode b_Mo_count 29 = .ok (.if_icmp .ne 10, 3) := by decide +kernel
theorem d_Mo_count_32 : decode b_Mo_count 32 = .ok (.aload_n 0, 1) := by decide +kernel
theorem d_Mo_count_33 : decode b_Mo_count 33 = .ok (.getfield 1112, 3) := by decide +kernel
theorem d_Mo_count_36 : decode b_Mo_count 36 = .ok (.goto 4, 3) := by decide +kernel
theorem d_Mo_count_39 : decode b_Mo_count 39 = .ok (.iconst (-1), 1) := by decide +kernel
theorem d_Mo_count_40 : decode b_Mo_count 40 = .ok (.ireturn, 1) := by decide +kernel
abbrev rm_Mo_count : Room := { frames := 0, cells := 0, slots := 0, locals := 0 }
set_option maxHeartbeats 4000000 in
set_option maxRecDepth 100000 in
/-- count -/
theorem c_Mo_count (l : Launch) (D : va_G) (g : Nat → ClassId) (h0 : Nat) (a1 : Int32) (fs : List Value) (sz : Nat) (glen : fs.length = 131) (gk0 : fs[121]? = some (.int (nI 0))) (gk1 : fs[93]? = some (.int (nI 0))) (gk2 : fs[85]? = some (.int (nI 0)))  : Met l y_Mo_count (mw y_Mo_count b_Mo_count 2 (some .int)) (rm_Mo_count) (PC g D [] [.ref h0, .int a1] sz [(h0, .inr (14, fs))]) (va_Qi (fun (r : Int32) (u : Unit) => r = cntF a1) (QW D (va_A [(h0, .inr (14, fs))] sz) (fun u : Unit => [])) (va_A [(h0, .inr (14, fs))] sz)) 0 0 (va_A [(h0, .inr (14, fs))] sz) := by
  refine ofI (by decide +kernel) (Nat.le_of_ble_eq_true rfl) ?_
  intro p e s m args below meth c A Q ls H locs G hsz hP hD hS hl hret
  subst hsz
  have hl : lv_has ls 2 [(0, .ref h0), (1, .int a1)] := hl
  refine lv_iload_n G.1 G.2.1 d_Mo_count_0 rfl (lv_at hl 1 rfl) ?_
  refine lv_if_ne (tgt := 11) G.1 G.2.1 d_Mo_count_1 (by decide) (fun c1 => ?_) (fun c1 => ?_)
  · skip
    refine lv_iload_n G.1 G.2.1 d_Mo_count_11 rfl (lv_at hl 1 rfl) ?_
    refine lv_iconst (v := nI 1) G.1 G.2.1 d_Mo_count_12 (by decide) ?_
    refine lv_icmp_ne (tgt := 27) G.1 G.2.1 d_Mo_count_13 (by decide) (fun c13 => ?_) (fun c13 => ?_)
    · skip
      refine lv_iload_n G.1 G.2.1 d_Mo_count_27 rfl (lv_at hl 1 rfl) ?_
      refine lv_iconst (v := nI 2) G.1 G.2.1 d_Mo_count_28 (by decide) ?_
      refine lv_icmp_ne (tgt := 39) G.1 G.2.1 d_Mo_count_29 (by decide) (fun c29 => ?_) (fun c29 => ?_)
      · skip
        refine lv_iconst (v := (-1)) G.1 G.2.1 d_Mo_count_39 (by decide) ?_
        refine hret (-1) () _ _ _ _ _ ls (((if_neg c1).trans ((if_neg c13).trans (if_neg c29))).symm) (hP.sub [] rfl) (hD.sub [] (by decide) rfl) hS (Nat.le_of_ble_eq_true rfl) (Nat.le_of_ble_eq_true rfl) d_Mo_count_40
      · skip
        refine lv_aload_n G.1 G.2.1 d_Mo_count_32 rfl (lv_at hl 0 rfl) ?_
        refine kg (ci := 14) (v := .int (nI 0)) G iMo hP 0 rfl rfl 85 (by decide) q3149 rfl gk2 d_Mo_count_33 ?_
        refine lv_goto (tgt := 40) G.1 G.2.1 d_Mo_count_36 (by decide) ?_
        refine W.eq (g2 := F0 m 40 ls [.int (nI 0)]) rfl ?_
        refine hret (nI 0) () _ _ _ _ _ ls (((if_neg c1).trans ((if_neg c13).trans (if_pos c29))).symm) (hP.sub [] rfl) (hD.sub [] (by decide) rfl) hS (Nat.le_of_ble_eq_true rfl) (Nat.le_of_ble_eq_true rfl) d_Mo_count_40
    · skip
      refine lv_ldcw (v := nI 60000) G.1 G.2.1 G.2.2.2.2.2.2.1 (G.2.2.2.2.2.1 _ q3830) d_Mo_count_16 ?_
      refine lv_aload_n G.1 G.2.1 d_Mo_count_19 rfl (lv_at hl 0 rfl) ?_
      refine kg (ci := 14) (v := .int (nI 0)) G iMo hP 0 rfl rfl 93 (by decide) q3157 rfl gk1 d_Mo_count_20 ?_
      refine lv_isub G.1 G.2.1 d_Mo_count_23 ?_
      refine tpi (w := nI 60000) (by decide) ?_
      refine lv_goto (tgt := 40) G.1 G.2.1 d_Mo_count_24 (by decide) ?_
      refine hret (nI 60000) () _ _ _ _ _ ls (((if_neg c1).trans (if_pos c13)).symm) (hP.sub [] rfl) (hD.sub [] (by decide) rfl) hS (Nat.le_of_ble_eq_true rfl) (Nat.le_of_ble_eq_true rfl) d_Mo_count_40
  · skip
    refine lv_aload_n G.1 G.2.1 d_Mo_count_4 rfl (lv_at hl 0 rfl) ?_
    refine kg (ci := 14) (v := .int (nI 0)) G iMo hP 0 rfl rfl 121 (by decide) q3185 rfl gk0 d_Mo_count_5 ?_
    refine lv_goto (tgt := 40) G.1 G.2.1 d_Mo_count_8 (by decide) ?_
    refine hret (nI 0) () _ _ _ _ _ ls ((if_pos c1).symm) (hP.sub [] rfl) (hD.sub [] (by decide) rfl) hS (Nat.le_of_ble_eq_true rfl) (Nat.le_of_ble_eq_true rfl) d_Mo_count_40
def y_Mo_together : MethodName := ⟨"ClassWorksModel", "together", "(IZ)J"⟩
abbrev b_Mo_together : ByteArray := prog_14_method_205_code
theorem d_Mo_together_0 : decode b_Mo_together 0 = .ok (.lconst 0, 1) := by decide +kernel
theorem d_Mo_together_1 : decode b_Mo_together 1 = .ok (.lstore_n 3, 1) := by decide +kernel
theorem d_Mo_together_2 : decode b_Mo_together 2 = .ok (.iconst 0, 1) := by decide +kernel
theorem d_Mo_together_3 : decode b_Mo_together 3 = .ok (.istore 5, 2) := by decide +kernel
theorem d_Mo_together_5 : decode b_Mo_together 5 = .ok (.iload 5, 2) := by decide +kernel
theorem d_Mo_together_7 : decode b_Mo_together 7 = .ok (.aload_n 0, 1) := by decide +kernel
theorem d_Mo_together_8 : decode b_Mo_together 8 = .ok (.getfield 1314, 3) := by decide +kernel
theorem d_Mo_together_11 : decode b_Mo_together 11 = .ok (.if_icmp .ge 56, 3) := by decide +kernel
theorem d_Mo_together_67 : decode b_Mo_together 67 = .ok (.lload_n 3, 1) := by decide +kernel
theorem d_Mo_together_68 : decode b_Mo_together 68 = .ok (.lreturn, 1) := by decide +kernel
abbrev rm_Mo_together : Room := { frames := 0, cells := 0, slots := 0, locals := 0 }
set_option maxHeartbeats 4000000 in
set_option maxRecDepth 100000 in
/-- together -/
theorem c_Mo_together (l : Launch) (D : va_G) (g : Nat → ClassId) (h0 : Nat) (a1 : Int32) (a2 : Int32) (fs : List Value) (sz : Nat) (glen : fs.length = 131) (gk0 : fs[121]? = some (.int (nI 0)))  : Met l y_Mo_together (mw y_Mo_together b_Mo_together 6 (some (.long))) (rm_Mo_together) (PC g D [] [.ref h0, .int a1, .int a2] sz [(h0, .inr (14, fs))]) (va_Ql (fun (r : Int64) (u : Unit) => r = 0) (QW D (va_A [(h0, .inr (14, fs))] sz) (fun u : Unit => [(h0, .inr (14, fs))])) (va_A [(h0, .inr (14, fs))] sz)) 0 0 (va_A [(h0, .inr (14, fs))] sz) := by
  refine ofL (by decide +kernel) (Nat.le_of_ble_eq_true rfl) ?_
  intro p e s m args below meth c A Q ls H locs G hsz hP hD hS hl hret
  subst hsz
  have hl : lv_has ls 6 [(0, .ref h0), (1, .int a1), (2, .int a2)] := hl
  refine lv_lconst (v := 0) G.1 G.2.1 d_Mo_together_0 (by decide) ?_
  refine lv_lstore_n (lv' := [(3, .long 0), (0, .ref h0), (1, .int a1), (2, .int a2)]) G.1 G.2.1 d_Mo_together_1 rfl hl (by decide) rfl (fun ls hl => ?_)
  refine lv_iconst (v := nI 0) G.1 G.2.1 d_Mo_together_2 (by decide) ?_
  refine lv_istore (lv' := [(5, .int (nI 0)), (3, .long 0), (0, .ref h0), (1, .int a1), (2, .int a2)]) G.1 G.2.1 d_Mo_together_3 hl (by decide) rfl (fun ls hl => ?_)
  refine lv_iload G.1 G.2.1 d_Mo_together_5 (lv_at hl 0 rfl) ?_
  refine lv_aload_n G.1 G.2.1 d_Mo_together_7 rfl (lv_at hl 2 rfl) ?_
  refine kg (ci := 14) (v := .int (nI 0)) G iMo hP 0 rfl rfl 121 (by decide) q3185 rfl gk0 d_Mo_together_8 ?_
  refine lv_icmp_ge (tgt := 67) G.1 G.2.1 d_Mo_together_11 (by decide) (fun c11 => ?_) (fun c11 => absurd c11 (by decide))
  refine lv_lload_n G.1 G.2.1 d_Mo_together_67 rfl (lv_at hl 1 rfl) ?_
  refine hret 0 () _ _ _ _ _ ls rfl (hP.sub [0] rfl) (hD.sub [0] (by decide) rfl) hS (Nat.le_of_ble_eq_true rfl) (Nat.le_of_ble_eq_true rfl) d_Mo_together_68
def y_Mo_least : MethodName := ⟨"ClassWorksModel", "least", "()I"⟩
abbrev b_Mo_least : ByteArray := prog_14_method_206_code
theorem q4262 : Cond.code y_Mo_together b_Mo_together 6 (some (.long)) ∈ lw_ok := lw_okmem (List.mem_of_getElem? (i := 4262) (by decide +kernel)) rfl
theorem q4261 : Cond.instanceMethod y_Mo_together ∈ lw_ok := lw_okmem (List.mem_of_getElem? (i := 4261) (by decide +kernel)) rfl
theorem q324 : Cond.selects y_Mo_together.cls y_Mo_together y_Mo_together ∈ lw_ok := lw_okmem (List.mem_of_getElem? (i := 324) (by decide +kernel)) rfl
theorem w_Mo_together : CWv y_Mo_together b_Mo_together 6 (some (.long)) 2 ∧ Cond.instanceMethod y_Mo_together ∈ lw_ok ∧ Cond.selects y_Mo_together.cls y_Mo_together y_Mo_together ∈ lw_ok := ⟨⟨q4262, q348, by decide +kernel, by decide +kernel, by decide +kernel⟩, q4261, q324⟩
theorem q4259 : Cond.methodLink "ClassWorksModel" 1344 y_Mo_together ∈ lw_ok := lw_okmem (List.mem_of_getElem? (i := 4259) (by decide +kernel)) rfl
theorem d_Mo_least_0 : decode b_Mo_least 0 = .ok (.iconst 0, 1) := by decide +kernel
theorem d_Mo_least_1 : decode b_Mo_least 1 = .ok (.istore_n 1, 1) := by decide +kernel
theorem d_Mo_least_2 : decode b_Mo_least 2 = .ok (.iload_n 1, 1) := by decide +kernel
theorem d_Mo_least_3 : decode b_Mo_least 3 = .ok (.aload_n 0, 1) := by decide +kernel
theorem d_Mo_least_4 : decode b_Mo_least 4 = .ok (.getfield 1314, 3) := by decide +kernel
theorem d_Mo_least_7 : decode b_Mo_least 7 = .ok (.if_icmp .ge 14, 3) := by decide +kernel
theorem d_Mo_least_21 : decode b_Mo_least 21 = .ok (.aload_n 0, 1) := by decide +kernel
theorem d_Mo_least_22 : decode b_Mo_least 22 = .ok (.bipush (-2), 2) := by decide +kernel
theorem d_Mo_least_24 : decode b_Mo_least 24 = .ok (.iconst 0, 1) := by decide +kernel
theorem d_Mo_least_25 : decode b_Mo_least 25 = .ok (.invokevirtual 1344, 3) := by decide +kernel
theorem d_Mo_least_28 : decode b_Mo_least 28 = .ok (.lstore_n 1, 1) := by decide +kernel
theorem d_Mo_least_29 : decode b_Mo_least 29 = .ok (.aload_n 0, 1) := by decide +kernel
theorem d_Mo_least_30 : decode b_Mo_least 30 = .ok (.bipush (-2), 2) := by decide +kernel
theorem d_Mo_least_32 : decode b_Mo_least 32 = .ok (.iconst 1, 1) := by decide +kernel
theorem d_Mo_least_33 : decode b_Mo_least 33 = .ok (.invokevirtual 1344, 3) := by decide +kernel
theorem d_Mo_least_36 : decode b_Mo_least 36 = .ok (.lstore_n 3, 1) := by decide +kernel
theorem d_Mo_least_37 : decode b_Mo_least 37 = .ok (.aload_n 0, 1) := by decide +kernel
theorem d_Mo_least_38 : decode b_Mo_least 38 = .ok (.getfield 1314, 3) := by decide +kernel
theorem d_Mo_least_41 : decode b_Mo_least 41 = .ok (.iconst 1, 1) := by decide +kernel
theorem d_Mo_least_42 : decode b_Mo_least 42 = .ok (.isub, 1) := by decide +kernel
theorem d_Mo_least_43 : decode b_Mo_least 43 = .ok (.istore 5, 2) := by decide +kernel
theorem d_Mo_least_45 : decode b_Mo_least 45 = .ok (.iload 5, 2) := by decide +kernel
theorem d_Mo_least_47 : decode b_Mo_least 47 = .ok (.ifCond .lt 146, 3) := by decide +kernel
theorem d_Mo_least_193 : decode b_Mo_least 193 = .ok (.aload_n 0, 1) := by decide +kernel
theorem d_Mo_least_194 : decode b_Mo_least 194 = .ok (.getfield 1314, 3) := by decide +kernel
theorem d_Mo_least_197 : decode b_Mo_least 197 = .ok (.ireturn, 1) := by decide +kernel
abbrev rm_Mo_least : Room := { frames := 1, cells := 0, slots := 0, locals := 25 }
set_option maxHeartbeats 4000000 in
set_option maxRecDepth 100000 in
/-- least -/
theorem c_Mo_least (l : Launch) (D : va_G) (g : Nat → ClassId) (h0 : Nat) (fs : List Value) (sz : Nat) (glen : fs.length = 131) (gk0 : fs[121]? = some (.int (nI 0)))  : Met l y_Mo_least (mw y_Mo_least b_Mo_least 7 (some .int)) (rm_Mo_least) (PC g D [] [.ref h0] sz [(h0, .inr (14, fs))]) (va_Qi (fun (r : Int32) (u : Unit) => r = nI 0) (QW D (va_A [(h0, .inr (14, fs))] sz) (fun u : Unit => [])) (va_A [(h0, .inr (14, fs))] sz)) 0 0 (va_A [(h0, .inr (14, fs))] sz) := by
  refine ofI (by decide +kernel) (Nat.le_of_ble_eq_true rfl) ?_
  intro p e s m args below meth c A Q ls H locs G hsz hP hD hS hl hret
  subst hsz
  have hl : lv_has ls 7 [(0, .ref h0)] := hl
  refine lv_iconst (v := nI 0) G.1 G.2.1 d_Mo_least_0 (by decide) ?_
  refine lv_istore_n (lv' := [(1, .int (nI 0)), (0, .ref h0)]) G.1 G.2.1 d_Mo_least_1 rfl hl (by decide) rfl (fun ls hl => ?_)
  refine lv_iload_n G.1 G.2.1 d_Mo_least_2 rfl (lv_at hl 0 rfl) ?_
  refine lv_aload_n G.1 G.2.1 d_Mo_least_3 rfl (lv_at hl 1 rfl) ?_
  refine kg (ci := 14) (v := .int (nI 0)) G iMo hP 0 rfl rfl 121 (by decide) q3185 rfl gk0 d_Mo_least_4 ?_
  refine lv_icmp_ge (tgt := 21) G.1 G.2.1 d_Mo_least_7 (by decide) (fun c7 => ?_) (fun c7 => absurd c7 (by decide))
  refine lv_aload_n G.1 G.2.1 d_Mo_least_21 rfl (lv_at hl 1 rfl) ?_
  refine lv_bipush (v := (-2)) G.1 G.2.1 d_Mo_least_22 (by decide) ?_
  refine lv_iconst (v := nI 0) G.1 G.2.1 d_Mo_least_24 (by decide) ?_
  refine kEl (wr := []) G (kV (As := [.int (-2), .int (nI 0)]) (rest := []) G hP hD hS [0] rfl rfl (c_Mo_together l D g h0 (-2) (nI 0) fs H.size glen gk0) w_Mo_together q4259 rfl rfl ⟨Nat.le_of_ble_eq_true rfl, Nat.le_of_ble_eq_true rfl⟩ (fun _ h => absurd h List.not_mem_nil) 0 (ci := 14) rfl rfl rfl hl.1 rfl (Nat.le_of_ble_eq_true rfl) rfl ⟨Nat.le_of_ble_eq_true rfl, (Nat.le_of_ble_eq_true rfl)⟩ d_Mo_least_25) hP hD hS [0] [] rfl rfl rfl rfl (fun r_1 u_2 H locs hw hP hD hS hzH => ?_)
  have hw : r_1 = 0 := hw
  have hP : va_P D CL [(h0, .inr (14, fs))] H := hP
  have hD : va_D A [(h0, .inr (14, fs))] := hD
  subst hw
  refine tpst (w := [.long 0]) rfl ?_
  refine lv_lstore_n (lv' := [(1, .long 0), (0, .ref h0)]) G.1 G.2.1 d_Mo_least_28 rfl hl (by decide) rfl (fun ls hl => ?_)
  refine W.eq (g2 := F0 m 29 ls []) rfl ?_
  refine lv_aload_n G.1 G.2.1 d_Mo_least_29 rfl (lv_at hl 1 rfl) ?_
  refine lv_bipush (v := (-2)) G.1 G.2.1 d_Mo_least_30 (by decide) ?_
  refine lv_iconst (v := nI 1) G.1 G.2.1 d_Mo_least_32 (by decide) ?_
  refine kEl (wr := []) G (kV (As := [.int (-2), .int (nI 1)]) (rest := []) G hP hD hS [0] rfl rfl (c_Mo_together l D g h0 (-2) (nI 1) fs H.size glen gk0) w_Mo_together q4259 rfl rfl ⟨Nat.le_of_ble_eq_true rfl, Nat.le_of_ble_eq_true rfl⟩ (fun _ h => absurd h List.not_mem_nil) 0 (ci := 14) rfl rfl rfl hl.1 rfl (Nat.le_of_ble_eq_true rfl) rfl ⟨Nat.le_of_ble_eq_true rfl, (Nat.le_of_ble_eq_true rfl)⟩ d_Mo_least_33) hP hD hS [0] [] rfl rfl rfl rfl (fun r_3 u_4 H locs hw hP hD hS hzH => ?_)
  have hw : r_3 = 0 := hw
  have hP : va_P D CL [(h0, .inr (14, fs))] H := hP
  have hD : va_D A [(h0, .inr (14, fs))] := hD
  subst hw
  refine tpst (w := [.long 0]) rfl ?_
  refine lv_lstore_n (lv' := [(3, .long 0), (1, .long 0), (0, .ref h0)]) G.1 G.2.1 d_Mo_least_36 rfl hl (by decide) rfl (fun ls hl => ?_)
  refine lv_aload_n G.1 G.2.1 d_Mo_least_37 rfl (lv_at hl 2 rfl) ?_
  refine kg (ci := 14) (v := .int (nI 0)) G iMo hP 0 rfl rfl 121 (by decide) q3185 rfl gk0 d_Mo_least_38 ?_
  refine lv_iconst (v := nI 1) G.1 G.2.1 d_Mo_least_41 (by decide) ?_
  refine lv_isub G.1 G.2.1 d_Mo_least_42 ?_
  refine tpi (w := (-1)) (by decide) ?_
  refine lv_istore (lv' := [(5, .int (-1)), (3, .long 0), (1, .long 0), (0, .ref h0)]) G.1 G.2.1 d_Mo_least_43 hl (by decide) rfl (fun ls hl => ?_)
  refine lv_iload G.1 G.2.1 d_Mo_least_45 (lv_at hl 0 rfl) ?_
  refine lv_if_lt (tgt := 193) G.1 G.2.1 d_Mo_least_47 (by decide) (fun c47 => ?_) (fun c47 => absurd c47 (by decide))
  refine W.eq (g2 := F0 m 193 ls []) rfl ?_
  refine lv_aload_n G.1 G.2.1 d_Mo_least_193 rfl (lv_at hl 3 rfl) ?_
  refine kg (ci := 14) (v := .int (nI 0)) G iMo hP 0 rfl rfl 121 (by decide) q3185 rfl gk0 d_Mo_least_194 ?_
  refine hret (nI 0) () _ _ _ _ _ ls rfl (hP.sub [] rfl) (hD.sub [] (by decide) rfl) hS (Nat.le_of_ble_eq_true rfl) (Nat.le_of_ble_eq_true rfl) d_Mo_least_197
def y_Mo_isRule : MethodName := ⟨"ClassWorksModel", "isRule", "(I)Z"⟩
abbrev b_Mo_isRule : ByteArray := prog_14_method_203_code
theorem d_Mo_isRule_0 : decode b_Mo_isRule 0 = .ok (.iload_n 0, 1) := by decide +kernel
theorem d_Mo_isRule_1 : decode b_Mo_isRule 1 = .ok (.iconst 1, 1) := by decide +kernel
theorem d_Mo_isRule_2 : decode b_Mo_isRule 2 = .ok (.if_icmp .lt 9, 3) := by decide +kernel
theorem d_Mo_isRule_5 : decode b_Mo_isRule 5 = .ok (.iload_n 0, 1) := by decide +kernel
theorem d_Mo_isRule_6 : decode b_Mo_isRule 6 = .ok (.bipush 14, 2) := by decide +kernel
theorem d_Mo_isRule_8 : decode b_Mo_isRule 8 = .ok (.if_icmp .le 39, 3) := by decide +kernel
theorem d_Mo_isRule_11 : decode b_Mo_isRule 11 = .ok (.iload_n 0, 1) := by decide +kernel
theorem d_Mo_isRule_12 : decode b_Mo_isRule 12 = .ok (.bipush 20, 2) := by decide +kernel
theorem d_Mo_isRule_14 : decode b_Mo_isRule 14 = .ok (.if_icmp .lt 9, 3) := by decide +kernel
theorem d_Mo_isRule_17 : decode b_Mo_isRule 17 = .ok (.iload_n 0, 1) := by decide +kernel
theorem d_Mo_isRule_18 : decode b_Mo_isRule 18 = .ok (.bipush 25, 2) := by decide +kernel
theorem d_Mo_isRule_20 : decode b_Mo_isRule 20 = .ok (.if_icmp .le 27, 3) := by decide +kernel
theorem d_Mo_isRule_23 : decode b_Mo_isRule 23 = .ok (.iload_n 0, 1) := by decide +kernel
theorem d_Mo_isRule_24 : decode b_Mo_isRule 24 = .ok (.bipush 30, 2) := by decide +kernel
theorem d_Mo_isRule_26 : decode b_Mo_isRule 26 = .ok (.if_icmp .lt 9, 3) := by decide +kernel
theorem d_Mo_isRule_29 : decode b_Mo_isRule 29 = .ok (.iload_n 0, 1) := by decide +kernel
theorem d_Mo_isRule_30 : decode b_Mo_isRule 30 = .ok (.bipush 43, 2) := by decide +kernel
theorem d_Mo_isRule_32 : decode b_Mo_isRule 32 = .ok (.if_icmp .le 15, 3) := by decide +kernel
theorem d_Mo_isRule_35 : decode b_Mo_isRule 35 = .ok (.iload_n 0, 1) := by decide +kernel
theorem d_Mo_isRule_36 : decode b_Mo_isRule 36 = .ok (.bipush 50, 2) := by decide +kernel
theorem d_Mo_isRule_38 : decode b_Mo_isRule 38 = .ok (.if_icmp .lt 13, 3) := by decide +kernel
theorem d_Mo_isRule_41 : decode b_Mo_isRule 41 = .ok (.iload_n 0, 1) := by decide +kernel
theorem d_Mo_isRule_42 : decode b_Mo_isRule 42 = .ok (.bipush 59, 2) := by decide +kernel
theorem d_Mo_isRule_44 : decode b_Mo_isRule 44 = .ok (.if_icmp .gt 7, 3) := by decide +kernel
theorem d_Mo_isRule_47 : decode b_Mo_isRule 47 = .ok (.iconst 1, 1) := by decide +kernel
theorem d_Mo_isRule_48 : decode b_Mo_isRule 48 = .ok (.goto 4, 3) := by decide +kernel
theorem d_Mo_isRule_51 : decode b_Mo_isRule 51 = .ok (.iconst 0, 1) := by decide +kernel
theorem d_Mo_isRule_52 : decode b_Mo_isRule 52 = .ok (.ireturn, 1) := by decide +kernel
abbrev rm_Mo_isRule : Room := { frames := 0, cells := 0, slots := 0, locals := 0 }
set_option maxHeartbeats 4000000 in
set_option maxRecDepth 100000 in
/-- isRule -/
theorem c_Mo_isRule (l : Launch) (D : va_G) (g : Nat → ClassId) (n9 : Nat) (sz : Nat) (hn9 : n9 < 60) : Met l y_Mo_isRule (mw y_Mo_isRule b_Mo_isRule 1 (some (.boolean))) (rm_Mo_isRule) (PC g D [] [.int (nI n9)] sz []) (va_Qi (fun (r : Int32) (u : Unit) => r = nI (ruB n9)) (QW D (va_A [] sz) (fun u : Unit => [])) (va_A [] sz)) 0 0 (va_A [] sz) := by
  refine ofZ (by decide +kernel) (Nat.le_of_ble_eq_true rfl) ?_
  intro p e s m args below meth c A Q ls H locs G hsz hP hD hS hl hret
  subst hsz
  have hl : lv_has ls 1 [(0, .int (nI n9))] := hl
  refine lv_iload_n G.1 G.2.1 d_Mo_isRule_0 rfl (lv_at hl 0 rfl) ?_
  refine lv_iconst (v := nI 1) G.1 G.2.1 d_Mo_isRule_1 (by decide) ?_
  refine lv_icmp_lt (tgt := 11) G.1 G.2.1 d_Mo_isRule_2 (by decide) (fun c2 => ?_) (fun c2 => ?_)
  · skip
    have c2 : n9 < 1 := (nI_ltI (by omega) (by omega)).mp c2
    refine lv_iload_n G.1 G.2.1 d_Mo_isRule_11 rfl (lv_at hl 0 rfl) ?_
    refine lv_bipush (v := nI 20) G.1 G.2.1 d_Mo_isRule_12 (by decide) ?_
    refine lv_icmp_lt (tgt := 23) G.1 G.2.1 d_Mo_isRule_14 (by decide) (fun c14 => ?_) (fun c14 => ?_)
    · skip
      have c14 : n9 < 20 := (nI_ltI (by omega) (by omega)).mp c14
      refine lv_iload_n G.1 G.2.1 d_Mo_isRule_23 rfl (lv_at hl 0 rfl) ?_
      refine lv_bipush (v := nI 30) G.1 G.2.1 d_Mo_isRule_24 (by decide) ?_
      refine lv_icmp_lt (tgt := 35) G.1 G.2.1 d_Mo_isRule_26 (by decide) (fun c26 => ?_) (fun c26 => ?_)
      · skip
        have c26 : n9 < 30 := (nI_ltI (by omega) (by omega)).mp c26
        refine lv_iload_n G.1 G.2.1 d_Mo_isRule_35 rfl (lv_at hl 0 rfl) ?_
        refine lv_bipush (v := nI 50) G.1 G.2.1 d_Mo_isRule_36 (by decide) ?_
        refine W.eq (g2 := F0 m 38 ls [.int (nI 50), .int (nI n9)]) rfl ?_
        refine lv_icmp_lt (tgt := 51) G.1 G.2.1 d_Mo_isRule_38 (by decide) (fun c38 => ?_) (fun c38 => ?_)
        · skip
          have c38 : n9 < 50 := (nI_ltI (by omega) (by omega)).mp c38
          refine lv_iconst (v := nI 0) G.1 G.2.1 d_Mo_isRule_51 (by decide) ?_
          refine hret (nI 0) () _ _ _ _ _ ls (by decide) (ruB_neg (by omega)) (hP.sub [] rfl) (hD.sub [] (by decide) rfl) hS (Nat.le_of_ble_eq_true rfl) (Nat.le_of_ble_eq_true rfl) d_Mo_isRule_52
        · skip
          have c38 : ¬ (n9 < 50) := fun h => c38 ((nI_ltI (by omega) (by omega)).mpr h)
          refine lv_iload_n G.1 G.2.1 d_Mo_isRule_41 rfl (lv_at hl 0 rfl) ?_
          refine lv_bipush (v := nI 59) G.1 G.2.1 d_Mo_isRule_42 (by decide) ?_
          refine lv_icmp_gt (tgt := 51) G.1 G.2.1 d_Mo_isRule_44 (by decide) (fun c44 => ?_) (fun c44 => ?_)
          · skip
            have c44 : 59 < n9 := (nI_ltI (by omega) (by omega)).mp c44
            refine lv_iconst (v := nI 0) G.1 G.2.1 d_Mo_isRule_51 (by decide) ?_
            refine hret (nI 0) () _ _ _ _ _ ls (by decide) (ruB_neg (by omega)) (hP.sub [] rfl) (hD.sub [] (by decide) rfl) hS (Nat.le_of_ble_eq_true rfl) (Nat.le_of_ble_eq_true rfl) d_Mo_isRule_52
          · skip
            have c44 : ¬ (59 < n9) := fun h => c44 ((nI_ltI (by omega) (by omega)).mpr h)
            refine lv_iconst (v := nI 1) G.1 G.2.1 d_Mo_isRule_47 (by decide) ?_
            refine lv_goto (tgt := 52) G.1 G.2.1 d_Mo_isRule_48 (by decide) ?_
            refine hret (nI 1) () _ _ _ _ _ ls (by decide) (ruB_pos (by omega)) (hP.sub [] rfl) (hD.sub [] (by decide) rfl) hS (Nat.le_of_ble_eq_true rfl) (Nat.le_of_ble_eq_true rfl) d_Mo_isRule_52
      · skip
        have c26 : ¬ (n9 < 30) := fun h => c26 ((nI_ltI (by omega) (by omega)).mpr h)
        refine lv_iload_n G.1 G.2.1 d_Mo_isRule_29 rfl (lv_at hl 0 rfl) ?_
        refine lv_bipush (v := nI 43) G.1 G.2.1 d_Mo_isRule_30 (by decide) ?_
        refine W.eq (g2 := F0 m 32 ls [.int (nI 43), .int (nI n9)]) rfl ?_
        refine lv_icmp_le (tgt := 47) G.1 G.2.1 d_Mo_isRule_32 (by decide) (fun c32 => ?_) (fun c32 => ?_)
        · skip
          have c32 : n9 ≤ 43 := (nI_leI (by omega) (by omega)).mp c32
          refine lv_iconst (v := nI 1) G.1 G.2.1 d_Mo_isRule_47 (by decide) ?_
          refine lv_goto (tgt := 52) G.1 G.2.1 d_Mo_isRule_48 (by decide) ?_
          refine hret (nI 1) () _ _ _ _ _ ls (by decide) (ruB_pos (by omega)) (hP.sub [] rfl) (hD.sub [] (by decide) rfl) hS (Nat.le_of_ble_eq_true rfl) (Nat.le_of_ble_eq_true rfl) d_Mo_isRule_52
        · skip
          have c32 : ¬ (n9 ≤ 43) := fun h => c32 ((nI_leI (by omega) (by omega)).mpr h)
          refine lv_iload_n G.1 G.2.1 d_Mo_isRule_35 rfl (lv_at hl 0 rfl) ?_
          refine lv_bipush (v := nI 50) G.1 G.2.1 d_Mo_isRule_36 (by decide) ?_
          refine lv_icmp_lt (tgt := 51) G.1 G.2.1 d_Mo_isRule_38 (by decide) (fun c38 => ?_) (fun c38 => ?_)
          · skip
            have c38 : n9 < 50 := (nI_ltI (by omega) (by omega)).mp c38
            refine lv_iconst (v := nI 0) G.1 G.2.1 d_Mo_isRule_51 (by decide) ?_
            refine hret (nI 0) () _ _ _ _ _ ls (by decide) (ruB_neg (by omega)) (hP.sub [] rfl) (hD.sub [] (by decide) rfl) hS (Nat.le_of_ble_eq_true rfl) (Nat.le_of_ble_eq_true rfl) d_Mo_isRule_52
          · skip
            have c38 : ¬ (n9 < 50) := fun h => c38 ((nI_ltI (by omega) (by omega)).mpr h)
            refine lv_iload_n G.1 G.2.1 d_Mo_isRule_41 rfl (lv_at hl 0 rfl) ?_
            refine lv_bipush (v := nI 59) G.1 G.2.1 d_Mo_isRule_42 (by decide) ?_
            refine lv_icmp_gt (tgt := 51) G.1 G.2.1 d_Mo_isRule_44 (by decide) (fun c44 => ?_) (fun c44 => ?_)
            · skip
              have c44 : 59 < n9 := (nI_ltI (by omega) (by omega)).mp c44
              refine lv_iconst (v := nI 0) G.1 G.2.1 d_Mo_isRule_51 (by decide) ?_
              refine hret (nI 0) () _ _ _ _ _ ls (by decide) (ruB_neg (by omega)) (hP.sub [] rfl) (hD.sub [] (by decide) rfl) hS (Nat.le_of_ble_eq_true rfl) (Nat.le_of_ble_eq_true rfl) d_Mo_isRule_52
            · skip
              have c44 : ¬ (59 < n9) := fun h => c44 ((nI_ltI (by omega) (by omega)).mpr h)
              refine lv_iconst (v := nI 1) G.1 G.2.1 d_Mo_isRule_47 (by decide) ?_
              refine lv_goto (tgt := 52) G.1 G.2.1 d_Mo_isRule_48 (by decide) ?_
              refine hret (nI 1) () _ _ _ _ _ ls (by decide) (ruB_pos (by omega)) (hP.sub [] rfl) (hD.sub [] (by decide) rfl) hS (Nat.le_of_ble_eq_true rfl) (Nat.le_of_ble_eq_true rfl) d_Mo_isRule_52
    · skip
      have c14 : ¬ (n9 < 20) := fun h => c14 ((nI_ltI (by omega) (by omega)).mpr h)
      refine lv_iload_n G.1 G.2.1 d_Mo_isRule_17 rfl (lv_at hl 0 rfl) ?_
      refine lv_bipush (v := nI 25) G.1 G.2.1 d_Mo_isRule_18 (by decide) ?_
      refine lv_icmp_le (tgt := 47) G.1 G.2.1 d_Mo_isRule_20 (by decide) (fun c20 => ?_) (fun c20 => ?_)
      · skip
        have c20 : n9 ≤ 25 := (nI_leI (by omega) (by omega)).mp c20
        refine lv_iconst (v := nI 1) G.1 G.2.1 d_Mo_isRule_47 (by decide) ?_
        refine lv_goto (tgt := 52) G.1 G.2.1 d_Mo_isRule_48 (by decide) ?_
        refine W.eq (g2 := F0 m 52 ls [.int (nI 1)]) rfl ?_
        refine hret (nI 1) () _ _ _ _ _ ls (by decide) (ruB_pos (by omega)) (hP.sub [] rfl) (hD.sub [] (by decide) rfl) hS (Nat.le_of_ble_eq_true rfl) (Nat.le_of_ble_eq_true rfl) d_Mo_isRule_52
      · skip
        have c20 : ¬ (n9 ≤ 25) := fun h => c20 ((nI_leI (by omega) (by omega)).mpr h)
        refine lv_iload_n G.1 G.2.1 d_Mo_isRule_23 rfl (lv_at hl 0 rfl) ?_
        refine lv_bipush (v := nI 30) G.1 G.2.1 d_Mo_isRule_24 (by decide) ?_
        refine W.eq (g2 := F0 m 26 ls [.int (nI 30), .int (nI n9)]) rfl ?_
        refine lv_icmp_lt (tgt := 35) G.1 G.2.1 d_Mo_isRule_26 (by decide) (fun c26 => ?_) (fun c26 => ?_)
        · skip
          have c26 : n9 < 30 := (nI_ltI (by omega) (by omega)).mp c26
          refine lv_iload_n G.1 G.2.1 d_Mo_isRule_35 rfl (lv_at hl 0 rfl) ?_
          refine lv_bipush (v := nI 50) G.1 G.2.1 d_Mo_isRule_36 (by decide) ?_
          refine lv_icmp_lt (tgt := 51) G.1 G.2.1 d_Mo_isRule_38 (by decide) (fun c38 => ?_) (fun c38 => ?_)
          · skip
            have c38 : n9 < 50 := (nI_ltI (by omega) (by omega)).mp c38
            refine lv_iconst (v := nI 0) G.1 G.2.1 d_Mo_isRule_51 (by decide) ?_
            refine hret (nI 0) () _ _ _ _ _ ls (by decide) (ruB_neg (by omega)) (hP.sub [] rfl) (hD.sub [] (by decide) rfl) hS (Nat.le_of_ble_eq_true rfl) (Nat.le_of_ble_eq_true rfl) d_Mo_isRule_52
          · skip
            have c38 : ¬ (n9 < 50) := fun h => c38 ((nI_ltI (by omega) (by omega)).mpr h)
            refine lv_iload_n G.1 G.2.1 d_Mo_isRule_41 rfl (lv_at hl 0 rfl) ?_
            refine lv_bipush (v := nI 59) G.1 G.2.1 d_Mo_isRule_42 (by decide) ?_
            refine lv_icmp_gt (tgt := 51) G.1 G.2.1 d_Mo_isRule_44 (by decide) (fun c44 => ?_) (fun c44 => ?_)
            · skip
              have c44 : 59 < n9 := (nI_ltI (by omega) (by omega)).mp c44
              refine lv_iconst (v := nI 0) G.1 G.2.1 d_Mo_isRule_51 (by decide) ?_
              refine hret (nI 0) () _ _ _ _ _ ls (by decide) (ruB_neg (by omega)) (hP.sub [] rfl) (hD.sub [] (by decide) rfl) hS (Nat.le_of_ble_eq_true rfl) (Nat.le_of_ble_eq_true rfl) d_Mo_isRule_52
            · skip
              have c44 : ¬ (59 < n9) := fun h => c44 ((nI_ltI (by omega) (by omega)).mpr h)
              refine lv_iconst (v := nI 1) G.1 G.2.1 d_Mo_isRule_47 (by decide) ?_
              refine lv_goto (tgt := 52) G.1 G.2.1 d_Mo_isRule_48 (by decide) ?_
              refine hret (nI 1) () _ _ _ _ _ ls (by decide) (ruB_pos (by omega)) (hP.sub [] rfl) (hD.sub [] (by decide) rfl) hS (Nat.le_of_ble_eq_true rfl) (Nat.le_of_ble_eq_true rfl) d_Mo_isRule_52
        · skip
          have c26 : ¬ (n9 < 30) := fun h => c26 ((nI_ltI (by omega) (by omega)).mpr h)
          refine lv_iload_n G.1 G.2.1 d_Mo_isRule_29 rfl (lv_at hl 0 rfl) ?_
          refine lv_bipush (v := nI 43) G.1 G.2.1 d_Mo_isRule_30 (by decide) ?_
          refine lv_icmp_le (tgt := 47) G.1 G.2.1 d_Mo_isRule_32 (by decide) (fun c32 => ?_) (fun c32 => ?_)
          · skip
            have c32 : n9 ≤ 43 := (nI_leI (by omega) (by omega)).mp c32
            refine lv_iconst (v := nI 1) G.1 G.2.1 d_Mo_isRule_47 (by decide) ?_
            refine lv_goto (tgt := 52) G.1 G.2.1 d_Mo_isRule_48 (by decide) ?_
            refine hret (nI 1) () _ _ _ _ _ ls (by decide) (ruB_pos (by omega)) (hP.sub [] rfl) (hD.sub [] (by decide) rfl) hS (Nat.le_of_ble_eq_true rfl) (Nat.le_of_ble_eq_true rfl) d_Mo_isRule_52
          · skip
            have c32 : ¬ (n9 ≤ 43) := fun h => c32 ((nI_leI (by omega) (by omega)).mpr h)
            refine lv_iload_n G.1 G.2.1 d_Mo_isRule_35 rfl (lv_at hl 0 rfl) ?_
            refine lv_bipush (v := nI 50) G.1 G.2.1 d_Mo_isRule_36 (by decide) ?_
            refine lv_icmp_lt (tgt := 51) G.1 G.2.1 d_Mo_isRule_38 (by decide) (fun c38 => ?_) (fun c38 => ?_)
            · skip
              have c38 : n9 < 50 := (nI_ltI (by omega) (by omega)).mp c38
              refine lv_iconst (v := nI 0) G.1 G.2.1 d_Mo_isRule_51 (by decide) ?_
              refine hret (nI 0) () _ _ _ _ _ ls (by decide) (ruB_neg (by omega)) (hP.sub [] rfl) (hD.sub [] (by decide) rfl) hS (Nat.le_of_ble_eq_true rfl) (Nat.le_of_ble_eq_true rfl) d_Mo_isRule_52
            · skip
              have c38 : ¬ (n9 < 50) := fun h => c38 ((nI_ltI (by omega) (by omega)).mpr h)
              refine lv_iload_n G.1 G.2.1 d_Mo_isRule_41 rfl (lv_at hl 0 rfl) ?_
              refine lv_bipush (v := nI 59) G.1 G.2.1 d_Mo_isRule_42 (by decide) ?_
              refine lv_icmp_gt (tgt := 51) G.1 G.2.1 d_Mo_isRule_44 (by decide) (fun c44 => ?_) (fun c44 => ?_)
              · skip
                have c44 : 59 < n9 := (nI_ltI (by omega) (by omega)).mp c44
                refine lv_iconst (v := nI 0) G.1 G.2.1 d_Mo_isRule_51 (by decide) ?_
                refine hret (nI 0) () _ _ _ _ _ ls (by decide) (ruB_neg (by omega)) (hP.sub [] rfl) (hD.sub [] (by decide) rfl) hS (Nat.le_of_ble_eq_true rfl) (Nat.le_of_ble_eq_true rfl) d_Mo_isRule_52
              · skip
                have c44 : ¬ (59 < n9) := fun h => c44 ((nI_ltI (by omega) (by omega)).mpr h)
                refine lv_iconst (v := nI 1) G.1 G.2.1 d_Mo_isRule_47 (by decide) ?_
                refine lv_goto (tgt := 52) G.1 G.2.1 d_Mo_isRule_48 (by decide) ?_
                refine W.eq (g2 := F0 m 52 ls [.int (nI 1)]) rfl ?_
                refine hret (nI 1) () _ _ _ _ _ ls (by decide) (ruB_pos (by omega)) (hP.sub [] rfl) (hD.sub [] (by decide) rfl) hS (Nat.le_of_ble_eq_true rfl) (Nat.le_of_ble_eq_true rfl) d_Mo_isRule_52
  · skip
    have c2 : ¬ (n9 < 1) := fun h => c2 ((nI_ltI (by omega) (by omega)).mpr h)
    refine lv_iload_n G.1 G.2.1 d_Mo_isRule_5 rfl (lv_at hl 0 rfl) ?_
    refine lv_bipush (v := nI 14) G.1 G.2.1 d_Mo_isRule_6 (by decide) ?_
    refine lv_icmp_le (tgt := 47) G.1 G.2.1 d_Mo_isRule_8 (by decide) (fun c8 => ?_) (fun c8 => ?_)
    · skip
      have c8 : n9 ≤ 14 := (nI_leI (by omega) (by omega)).mp c8
      refine lv_iconst (v := nI 1) G.1 G.2.1 d_Mo_isRule_47 (by decide) ?_
      refine lv_goto (tgt := 52) G.1 G.2.1 d_Mo_isRule_48 (by decide) ?_
      refine hret (nI 1) () _ _ _ _ _ ls (by decide) (ruB_pos (by omega)) (hP.sub [] rfl) (hD.sub [] (by decide) rfl) hS (Nat.le_of_ble_eq_true rfl) (Nat.le_of_ble_eq_true rfl) d_Mo_isRule_52
    · skip
      have c8 : ¬ (n9 ≤ 14) := fun h => c8 ((nI_leI (by omega) (by omega)).mpr h)
      refine lv_iload_n G.1 G.2.1 d_Mo_isRule_11 rfl (lv_at hl 0 rfl) ?_
      refine lv_bipush (v := nI 20) G.1 G.2.1 d_Mo_isRule_12 (by decide) ?_
      refine lv_icmp_lt (tgt := 23) G.1 G.2.1 d_Mo_isRule_14 (by decide) (fun c14 => ?_) (fun c14 => ?_)
      · skip
        have c14 : n9 < 20 := (nI_ltI (by omega) (by omega)).mp c14
        refine lv_iload_n G.1 G.2.1 d_Mo_isRule_23 rfl (lv_at hl 0 rfl) ?_
        refine lv_bipush (v := nI 30) G.1 G.2.1 d_Mo_isRule_24 (by decide) ?_
        refine W.eq (g2 := F0 m 26 ls [.int (nI 30), .int (nI n9)]) rfl ?_
        refine lv_icmp_lt (tgt := 35) G.1 G.2.1 d_Mo_isRule_26 (by decide) (fun c26 => ?_) (fun c26 => ?_)
        · skip
          have c26 : n9 < 30 := (nI_ltI (by omega) (by omega)).mp c26
          refine lv_iload_n G.1 G.2.1 d_Mo_isRule_35 rfl (lv_at hl 0 rfl) ?_
          refine lv_bipush (v := nI 50) G.1 G.2.1 d_Mo_isRule_36 (by decide) ?_
          refine lv_icmp_lt (tgt := 51) G.1 G.2.1 d_Mo_isRule_38 (by decide) (fun c38 => ?_) (fun c38 => ?_)
          · skip
            have c38 : n9 < 50 := (nI_ltI (by omega) (by omega)).mp c38
            refine lv_iconst (v := nI 0) G.1 G.2.1 d_Mo_isRule_51 (by decide) ?_
            refine hret (nI 0) () _ _ _ _ _ ls (by decide) (ruB_neg (by omega)) (hP.sub [] rfl) (hD.sub [] (by decide) rfl) hS (Nat.le_of_ble_eq_true rfl) (Nat.le_of_ble_eq_true rfl) d_Mo_isRule_52
          · skip
            have c38 : ¬ (n9 < 50) := fun h => c38 ((nI_ltI (by omega) (by omega)).mpr h)
            refine lv_iload_n G.1 G.2.1 d_Mo_isRule_41 rfl (lv_at hl 0 rfl) ?_
            refine lv_bipush (v := nI 59) G.1 G.2.1 d_Mo_isRule_42 (by decide) ?_
            refine lv_icmp_gt (tgt := 51) G.1 G.2.1 d_Mo_isRule_44 (by decide) (fun c44 => ?_) (fun c44 => ?_)
            · skip
              have c44 : 59 < n9 := (nI_ltI (by omega) (by omega)).mp c44
              refine lv_iconst (v := nI 0) G.1 G.2.1 d_Mo_isRule_51 (by decide) ?_
              refine hret (nI 0) () _ _ _ _ _ ls (by decide) (ruB_neg (by omega)) (hP.sub [] rfl) (hD.sub [] (by decide) rfl) hS (Nat.le_of_ble_eq_true rfl) (Nat.le_of_ble_eq_true rfl) d_Mo_isRule_52
            · skip
              have c44 : ¬ (59 < n9) := fun h => c44 ((nI_ltI (by omega) (by omega)).mpr h)
              refine lv_iconst (v := nI 1) G.1 G.2.1 d_Mo_isRule_47 (by decide) ?_
              refine lv_goto (tgt := 52) G.1 G.2.1 d_Mo_isRule_48 (by decide) ?_
              refine hret (nI 1) () _ _ _ _ _ ls (by decide) (ruB_pos (by omega)) (hP.sub [] rfl) (hD.sub [] (by decide) rfl) hS (Nat.le_of_ble_eq_true rfl) (Nat.le_of_ble_eq_true rfl) d_Mo_isRule_52
        · skip
          have c26 : ¬ (n9 < 30) := fun h => c26 ((nI_ltI (by omega) (by omega)).mpr h)
          refine lv_iload_n G.1 G.2.1 d_Mo_isRule_29 rfl (lv_at hl 0 rfl) ?_
          refine lv_bipush (v := nI 43) G.1 G.2.1 d_Mo_isRule_30 (by decide) ?_
          refine lv_icmp_le (tgt := 47) G.1 G.2.1 d_Mo_isRule_32 (by decide) (fun c32 => ?_) (fun c32 => ?_)
          · skip
            have c32 : n9 ≤ 43 := (nI_leI (by omega) (by omega)).mp c32
            refine lv_iconst (v := nI 1) G.1 G.2.1 d_Mo_isRule_47 (by decide) ?_
            refine lv_goto (tgt := 52) G.1 G.2.1 d_Mo_isRule_48 (by decide) ?_
            refine hret (nI 1) () _ _ _ _ _ ls (by decide) (ruB_pos (by omega)) (hP.sub [] rfl) (hD.sub [] (by decide) rfl) hS (Nat.le_of_ble_eq_true rfl) (Nat.le_of_ble_eq_true rfl) d_Mo_isRule_52
          · skip
            have c32 : ¬ (n9 ≤ 43) := fun h => c32 ((nI_leI (by omega) (by omega)).mpr h)
            refine lv_iload_n G.1 G.2.1 d_Mo_isRule_35 rfl (lv_at hl 0 rfl) ?_
            refine lv_bipush (v := nI 50) G.1 G.2.1 d_Mo_isRule_36 (by decide) ?_
            refine lv_icmp_lt (tgt := 51) G.1 G.2.1 d_Mo_isRule_38 (by decide) (fun c38 => ?_) (fun c38 => ?_)
            · skip
              have c38 : n9 < 50 := (nI_ltI (by omega) (by omega)).mp c38
              refine lv_iconst (v := nI 0) G.1 G.2.1 d_Mo_isRule_51 (by decide) ?_
              refine hret (nI 0) () _ _ _ _ _ ls (by decide) (ruB_neg (by omega)) (hP.sub [] rfl) (hD.sub [] (by decide) rfl) hS (Nat.le_of_ble_eq_true rfl) (Nat.le_of_ble_eq_true rfl) d_Mo_isRule_52
            · skip
              have c38 : ¬ (n9 < 50) := fun h => c38 ((nI_ltI (by omega) (by omega)).mpr h)
              refine lv_iload_n G.1 G.2.1 d_Mo_isRule_41 rfl (lv_at hl 0 rfl) ?_
              refine lv_bipush (v := nI 59) G.1 G.2.1 d_Mo_isRule_42 (by decide) ?_
              refine lv_icmp_gt (tgt := 51) G.1 G.2.1 d_Mo_isRule_44 (by decide) (fun c44 => ?_) (fun c44 => ?_)
              · skip
                have c44 : 59 < n9 := (nI_ltI (by omega) (by omega)).mp c44
                refine lv_iconst (v := nI 0) G.1 G.2.1 d_Mo_isRule_51 (by decide) ?_
                refine hret (nI 0) () _ _ _ _ _ ls (by decide) (ruB_neg (by omega)) (hP.sub [] rfl) (hD.sub [] (by decide) rfl) hS (Nat.le_of_ble_eq_true rfl) (Nat.le_of_ble_eq_true rfl) d_Mo_isRule_52
              · skip
                have c44 : ¬ (59 < n9) := fun h => c44 ((nI_ltI (by omega) (by omega)).mpr h)
                refine lv_iconst (v := nI 1) G.1 G.2.1 d_Mo_isRule_47 (by decide) ?_
                refine lv_goto (tgt := 52) G.1 G.2.1 d_Mo_isRule_48 (by decide) ?_
                refine W.eq (g2 := F0 m 52 ls [.int (nI 1)]) rfl ?_
                refine hret (nI 1) () _ _ _ _ _ ls (by decide) (ruB_pos (by omega)) (hP.sub [] rfl) (hD.sub [] (by decide) rfl) hS (Nat.le_of_ble_eq_true rfl) (Nat.le_of_ble_eq_true rfl) d_Mo_isRule_52
      · skip
        have c14 : ¬ (n9 < 20) := fun h => c14 ((nI_ltI (by omega) (by omega)).mpr h)
        refine lv_iload_n G.1 G.2.1 d_Mo_isRule_17 rfl (lv_at hl 0 rfl) ?_
        refine lv_bipush (v := nI 25) G.1 G.2.1 d_Mo_isRule_18 (by decide) ?_
        refine W.eq (g2 := F0 m 20 ls [.int (nI 25), .int (nI n9)]) rfl ?_
        refine lv_icmp_le (tgt := 47) G.1 G.2.1 d_Mo_isRule_20 (by decide) (fun c20 => ?_) (fun c20 => ?_)
        · skip
          have c20 : n9 ≤ 25 := (nI_leI (by omega) (by omega)).mp c20
          refine lv_iconst (v := nI 1) G.1 G.2.1 d_Mo_isRule_47 (by decide) ?_
          refine lv_goto (tgt := 52) G.1 G.2.1 d_Mo_isRule_48 (by decide) ?_
          refine hret (nI 1) () _ _ _ _ _ ls (by decide) (ruB_pos (by omega)) (hP.sub [] rfl) (hD.sub [] (by decide) rfl) hS (Nat.le_of_ble_eq_true rfl) (Nat.le_of_ble_eq_true rfl) d_Mo_isRule_52
        · skip
          have c20 : ¬ (n9 ≤ 25) := fun h => c20 ((nI_leI (by omega) (by omega)).mpr h)
          refine lv_iload_n G.1 G.2.1 d_Mo_isRule_23 rfl (lv_at hl 0 rfl) ?_
          refine lv_bipush (v := nI 30) G.1 G.2.1 d_Mo_isRule_24 (by decide) ?_
          refine lv_icmp_lt (tgt := 35) G.1 G.2.1 d_Mo_isRule_26 (by decide) (fun c26 => ?_) (fun c26 => ?_)
          · skip
            have c26 : n9 < 30 := (nI_ltI (by omega) (by omega)).mp c26
            refine lv_iload_n G.1 G.2.1 d_Mo_isRule_35 rfl (lv_at hl 0 rfl) ?_
            refine lv_bipush (v := nI 50) G.1 G.2.1 d_Mo_isRule_36 (by decide) ?_
            refine lv_icmp_lt (tgt := 51) G.1 G.2.1 d_Mo_isRule_38 (by decide) (fun c38 => ?_) (fun c38 => ?_)
            · skip
              have c38 : n9 < 50 := (nI_ltI (by omega) (by omega)).mp c38
              refine lv_iconst (v := nI 0) G.1 G.2.1 d_Mo_isRule_51 (by decide) ?_
              refine hret (nI 0) () _ _ _ _ _ ls (by decide) (ruB_neg (by omega)) (hP.sub [] rfl) (hD.sub [] (by decide) rfl) hS (Nat.le_of_ble_eq_true rfl) (Nat.le_of_ble_eq_true rfl) d_Mo_isRule_52
            · skip
              have c38 : ¬ (n9 < 50) := fun h => c38 ((nI_ltI (by omega) (by omega)).mpr h)
              refine lv_iload_n G.1 G.2.1 d_Mo_isRule_41 rfl (lv_at hl 0 rfl) ?_
              refine lv_bipush (v := nI 59) G.1 G.2.1 d_Mo_isRule_42 (by decide) ?_
              refine lv_icmp_gt (tgt := 51) G.1 G.2.1 d_Mo_isRule_44 (by decide) (fun c44 => ?_) (fun c44 => ?_)
              · skip
                have c44 : 59 < n9 := (nI_ltI (by omega) (by omega)).mp c44
                refine lv_iconst (v := nI 0) G.1 G.2.1 d_Mo_isRule_51 (by decide) ?_
                refine hret (nI 0) () _ _ _ _ _ ls (by decide) (ruB_neg (by omega)) (hP.sub [] rfl) (hD.sub [] (by decide) rfl) hS (Nat.le_of_ble_eq_true rfl) (Nat.le_of_ble_eq_true rfl) d_Mo_isRule_52
              · skip
                have c44 : ¬ (59 < n9) := fun h => c44 ((nI_ltI (by omega) (by omega)).mpr h)
                refine lv_iconst (v := nI 1) G.1 G.2.1 d_Mo_isRule_47 (by decide) ?_
                refine lv_goto (tgt := 52) G.1 G.2.1 d_Mo_isRule_48 (by decide) ?_
                refine W.eq (g2 := F0 m 52 ls [.int (nI 1)]) rfl ?_
                refine hret (nI 1) () _ _ _ _ _ ls (by decide) (ruB_pos (by omega)) (hP.sub [] rfl) (hD.sub [] (by decide) rfl) hS (Nat.le_of_ble_eq_true rfl) (Nat.le_of_ble_eq_true rfl) d_Mo_isRule_52
          · skip
            have c26 : ¬ (n9 < 30) := fun h => c26 ((nI_ltI (by omega) (by omega)).mpr h)
            refine lv_iload_n G.1 G.2.1 d_Mo_isRule_29 rfl (lv_at hl 0 rfl) ?_
            refine lv_bipush (v := nI 43) G.1 G.2.1 d_Mo_isRule_30 (by decide) ?_
            refine lv_icmp_le (tgt := 47) G.1 G.2.1 d_Mo_isRule_32 (by decide) (fun c32 => ?_) (fun c32 => ?_)
            · skip
              have c32 : n9 ≤ 43 := (nI_leI (by omega) (by omega)).mp c32
              refine lv_iconst (v := nI 1) G.1 G.2.1 d_Mo_isRule_47 (by decide) ?_
              refine lv_goto (tgt := 52) G.1 G.2.1 d_Mo_isRule_48 (by decide) ?_
              refine hret (nI 1) () _ _ _ _ _ ls (by decide) (ruB_pos (by omega)) (hP.sub [] rfl) (hD.sub [] (by decide) rfl) hS (Nat.le_of_ble_eq_true rfl) (Nat.le_of_ble_eq_true rfl) d_Mo_isRule_52
            · skip
              have c32 : ¬ (n9 ≤ 43) := fun h => c32 ((nI_leI (by omega) (by omega)).mpr h)
              refine lv_iload_n G.1 G.2.1 d_Mo_isRule_35 rfl (lv_at hl 0 rfl) ?_
              refine lv_bipush (v := nI 50) G.1 G.2.1 d_Mo_isRule_36 (by decide) ?_
              refine lv_icmp_lt (tgt := 51) G.1 G.2.1 d_Mo_isRule_38 (by decide) (fun c38 => ?_) (fun c38 => ?_)
              · skip
                have c38 : n9 < 50 := (nI_ltI (by omega) (by omega)).mp c38
                refine lv_iconst (v := nI 0) G.1 G.2.1 d_Mo_isRule_51 (by decide) ?_
                refine hret (nI 0) () _ _ _ _ _ ls (by decide) (ruB_neg (by omega)) (hP.sub [] rfl) (hD.sub [] (by decide) rfl) hS (Nat.le_of_ble_eq_true rfl) (Nat.le_of_ble_eq_true rfl) d_Mo_isRule_52
              · skip
                have c38 : ¬ (n9 < 50) := fun h => c38 ((nI_ltI (by omega) (by omega)).mpr h)
                refine lv_iload_n G.1 G.2.1 d_Mo_isRule_41 rfl (lv_at hl 0 rfl) ?_
                refine lv_bipush (v := nI 59) G.1 G.2.1 d_Mo_isRule_42 (by decide) ?_
                refine W.eq (g2 := F0 m 44 ls [.int (nI 59), .int (nI n9)]) rfl ?_
                refine lv_icmp_gt (tgt := 51) G.1 G.2.1 d_Mo_isRule_44 (by decide) (fun c44 => ?_) (fun c44 => ?_)
                · skip
                  have c44 : 59 < n9 := (nI_ltI (by omega) (by omega)).mp c44
                  refine lv_iconst (v := nI 0) G.1 G.2.1 d_Mo_isRule_51 (by decide) ?_
                  refine hret (nI 0) () _ _ _ _ _ ls (by decide) (ruB_neg (by omega)) (hP.sub [] rfl) (hD.sub [] (by decide) rfl) hS (Nat.le_of_ble_eq_true rfl) (Nat.le_of_ble_eq_true rfl) d_Mo_isRule_52
                · skip
                  have c44 : ¬ (59 < n9) := fun h => c44 ((nI_ltI (by omega) (by omega)).mpr h)
                  refine lv_iconst (v := nI 1) G.1 G.2.1 d_Mo_isRule_47 (by decide) ?_
                  refine lv_goto (tgt := 52) G.1 G.2.1 d_Mo_isRule_48 (by decide) ?_
                  refine hret (nI 1) () _ _ _ _ _ ls (by decide) (ruB_pos (by omega)) (hP.sub [] rfl) (hD.sub [] (by decide) rfl) hS (Nat.le_of_ble_eq_true rfl) (Nat.le_of_ble_eq_true rfl) d_Mo_isRule_52
def y_Mo_hole : MethodName := ⟨"ClassWorksModel", "hole", "(I)I"⟩
abbrev b_Mo_hole : ByteArray := prog_14_method_204_code
theorem q4254 : Cond.code y_Mo_isRule b_Mo_isRule 1 (some (.boolean)) ∈ lw_ok := lw_okmem (List.mem_of_getElem? (i := 4254) (by decide +kernel)) rfl
theorem q4253 : Cond.static y_Mo_isRule ∈ lw_ok := lw_okmem (List.mem_of_getElem? (i := 4253) (by decide +kernel)) rfl
theorem w_Mo_isRule : CWv y_Mo_isRule b_Mo_isRule 1 (some (.boolean)) 1 ∧ Cond.static y_Mo_isRule ∈ lw_ok := ⟨⟨q4254, q348, by decide +kernel, by decide +kernel, by decide +kernel⟩, q4253⟩
theorem q4252 : Cond.methodLink "ClassWorksModel" 1341 y_Mo_isRule ∈ lw_ok := lw_okmem (List.mem_of_getElem? (i := 4252) (by decide +kernel)) rfl
theorem d_Mo_hole_0 : decode b_Mo_hole 0 = .ok (.iload_n 1, 1) := by decide +kernel
theorem d_Mo_hole_1 : decode b_Mo_hole 1 = .ok (.ifCond .ge 5, 3) := by decide +kernel
theorem d_Mo_hole_4 : decode b_Mo_hole 4 = .ok (.iconst (-1), 1) := by decide +kernel
theorem d_Mo_hole_5 : decode b_Mo_hole 5 = .ok (.ireturn, 1) := by decide +kernel
theorem d_Mo_hole_6 : decode b_Mo_hole 6 = .ok (.lconst 0, 1) := by decide +kernel
theorem d_Mo_hole_7 : decode b_Mo_hole 7 = .ok (.lstore_n 2, 1) := by decide +kernel
theorem d_Mo_hole_8 : decode b_Mo_hole 8 = .ok (.iconst 0, 1) := by decide +kernel
theorem d_Mo_hole_9 : decode b_Mo_hole 9 = .ok (.istore 4, 2) := by decide +kernel
theorem d_Mo_hole_11 : decode b_Mo_hole 11 = .ok (.iload 4, 2) := by decide +kernel
theorem d_Mo_hole_13 : decode b_Mo_hole 13 = .ok (.aload_n 0, 1) := by decide +kernel
theorem d_Mo_hole_14 : decode b_Mo_hole 14 = .ok (.getfield 1314, 3) := by decide +kernel
theorem d_Mo_hole_17 : decode b_Mo_hole 17 = .ok (.if_icmp .ge 27, 3) := by decide +kernel
theorem d_Mo_hole_44 : decode b_Mo_hole 44 = .ok (.iload_n 1, 1) := by decide +kernel
theorem d_Mo_hole_45 : decode b_Mo_hole 45 = .ok (.istore 4, 2) := by decide +kernel
theorem d_Mo_hole_47 : decode b_Mo_hole 47 = .ok (.iconst 1, 1) := by decide +kernel
theorem d_Mo_hole_48 : decode b_Mo_hole 48 = .ok (.istore 5, 2) := by decide +kernel
theorem d_Mo_hole_50 : decode b_Mo_hole 50 = .ok (.iload 5, 2) := by decide +kernel
theorem d_Mo_hole_52 : decode b_Mo_hole 52 = .ok (.bipush 60, 2) := by decide +kernel
theorem d_Mo_hole_54 : decode b_Mo_hole 54 = .ok (.if_icmp .ge 39, 3) := by decide +kernel
theorem d_Mo_hole_57 : decode b_Mo_hole 57 = .ok (.iload 5, 2) := by decide +kernel
theorem d_Mo_hole_59 : decode b_Mo_hole 59 = .ok (.invokestatic 1341, 3) := by decide +kernel
theorem d_Mo_hole_62 : decode b_Mo_hole 62 = .ok (.ifCond .eq 25, 3) := by decide +kernel
theorem d_Mo_hole_65 : decode b_Mo_hole 65 = .ok (.lload_n 2, 1) := by decide +kernel
theorem d_Mo_hole_66 : decode b_Mo_hole 66 = .ok (.iload 5, 2) := by decide +kernel
theorem d_Mo_hole_68 : decode b_Mo_hole 68 = .ok (.lshr, 1) := by decide +kernel
theorem d_Mo_hole_69 : decode b_Mo_hole 69 = .ok (.lconst 1, 1) := by decide +kernel
theorem d_Mo_hole_70 : decode b_Mo_hole 70 = .ok (.land, 1) := by decide +kernel
theorem d_Mo_hole_71 : decode b_Mo_hole 71 = .ok (.lconst 0, 1) := by decide +kernel
theorem d_Mo_hole_72 : decode b_Mo_hole 72 = .ok (.lcmp, 1) := by decide +kernel
theorem d_Mo_hole_73 : decode b_Mo_hole 73 = .ok (.ifCond .ne 14, 3) := by decide +kernel
theorem d_Mo_hole_76 : decode b_Mo_hole 76 = .ok (.iload 4, 2) := by decide +kernel
theorem d_Mo_hole_78 : decode b_Mo_hole 78 = .ok (.ifCond .ne 6, 3) := by decide +kernel
theorem d_Mo_hole_81 : decode b_Mo_hole 81 = .ok (.iload 5, 2) := by decide +kernel
theorem d_Mo_hole_83 : decode b_Mo_hole 83 = .ok (.ireturn, 1) := by decide +kernel
theorem d_Mo_hole_84 : decode b_Mo_hole 84 = .ok (.iinc 4 (-1), 3) := by decide +kernel
theorem d_Mo_hole_87 : decode b_Mo_hole 87 = .ok (.iinc 5 1, 3) := by decide +kernel
theorem d_Mo_hole_90 : decode b_Mo_hole 90 = .ok (.goto (-40), 3) := by decide +kernel
theorem d_Mo_hole_93 : decode b_Mo_hole 93 = .ok (.bipush (-2), 2) := by decide +kernel
theorem d_Mo_hole_95 : decode b_Mo_hole 95 = .ok (.ireturn, 1) := by decide +kernel
abbrev rm_Mo_hole : Room := { frames := 1, cells := 0, slots := 0, locals := 20 }
set_option maxHeartbeats 4000000 in
set_option maxRecDepth 100000 in
/-- hole -/
theorem c_Mo_hole (l : Launch) (D : va_G) (g : Nat → ClassId) (h0 : Nat) (iv : Int32) (fs : List Value) (sz : Nat) (glen : fs.length = 131) (gk0 : fs[121]? = some (.int (nI 0)))  : Met l y_Mo_hole (mw y_Mo_hole b_Mo_hole 6 (some .int)) (rm_Mo_hole) (PC g D [] [.ref h0, .int iv] sz [(h0, .inr (14, fs))]) (va_Qi (fun (r : Int32) (u : Unit) => r = hoF iv) (QW D (va_A [(h0, .inr (14, fs))] sz) (fun u : Unit => [])) (va_A [(h0, .inr (14, fs))] sz)) 0 0 (va_A [(h0, .inr (14, fs))] sz) := by
  refine ofI (by decide +kernel) (Nat.le_of_ble_eq_true rfl) ?_
  intro p e s m args below meth c A Q ls H locs G hsz hP hD hS hl hret
  subst hsz
  have hl : lv_has ls 6 [(0, .ref h0), (1, .int iv)] := hl
  refine lv_iload_n G.1 G.2.1 d_Mo_hole_0 rfl (lv_at hl 1 rfl) ?_
  refine lv_if_ge (tgt := 6) G.1 G.2.1 d_Mo_hole_1 (by decide) (fun c1 => ?_) (fun c1 => ?_)
  · skip
    have hfu : hoH 59 1 iv = hoF iv := hoH_F (i_ge c1)
    refine lv_lconst (v := 0) G.1 G.2.1 d_Mo_hole_6 (by decide) ?_
    refine lv_lstore_n (lv' := [(2, .long 0), (0, .ref h0), (1, .int iv)]) G.1 G.2.1 d_Mo_hole_7 rfl hl (by decide) rfl (fun ls hl => ?_)
    refine lv_iconst (v := nI 0) G.1 G.2.1 d_Mo_hole_8 (by decide) ?_
    refine lv_istore (lv' := [(4, .int (nI 0)), (2, .long 0), (0, .ref h0), (1, .int iv)]) G.1 G.2.1 d_Mo_hole_9 hl (by decide) rfl (fun ls hl => ?_)
    refine lv_iload G.1 G.2.1 d_Mo_hole_11 (lv_at hl 0 rfl) ?_
    refine lv_aload_n G.1 G.2.1 d_Mo_hole_13 rfl (lv_at hl 2 rfl) ?_
    refine kg (ci := 14) (v := .int (nI 0)) G iMo hP 0 rfl rfl 121 (by decide) q3185 rfl gk0 d_Mo_hole_14 ?_
    refine lv_icmp_ge (tgt := 44) G.1 G.2.1 d_Mo_hole_17 (by decide) (fun c17 => ?_) (fun c17 => absurd c17 (by decide))
    refine lv_iload_n G.1 G.2.1 d_Mo_hole_44 rfl (lv_at hl 3 rfl) ?_
    refine W.eq (g2 := F0 m 45 ls [.int iv]) rfl ?_
    refine lv_istore (lv' := [(4, .int iv), (2, .long 0), (0, .ref h0), (1, .int iv)]) G.1 G.2.1 d_Mo_hole_45 hl (by decide) rfl (fun ls hl => ?_)
    refine lv_iconst (v := nI 1) G.1 G.2.1 d_Mo_hole_47 (by decide) ?_
    refine lv_istore (lv' := [(5, .int (nI 1)), (4, .int iv), (2, .long 0), (0, .ref h0), (1, .int iv)]) G.1 G.2.1 d_Mo_hole_48 hl (by decide) rfl (fun ls hl => ?_)
    have L_1 : ∀ (k_L_1 : Nat) (fu : Nat) (iw : Int32) (ru : Nat), (60 - ru) < k_L_1 → (ru + fu = 60) → (1 ≤ ru) → (hoH fu ru iw = hoF iv) → ∀ (H : Heap) (locs : List Loc), va_P D CL [(h0, .inr (14, fs))] H → va_D A [(h0, .inr (14, fs))] → va_S A s.heap H locs → ∀ ls, lv_has ls 6 [(0, .ref h0), (1, .int iv), (2, .long 0), (4, .int iw), (5, .int (nI ru))] → W p l e rm_Mo_hole s m args below meth c H locs 0 0 Q (F0 m 50 ls []) := by
      intro k_L_1
      induction k_L_1 with
      | zero => intro fu iw ru hk_L_1; exact absurd hk_L_1 (Nat.not_lt_zero _)
      | succ k_L_1 ih_L_1 =>
        intro fu iw ru hk_L_1 hru hru1 hin H locs hP hD hS ls hl
        refine lv_iload G.1 G.2.1 d_Mo_hole_50 (lv_at hl 4 rfl) ?_
        refine lv_bipush (v := nI 60) G.1 G.2.1 d_Mo_hole_52 (by decide) ?_
        refine lv_icmp_ge (tgt := 93) G.1 G.2.1 d_Mo_hole_54 (by decide) (fun c54 => ?_) (fun c54 => ?_)
        · skip
          have c54 : 60 ≤ ru := (nI_leI (by omega) (by omega)).mp c54
          obtain rfl : fu = 0 := by omega
          refine lv_bipush (v := (-2)) G.1 G.2.1 d_Mo_hole_93 (by decide) ?_
          refine hret (-2) () _ _ _ _ _ ls hin (hP.sub [] rfl) (hD.sub [] (by decide) rfl) hS (Nat.le_of_ble_eq_true rfl) (Nat.le_of_ble_eq_true rfl) d_Mo_hole_95
        · skip
          have c54 : ¬ (60 ≤ ru) := fun h => c54 ((nI_leI (by omega) (by omega)).mpr h)
          obtain ⟨fk, rfl⟩ : ∃ k, fu = k + 1 := ⟨fu - 1, by omega⟩
          have hin : (if ruB ru = 1 then (if iw = 0 then nI ru else hoH fk (ru + 1) (iw + (-1))) else hoH fk (ru + 1) iw) = hoF iv := hin
          have hrb := ruB_le ru
          refine lv_iload G.1 G.2.1 d_Mo_hole_57 (lv_at hl 4 rfl) ?_
          refine kEi (wr := [(h0, .inr (14, fs))]) G (kS (As := [.int (nI ru)]) (rest := []) G hP hD hS [] rfl rfl (c_Mo_isRule l D g ru H.size (by omega)) w_Mo_isRule q4252 rfl rfl ⟨Nat.le_of_ble_eq_true rfl, Nat.le_of_ble_eq_true rfl⟩ (fun _ h => absurd h List.not_mem_nil) hl.1 rfl (Nat.le_of_ble_eq_true rfl) rfl ⟨Nat.le_of_ble_eq_true rfl, (Nat.le_of_ble_eq_true rfl)⟩ d_Mo_hole_59) hP hD hS [] [0] rfl rfl rfl rfl (fun r_2 u_3 H locs hw hP hD hS hzH => ?_)
          have hw : r_2 = nI (ruB ru) := hw
          have hP : va_P D CL [(h0, .inr (14, fs))] H := hP
          have hD : va_D A [(h0, .inr (14, fs))] := hD
          subst hw
          refine tpst (w := [.int (nI (ruB ru))]) rfl ?_
          refine lv_if_eq (tgt := 87) G.1 G.2.1 d_Mo_hole_62 (by decide) (fun c62 => ?_) (fun c62 => ?_)
          · skip
            have c62 : (ruB ru) = 0 := (nI_z_eq (by omega)).mp c62
            rw [if_neg (by omega)] at hin
            refine lv_iinc (v := nI (ru + 1)) (lv' := [(5, .int (nI (ru + 1))), (0, .ref h0), (1, .int iv), (2, .long 0), (4, .int iw)]) G.1 G.2.1 d_Mo_hole_87 hl (k := 4) rfl (show (nI ru) + Int32.ofInt 1 = nI (ru + 1) from nI_1 _) (by decide) rfl (fun ls hl => ?_)
            refine lv_goto (tgt := 50) G.1 G.2.1 d_Mo_hole_90 (by decide) ?_
            exact ih_L_1 fk iw (ru + 1) (by omega) (by omega) (by omega) hin _ _ (hP.sub [0] rfl) (hD.sub [0] (by decide) rfl) hS ls (lv_sub hl [1, 2, 3, 4, 0] rfl)
          · skip
            have c62 : ¬ ((ruB ru) = 0) := fun h => c62 ((nI_z_eq (by omega)).mpr h)
            rw [if_pos (by omega)] at hin
            refine lv_lload_n G.1 G.2.1 d_Mo_hole_65 rfl (lv_at hl 2 rfl) ?_
            refine lv_iload G.1 G.2.1 d_Mo_hole_66 (lv_at hl 4 rfl) ?_
            refine lv_lshr G.1 G.2.1 d_Mo_hole_68 rfl ?_
            refine tpst (w := [.long 0]) (by rw [i64_zs]) ?_
            refine lv_lconst (v := 1) G.1 G.2.1 d_Mo_hole_69 (by decide) ?_
            refine W.eq (g2 := F0 m 70 ls [.long 1, .long 0]) rfl ?_
            refine lv_land G.1 G.2.1 d_Mo_hole_70 ?_
            refine tpst (w := [.long 0]) rfl ?_
            refine lv_lconst (v := 0) G.1 G.2.1 d_Mo_hole_71 (by decide) ?_
            refine W.lcmp G.1 G.2.1 d_Mo_hole_72 ?_
            refine tpst (w := [.int (nI 0)]) rfl ?_
            refine lv_if_ne (tgt := 87) G.1 G.2.1 d_Mo_hole_73 (by decide) (fun c73 => absurd c73 (by decide)) (fun c73 => ?_)
            refine lv_iload G.1 G.2.1 d_Mo_hole_76 (lv_at hl 3 rfl) ?_
            refine lv_if_ne (tgt := 84) G.1 G.2.1 d_Mo_hole_78 (by decide) (fun c78 => ?_) (fun c78 => ?_)
            · skip
              rw [if_neg c78] at hin
              refine lv_iinc (v := iw + (-1)) (lv' := [(4, .int (iw + (-1))), (0, .ref h0), (1, .int iv), (2, .long 0), (5, .int (nI ru))]) G.1 G.2.1 d_Mo_hole_84 hl (k := 3) rfl rfl (by decide) rfl (fun ls hl => ?_)
              refine lv_iinc (v := nI (ru + 1)) (lv' := [(5, .int (nI (ru + 1))), (4, .int (iw + (-1))), (0, .ref h0), (1, .int iv), (2, .long 0)]) G.1 G.2.1 d_Mo_hole_87 hl (k := 4) rfl (show (nI ru) + Int32.ofInt 1 = nI (ru + 1) from nI_1 _) (by decide) rfl (fun ls hl => ?_)
              refine lv_goto (tgt := 50) G.1 G.2.1 d_Mo_hole_90 (by decide) ?_
              exact ih_L_1 fk (iw + (-1)) (ru + 1) (by omega) (by omega) (by omega) hin _ _ (hP.sub [0] rfl) (hD.sub [0] (by decide) rfl) hS ls (lv_sub hl [2, 3, 4, 1, 0] rfl)
            · skip
              rw [if_pos c78] at hin
              refine lv_iload G.1 G.2.1 d_Mo_hole_81 (lv_at hl 4 rfl) ?_
              refine hret (nI ru) () _ _ _ _ _ ls hin (hP.sub [] rfl) (hD.sub [] (by decide) rfl) hS (Nat.le_of_ble_eq_true rfl) (Nat.le_of_ble_eq_true rfl) d_Mo_hole_83
    exact L_1 (_ + 1) 59 iv 1 (Nat.lt_succ_self _) (by decide) (by decide) hfu _ _ (hP.sub [0] rfl) (hD.sub [0] (by decide) rfl) hS ls (lv_sub hl [3, 4, 2, 1, 0] rfl)
  · skip
    refine lv_iconst (v := (-1)) G.1 G.2.1 d_Mo_hole_4 (by decide) ?_
    refine hret (-1) () _ _ _ _ _ ls ((if_pos (i_lt c1)).symm) (hP.sub [] rfl) (hD.sub [] (by decide) rfl) hS (Nat.le_of_ble_eq_true rfl) (Nat.le_of_ble_eq_true rfl) d_Mo_hole_5
