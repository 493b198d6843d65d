theorem q2453 : Cond.code y_Cw_trial b_Cw_trial 5 (some .int) ∈ lw_ok := lw_okmem (List.mem_of_getElem? (i := 2453) (by decide +kernel)) rfl
theorem q2451 : Cond.instanceMethod y_Cw_trial ∈ lw_ok := lw_okmem (List.mem_of_getElem? (i := 2451) (by decide +kernel)) rfl
theorem q2452 : Cond.selects y_Cw_trial.cls y_Cw_trial y_Cw_trial ∈ lw_ok := lw_okmem (List.mem_of_getElem? (i := 2452) (by decide +kernel)) rfl
theorem w_Cw_trial : CWv y_Cw_trial b_Cw_trial 5 (some .int) 0 ∧ Cond.instanceMethod y_Cw_trial ∈ lw_ok ∧ Cond.selects y_Cw_trial.cls y_Cw_trial y_Cw_trial ∈ lw_ok := ⟨⟨q2453, q329, by decide +kernel, by decide +kernel, by decide +kernel⟩, q2451, q2452⟩
theorem q2450 : Cond.methodLink "ClassWorksLaw" 153 y_Cw_trial ∈ lw_ok := lw_okmem (List.mem_of_getElem? (i := 2450) (by decide +kernel)) rfl
theorem q4215 : Cond.codeWith y_Mo_trial b_Mo_trial 7 (some .int) hh_Mo_trial ∈ lw_ok := lw_okmem (List.mem_of_getElem? (i := 4215) (by decide +kernel)) rfl
theorem q4213 : Cond.instanceMethod y_Mo_trial ∈ lw_ok := lw_okmem (List.mem_of_getElem? (i := 4213) (by decide +kernel)) rfl
theorem q4214 : Cond.selects y_Mo_trial.cls y_Mo_trial y_Mo_trial ∈ lw_ok := lw_okmem (List.mem_of_getElem? (i := 4214) (by decide +kernel)) rfl
theorem w_Mo_trial : (Cond.codeWith y_Mo_trial b_Mo_trial 7 (some .int) hh_Mo_trial ∈ lw_ok ∧ Cond.initialized y_Mo_trial.cls ∈ lw_ok ∧ y_Mo_trial.cls ≠ "java/lang/invoke/MethodHandle" ∧ y_Mo_trial.cls ≠ "java/lang/invoke/VarHandle" ∧ (parseMethodDescriptor y_Mo_trial.desc).map (fun d => d.parameters.length) = some 0) ∧ Cond.instanceMethod y_Mo_trial ∈ lw_ok ∧ Cond.selects y_Mo_trial.cls y_Mo_trial y_Mo_trial ∈ lw_ok := ⟨⟨q4215, q348, by decide +kernel, by decide +kernel, by decide +kernel⟩, q4213, q4214⟩
theorem q4212 : Cond.methodLink "ClassWorksLaw" 156 y_Mo_trial ∈ lw_ok := lw_okmem (List.mem_of_getElem? (i := 4212) (by decide +kernel)) rfl
theorem d_Law_1465 : decode code 1465 = .ok (.aload_n 1, 1) := by decide +kernel
theorem d_Law_1466 : decode code 1466 = .ok (.invokevirtual 153, 3) := by decide +kernel
theorem d_Law_1469 : decode code 1469 = .ok (.aload_n 2, 1) := by decide +kernel
theorem d_Law_1470 : decode code 1470 = .ok (.invokevirtual 156, 3) := by decide +kernel
theorem d_Law_1473 : decode code 1473 = .ok (.if_icmp .eq 295, 3) := by decide +kernel
set_option maxHeartbeats 4000000 in
set_option maxRecDepth 100000 in
theorem law_trial {p : Program} {e : Env} {s : State} {m : MethodId} {below : List Frame} {meth : Method} {c : Code} {l : Launch} {D : va_G} {g : Nat → ClassId} {sl : List SL} {b : Nat} {xs : Nat → Int32} {A : Nat → Prop} (h0 : Nat) (r_cwords : Nat) (r_creader : Nat) (r_cchecker : Nat) (r_cfinder : Nat) (r_cwriter : Nat) (r_cmachines : Nat) (r_ctape : Nat) (r_cstock : Nat) (r_csizes : Nat) (r_cmet : Nat) (r_cfound : Nat) (r_cdraft : Nat) (r_cfewestFor : Nat) (r_cfewestNext : Nat) (h0X : Nat) (fsX : List Value) (r_owordKindsX : Nat) (r_owordValuesX : Nat) (r_owordPlacesX : Nat) (r_otapeX : Nat) (r_ostopX : Nat) (fkX : Nat → Int32) (fvX : Nat → Int32) (fpX : Nat → Int32) (ftpX : Nat → Int32) (G : GV l p s m #[Value.ref b] meth c (⟨"ClassWorksLaw", meth.name, ""⟩ : MethodName) code 4 ret g D sl A) (hX : va_X b 6 xs s s.heap) (hbl : b < s.heap.size) (hbA : ¬ A b) (hAA : ∀ q, A q → s.heap.size ≤ q) {H : Heap} {locs : List Loc} {ls : Array Slot} (glenX : fsX.length = 131) (gk0X : fsX[42]? = some (.int (nI 0))) (gk1X : fsX[39]? = some (.ref r_owordKindsX)) (gk2X : fsX[40]? = some (.ref r_owordValuesX)) (gk3X : fsX[41]? = some (.ref r_owordPlacesX)) (gk4X : fsX[43]? = some (.int (nI 0))) (gk5X : fsX[121]? = some (.int (nI 0))) (gk6X : fsX[85]? = some (.int (nI 0))) (gk7X : fsX[123]? = some (.int (nI 0))) (gk8X : fsX[84]? = some (.ref r_otapeX)) (gk9X : fsX[86]? = some (.int (-2))) (gk10X : fsX[48]? = some (.ref r_ostopX)) (hP : va_P D CL [(h0, .inr (11, [.ref r_cwords, .ref r_creader, .ref r_cchecker, .ref r_cfinder, .ref r_cwriter, .ref r_cmachines, .ref r_ctape, .int (nI 0), .int (-2), .int (nI 60000), .ref r_cstock, .ref r_csizes, .ref r_cmet, .ref r_cfound, .int (nI 0), .ref r_cdraft, .int (nI 0), .int (nI 0), .ref r_cfewestFor, .ref r_cfewestNext])), (h0X, .inr (14, fsX)), (r_owordKindsX, .inl (g 1, 6002, .inl fkX)), (r_owordValuesX, .inl (g 0, 6002, .inl fvX)), (r_owordPlacesX, .inl (g 0, 6002, .inl fpX)), (r_otapeX, .inl (g 1, 6000, .inl ftpX)), (r_ostopX, .inr (15, []))] H) (hD : va_D A [(h0, .inr (11, [.ref r_cwords, .ref r_creader, .ref r_cchecker, .ref r_cfinder, .ref r_cwriter, .ref r_cmachines, .ref r_ctape, .int (nI 0), .int (-2), .int (nI 60000), .ref r_cstock, .ref r_csizes, .ref r_cmet, .ref r_cfound, .int (nI 0), .ref r_cdraft, .int (nI 0), .int (nI 0), .ref r_cfewestFor, .ref r_cfewestNext])), (h0X, .inr (14, fsX)), (r_owordKindsX, .inl (g 1, 6002, .inl fkX)), (r_owordValuesX, .inl (g 0, 6002, .inl fvX)), (r_owordPlacesX, .inl (g 0, 6002, .inl fpX)), (r_otapeX, .inl (g 1, 6000, .inl ftpX)), (r_ostopX, .inr (15, []))]) (hS : va_S A s.heap H locs) (hl : lv_has ls 4 [(0, .ref b), (1, .ref h0), (2, .ref h0X), (3, .int (nI 0))]) : W p l e room_1 s m #[Value.ref b] below meth c H locs 702 488194 (lw_Z below #[Value.ref b] s) (F0 m 1465 ls []) := by
  refine lv_aload_n G.1 G.2.1 d_Law_1465 rfl (lv_at hl 1 rfl) ?_
  refine kEi (wr := [(h0X, .inr (14, fsX)), (r_owordKindsX, .inl (g 1, 6002, .inl fkX)), (r_owordValuesX, .inl (g 0, 6002, .inl fvX)), (r_owordPlacesX, .inl (g 0, 6002, .inl fpX)), (r_otapeX, .inl (g 1, 6000, .inl ftpX)), (r_ostopX, .inr (15, []))]) G (kV (As := []) (rest := []) G hP hD hS [0] rfl rfl (c_Cw_trial l D g h0 r_cwords r_creader r_cchecker r_cfinder r_cwriter r_cmachines r_ctape r_cstock r_csizes r_cmet r_cfound r_cdraft r_cfewestFor r_cfewestNext H.size ) w_Cw_trial q2450 rfl rfl ⟨Nat.le_of_ble_eq_true rfl, Nat.le_of_ble_eq_true rfl⟩ (fun _ h => absurd h List.not_mem_nil) 0 (ci := 11) rfl rfl rfl hl.1 rfl (Nat.le_of_ble_eq_true rfl) rfl ⟨Nat.le_of_ble_eq_true rfl, (Nat.le_of_ble_eq_true rfl)⟩ d_Law_1466) hP hD hS [0] [1, 2, 3, 4, 5, 6] rfl rfl rfl rfl (fun r_1 u_2 H locs hw hP hD hS hzH => ?_)
  have hw : r_1 = (-11) := hw
  have hP : va_P D CL [(h0X, .inr (14, fsX)), (r_owordKindsX, .inl (g 1, 6002, .inl fkX)), (r_owordValuesX, .inl (g 0, 6002, .inl fvX)), (r_owordPlacesX, .inl (g 0, 6002, .inl fpX)), (r_otapeX, .inl (g 1, 6000, .inl ftpX)), (r_ostopX, .inr (15, []))] H := hP
  have hD : va_D A [(h0X, .inr (14, fsX)), (r_owordKindsX, .inl (g 1, 6002, .inl fkX)), (r_owordValuesX, .inl (g 0, 6002, .inl fvX)), (r_owordPlacesX, .inl (g 0, 6002, .inl fpX)), (r_otapeX, .inl (g 1, 6000, .inl ftpX)), (r_ostopX, .inr (15, []))] := hD
  subst hw
  refine tpst (w := [.int (-11)]) rfl ?_
  refine lv_aload_n G.1 G.2.1 d_Law_1469 rfl (lv_at hl 2 rfl) ?_
  refine kEi (wr := []) G (kVW (As := []) (rest := [.int (-11)]) G hP hD hS [0, 1, 2, 3, 4, 5] rfl rfl (c_Mo_trial l D g h0X fsX r_owordKindsX r_owordValuesX r_owordPlacesX r_otapeX r_ostopX fkX fvX fpX ftpX H.size glenX gk0X gk1X gk2X gk3X gk4X gk5X gk6X gk7X gk8X gk9X gk10X) w_Mo_trial q4212 rfl rfl ⟨Nat.le_of_ble_eq_true rfl, Nat.le_of_ble_eq_true rfl⟩ (fun _ h => absurd h List.not_mem_nil) 0 (ci := 14) rfl rfl rfl hl.1 rfl (Nat.le_of_ble_eq_true rfl) rfl ⟨Nat.le_of_ble_eq_true rfl, (Nat.le_of_ble_eq_true rfl)⟩ d_Law_1470) hP hD hS [0, 1, 2, 3, 4, 5] [] rfl rfl rfl rfl (fun r_3 u_4 H locs hw hP hD hS hzH => ?_)
  have hw : r_3 = (-11) := hw
  have hP : va_P D CL [] H := hP
  have hD : va_D A [] := hD
  subst hw
  refine tpst (w := [.int (-11), .int (-11)]) rfl ?_
  refine lv_icmp_eq (tgt := 1768) G.1 G.2.1 d_Law_1473 (by decide) (fun c1473 => ?_) (fun c1473 => absurd c1473 (fun h => h rfl))
  refine lv_iinc (v := nI 6) (lv' := [(3, .int (nI 6)), (0, .ref b), (1, .ref h0), (2, .ref h0X)]) G.1 G.2.1 d_Law_1768 hl (k := 3) rfl (show (nI 0) + Int32.ofInt 6 = nI 6 from by decide) (by decide) rfl (fun ls hl => ?_)
  refine lv_goto (tgt := 18) G.1 G.2.1 d_Law_1771 (by decide) ?_
  refine lv_iload_n G.1 G.2.1 d_Law_18 rfl (lv_at hl 0 rfl) ?_
  refine lv_aload_n G.1 G.2.1 d_Law_19 rfl (lv_at hl 1 rfl) ?_
  refine va_slen G.1 G.2.1 hX hbl hbA hS d_Law_20 ?_
  refine tpi (w := nI 6) rfl ?_
  refine lv_bipush (v := nI 6) G.1 G.2.1 d_Law_21 (by decide) ?_
  refine W.eq (g2 := F0 m 23 ls [.int (nI 6), .int (nI 6), .int (nI 6)]) rfl ?_
  refine lv_isub G.1 G.2.1 d_Law_23 ?_
  refine tpi (w := nI 0) (by decide) ?_
  refine lv_icmp_gt (tgt := 1774) G.1 G.2.1 d_Law_24 (by decide) (fun c24 => ?_) (fun c24 => absurd c24 (by decide))
  refine lv_iconst (v := nI 1) G.1 G.2.1 d_Law_1774 (by decide) ?_
  refine va_forget (fun q hq => hAA _ (hS.2.2 q hq)) ?_
  refine W.widen (k := 600002) (n := 7302232) (Nat.le_of_ble_eq_true rfl) (Nat.le_of_ble_eq_true rfl) ?_
  exact lw_ret G.1 G.2.1 G.2.2.2.1 G.2.2.2.2.1 d_Law_1775
theorem q2472 : Cond.code y_Cw_outcome b_Cw_outcome 4 (some .int) ∈ lw_ok := lw_okmem (List.mem_of_getElem? (i := 2472) (by decide +kernel)) rfl
theorem q2470 : Cond.instanceMethod y_Cw_outcome ∈ lw_ok := lw_okmem (List.mem_of_getElem? (i := 2470) (by decide +kernel)) rfl
theorem q2471 : Cond.selects y_Cw_outcome.cls y_Cw_outcome y_Cw_outcome ∈ lw_ok := lw_okmem (List.mem_of_getElem? (i := 2471) (by decide +kernel)) rfl
theorem w_Cw_outcome : CWv y_Cw_outcome b_Cw_outcome 4 (some .int) 3 ∧ Cond.instanceMethod y_Cw_outcome ∈ lw_ok ∧ Cond.selects y_Cw_outcome.cls y_Cw_outcome y_Cw_outcome ∈ lw_ok := ⟨⟨q2472, q329, by decide +kernel, by decide +kernel, by decide +kernel⟩, q2470, q2471⟩
theorem q2469 : Cond.methodLink "ClassWorksLaw" 157 y_Cw_outcome ∈ lw_ok := lw_okmem (List.mem_of_getElem? (i := 2469) (by decide +kernel)) rfl
theorem q4223 : Cond.code y_Mo_outcome b_Mo_outcome 4 (some .int) ∈ lw_ok := lw_okmem (List.mem_of_getElem? (i := 4223) (by decide +kernel)) rfl
theorem q4221 : Cond.instanceMethod y_Mo_outcome ∈ lw_ok := lw_okmem (List.mem_of_getElem? (i := 4221) (by decide +kernel)) rfl
theorem q4222 : Cond.selects y_Mo_outcome.cls y_Mo_outcome y_Mo_outcome ∈ lw_ok := lw_okmem (List.mem_of_getElem? (i := 4222) (by decide +kernel)) rfl
theorem w_Mo_outcome : CWv y_Mo_outcome b_Mo_outcome 4 (some .int) 3 ∧ Cond.instanceMethod y_Mo_outcome ∈ lw_ok ∧ Cond.selects y_Mo_outcome.cls y_Mo_outcome y_Mo_outcome ∈ lw_ok := ⟨⟨q4223, q348, by decide +kernel, by decide +kernel, by decide +kernel⟩, q4221, q4222⟩
theorem q4220 : Cond.methodLink "ClassWorksLaw" 160 y_Mo_outcome ∈ lw_ok := lw_okmem (List.mem_of_getElem? (i := 4220) (by decide +kernel)) rfl
theorem d_Law_1478 : decode code 1478 = .ok (.aload_n 1, 1) := by decide +kernel
theorem d_Law_1479 : decode code 1479 = .ok (.aload_n 0, 1) := by decide +kernel
theorem d_Law_1480 : decode code 1480 = .ok (.iload_n 3, 1) := by decide +kernel
theorem d_Law_1481 : decode code 1481 = .ok (.iconst 1, 1) := by decide +kernel
theorem d_Law_1482 : decode code 1482 = .ok (.iadd, 1) := by decide +kernel
theorem d_Law_1483 : decode code 1483 = .ok (.iaload, 1) := by decide +kernel
theorem d_Law_1484 : decode code 1484 = .ok (.aload_n 0, 1) := by decide +kernel
theorem d_Law_1485 : decode code 1485 = .ok (.iload_n 3, 1) := by decide +kernel
theorem d_Law_1486 : decode code 1486 = .ok (.iconst 2, 1) := by decide +kernel
theorem d_Law_1487 : decode code 1487 = .ok (.iadd, 1) := by decide +kernel
theorem d_Law_1488 : decode code 1488 = .ok (.iaload, 1) := by decide +kernel
theorem d_Law_1489 : decode code 1489 = .ok (.aload_n 0, 1) := by decide +kernel
theorem d_Law_1490 : decode code 1490 = .ok (.iload_n 3, 1) := by decide +kernel
theorem d_Law_1491 : decode code 1491 = .ok (.iconst 3, 1) := by decide +kernel
theorem d_Law_1492 : decode code 1492 = .ok (.iadd, 1) := by decide +kernel
theorem d_Law_1493 : decode code 1493 = .ok (.iaload, 1) := by decide +kernel
theorem d_Law_1494 : decode code 1494 = .ok (.invokevirtual 157, 3) := by decide +kernel
theorem d_Law_1497 : decode code 1497 = .ok (.aload_n 2, 1) := by decide +kernel
theorem d_Law_1498 : decode code 1498 = .ok (.aload_n 0, 1) := by decide +kernel
theorem d_Law_1499 : decode code 1499 = .ok (.iload_n 3, 1) := by decide +kernel
theorem d_Law_1500 : decode code 1500 = .ok (.iconst 1, 1) := by decide +kernel
theorem d_Law_1501 : decode code 1501 = .ok (.iadd, 1) := by decide +kernel
theorem d_Law_1502 : decode code 1502 = .ok (.iaload, 1) := by decide +kernel
theorem d_Law_1503 : decode code 1503 = .ok (.aload_n 0, 1) := by decide +kernel
theorem d_Law_1504 : decode code 1504 = .ok (.iload_n 3, 1) := by decide +kernel
theorem d_Law_1505 : decode code 1505 = .ok (.iconst 2, 1) := by decide +kernel
theorem d_Law_1506 : decode code 1506 = .ok (.iadd, 1) := by decide +kernel
theorem d_Law_1507 : decode code 1507 = .ok (.iaload, 1) := by decide +kernel
theorem d_Law_1508 : decode code 1508 = .ok (.aload_n 0, 1) := by decide +kernel
theorem d_Law_1509 : decode code 1509 = .ok (.iload_n 3, 1) := by decide +kernel
theorem d_Law_1510 : decode code 1510 = .ok (.iconst 3, 1) := by decide +kernel
theorem d_Law_1511 : decode code 1511 = .ok (.iadd, 1) := by decide +kernel
theorem d_Law_1512 : decode code 1512 = .ok (.iaload, 1) := by decide +kernel
theorem d_Law_1513 : decode code 1513 = .ok (.invokevirtual 160, 3) := by decide +kernel
theorem d_Law_1516 : decode code 1516 = .ok (.if_icmp .eq 252, 3) := by decide +kernel
set_option maxHeartbeats 4000000 in
set_option maxRecDepth 100000 in
theorem law_outcome {p : Program} {e : Env} {s : State} {m : MethodId} {below : List Frame} {meth : Method} {c : Code} {l : Launch} {D : va_G} {g : Nat → ClassId} {sl : List SL} {b : Nat} {xs : Nat → Int32} {A : Nat → Prop} (h0 : Nat) (r_cwords : Nat) (r_creader : Nat) (r_cchecker : Nat) (r_cfinder : Nat) (r_cwriter : Nat) (r_cmachines : Nat) (r_ctape : Nat) (r_cstock : Nat) (r_csizes : Nat) (r_cmet : Nat) (r_cfound : Nat) (r_cdraft : Nat) (r_cfewestFor : Nat) (r_cfewestNext : Nat) (h0X : Nat) (fsX : List Value) (G : GV l p s m #[Value.ref b] meth c (⟨"ClassWorksLaw", meth.name, ""⟩ : MethodName) code 4 ret g D sl A) (hX : va_X b 6 xs s s.heap) (hbl : b < s.heap.size) (hbA : ¬ A b) (hAA : ∀ q, A q → s.heap.size ≤ q) {H : Heap} {locs : List Loc} {ls : Array Slot} (glenX : fsX.length = 131) (gk0X : fsX[121]? = some (.int (nI 0))) (hP : va_P D CL [(h0, .inr (11, [.ref r_cwords, .ref r_creader, .ref r_cchecker, .ref r_cfinder, .ref r_cwriter, .ref r_cmachines, .ref r_ctape, .int (nI 0), .int (-2), .int (nI 60000), .ref r_cstock, .ref r_csizes, .ref r_cmet, .ref r_cfound, .int (nI 0), .ref r_cdraft, .int (nI 0), .int (nI 0), .ref r_cfewestFor, .ref r_cfewestNext])), (h0X, .inr (14, fsX))] H) (hD : va_D A [(h0, .inr (11, [.ref r_cwords, .ref r_creader, .ref r_cchecker, .ref r_cfinder, .ref r_cwriter, .ref r_cmachines, .ref r_ctape, .int (nI 0), .int (-2), .int (nI 60000), .ref r_cstock, .ref r_csizes, .ref r_cmet, .ref r_cfound, .int (nI 0), .ref r_cdraft, .int (nI 0), .int (nI 0), .ref r_cfewestFor, .ref r_cfewestNext])), (h0X, .inr (14, fsX))]) (hS : va_S A s.heap H locs) (hl : lv_has ls 4 [(0, .ref b), (1, .ref h0), (2, .ref h0X), (3, .int (nI 0))]) : W p l e room_1 s m #[Value.ref b] below meth c H locs 702 488194 (lw_Z below #[Value.ref b] s) (F0 m 1478 ls []) := by
  refine lv_aload_n G.1 G.2.1 d_Law_1478 rfl (lv_at hl 1 rfl) ?_
  refine lv_aload_n G.1 G.2.1 d_Law_1479 rfl (lv_at hl 0 rfl) ?_
  refine lv_iload_n G.1 G.2.1 d_Law_1480 rfl (lv_at hl 3 rfl) ?_
  refine lv_iconst (v := nI 1) G.1 G.2.1 d_Law_1481 (by decide) ?_
  refine lv_iadd G.1 G.2.1 d_Law_1482 ?_
  refine tpi (w := nI 1) (by decide) ?_
  refine va_sld G.1 G.2.1 hX hbl hbA hS (nI_inn (n := 6) (a := 1) (by decide) (by decide)) d_Law_1483 ?_
  refine tpi (w := (xs 1)) (by rw [nI_clamp (by decide)]) ?_
  refine lv_aload_n G.1 G.2.1 d_Law_1484 rfl (lv_at hl 0 rfl) ?_
  refine lv_iload_n G.1 G.2.1 d_Law_1485 rfl (lv_at hl 3 rfl) ?_
  refine lv_iconst (v := nI 2) G.1 G.2.1 d_Law_1486 (by decide) ?_
  refine lv_iadd G.1 G.2.1 d_Law_1487 ?_
  refine tpi (w := nI 2) (by decide) ?_
  refine va_sld G.1 G.2.1 hX hbl hbA hS (nI_inn (n := 6) (a := 2) (by decide) (by decide)) d_Law_1488 ?_
  refine tpi (w := (xs 2)) (by rw [nI_clamp (by decide)]) ?_
  refine W.eq (g2 := F0 m 1489 ls [.int (xs 2), .int (xs 1), .ref h0]) rfl ?_
  refine lv_aload_n G.1 G.2.1 d_Law_1489 rfl (lv_at hl 0 rfl) ?_
  refine lv_iload_n G.1 G.2.1 d_Law_1490 rfl (lv_at hl 3 rfl) ?_
  refine lv_iconst (v := nI 3) G.1 G.2.1 d_Law_1491 (by decide) ?_
  refine lv_iadd G.1 G.2.1 d_Law_1492 ?_
  refine tpi (w := nI 3) (by decide) ?_
  refine va_sld G.1 G.2.1 hX hbl hbA hS (nI_inn (n := 6) (a := 3) (by decide) (by decide)) d_Law_1493 ?_
  refine tpi (w := (xs 3)) (by rw [nI_clamp (by decide)]) ?_
  refine kEi (wr := [(h0X, .inr (14, fsX))]) G (kV (As := [.int (xs 1), .int (xs 2), .int (xs 3)]) (rest := []) G hP hD hS [0] rfl rfl (c_Cw_outcome l D g h0 (xs 1) (xs 2) (xs 3) r_cwords r_creader r_cchecker r_cfinder r_cwriter r_cmachines r_ctape r_cstock r_csizes r_cmet r_cfound r_cdraft r_cfewestFor r_cfewestNext H.size ) w_Cw_outcome q2469 rfl rfl ⟨Nat.le_of_ble_eq_true rfl, Nat.le_of_ble_eq_true rfl⟩ (fun _ h => absurd h List.not_mem_nil) 0 (ci := 11) rfl rfl rfl hl.1 rfl (Nat.le_of_ble_eq_true rfl) rfl ⟨Nat.le_of_ble_eq_true rfl, (Nat.le_of_ble_eq_true rfl)⟩ d_Law_1494) hP hD hS [0] [1] rfl rfl rfl rfl (fun r_1 u_2 H locs hw hP hD hS hzH => ?_)
  have hw : r_1 = (-1) := hw
  have hP : va_P D CL [(h0X, .inr (14, fsX))] H := hP
  have hD : va_D A [(h0X, .inr (14, fsX))] := hD
  subst hw
  refine tpst (w := [.int (-1)]) rfl ?_
  refine lv_aload_n G.1 G.2.1 d_Law_1497 rfl (lv_at hl 2 rfl) ?_
  refine lv_aload_n G.1 G.2.1 d_Law_1498 rfl (lv_at hl 0 rfl) ?_
  refine lv_iload_n G.1 G.2.1 d_Law_1499 rfl (lv_at hl 3 rfl) ?_
  refine lv_iconst (v := nI 1) G.1 G.2.1 d_Law_1500 (by decide) ?_
  refine lv_iadd G.1 G.2.1 d_Law_1501 ?_
  refine tpi (w := nI 1) (by decide) ?_
  refine va_sld G.1 G.2.1 hX hbl hbA hS (nI_inn (n := 6) (a := 1) (by decide) (by decide)) d_Law_1502 ?_
  refine tpi (w := (xs 1)) (by rw [nI_clamp (by decide)]) ?_
  refine W.eq (g2 := F0 m 1503 ls [.int (xs 1), .ref h0X, .int (-1)]) rfl ?_
  refine lv_aload_n G.1 G.2.1 d_Law_1503 rfl (lv_at hl 0 rfl) ?_
  refine lv_iload_n G.1 G.2.1 d_Law_1504 rfl (lv_at hl 3 rfl) ?_
  refine lv_iconst (v := nI 2) G.1 G.2.1 d_Law_1505 (by decide) ?_
  refine lv_iadd G.1 G.2.1 d_Law_1506 ?_
  refine tpi (w := nI 2) (by decide) ?_
  refine va_sld G.1 G.2.1 hX hbl hbA hS (nI_inn (n := 6) (a := 2) (by decide) (by decide)) d_Law_1507 ?_
  refine tpi (w := (xs 2)) (by rw [nI_clamp (by decide)]) ?_
  refine lv_aload_n G.1 G.2.1 d_Law_1508 rfl (lv_at hl 0 rfl) ?_
  refine lv_iload_n G.1 G.2.1 d_Law_1509 rfl (lv_at hl 3 rfl) ?_
  refine lv_iconst (v := nI 3) G.1 G.2.1 d_Law_1510 (by decide) ?_
  refine lv_iadd G.1 G.2.1 d_Law_1511 ?_
  refine tpi (w := nI 3) (by decide) ?_
  refine va_sld G.1 G.2.1 hX hbl hbA hS (nI_inn (n := 6) (a := 3) (by decide) (by decide)) d_Law_1512 ?_
  refine tpi (w := (xs 3)) (by rw [nI_clamp (by decide)]) ?_
  refine kEi (wr := []) G (kV (As := [.int (xs 1), .int (xs 2), .int (xs 3)]) (rest := [.int (-1)]) G hP hD hS [0] rfl rfl (c_Mo_outcome l D g h0X (xs 1) (xs 2) (xs 3) fsX H.size glenX gk0X) w_Mo_outcome q4220 rfl rfl ⟨Nat.le_of_ble_eq_true rfl, Nat.le_of_ble_eq_true rfl⟩ (fun _ h => absurd h List.not_mem_nil) 0 (ci := 14) rfl rfl rfl hl.1 rfl (Nat.le_of_ble_eq_true rfl) rfl ⟨Nat.le_of_ble_eq_true rfl, (Nat.le_of_ble_eq_true rfl)⟩ d_Law_1513) hP hD hS [0] [] rfl rfl rfl rfl (fun r_3 u_4 H locs hw hP hD hS hzH => ?_)
  have hw : r_3 = (-1) := hw
  have hP : va_P D CL [] H := hP
  have hD : va_D A [] := hD
  subst hw
  refine tpst (w := [.int (-1), .int (-1)]) rfl ?_
  refine lv_icmp_eq (tgt := 1768) G.1 G.2.1 d_Law_1516 (by decide) (fun c1516 => ?_) (fun c1516 => absurd c1516 (fun h => h rfl))
  refine W.eq (g2 := F0 m 1768 ls []) rfl ?_
  refine lv_iinc (v := nI 6) (lv' := [(3, .int (nI 6)), (0, .ref b), (1, .ref h0), (2, .ref h0X)]) G.1 G.2.1 d_Law_1768 hl (k := 3) rfl (show (nI 0) + Int32.ofInt 6 = nI 6 from by decide) (by decide) rfl (fun ls hl => ?_)
  refine lv_goto (tgt := 18) G.1 G.2.1 d_Law_1771 (by decide) ?_
  refine lv_iload_n G.1 G.2.1 d_Law_18 rfl (lv_at hl 0 rfl) ?_
  refine lv_aload_n G.1 G.2.1 d_Law_19 rfl (lv_at hl 1 rfl) ?_
  refine va_slen G.1 G.2.1 hX hbl hbA hS d_Law_20 ?_
  refine tpi (w := nI 6) rfl ?_
  refine lv_bipush (v := nI 6) G.1 G.2.1 d_Law_21 (by decide) ?_
  refine lv_isub G.1 G.2.1 d_Law_23 ?_
  refine tpi (w := nI 0) (by decide) ?_
  refine lv_icmp_gt (tgt := 1774) G.1 G.2.1 d_Law_24 (by decide) (fun c24 => ?_) (fun c24 => absurd c24 (by decide))
  refine lv_iconst (v := nI 1) G.1 G.2.1 d_Law_1774 (by decide) ?_
  refine va_forget (fun q hq => hAA _ (hS.2.2 q hq)) ?_
  refine W.widen (k := 600002) (n := 7302232) (Nat.le_of_ble_eq_true rfl) (Nat.le_of_ble_eq_true rfl) ?_
  exact lw_ret G.1 G.2.1 G.2.2.2.1 G.2.2.2.2.1 d_Law_1775
theorem q2493 : Cond.code y_Cw_meets b_Cw_meets 2 (some .int) ∈ lw_ok := lw_okmem (List.mem_of_getElem? (i := 2493) (by decide +kernel)) rfl
theorem q2491 : Cond.instanceMethod y_Cw_meets ∈ lw_ok := lw_okmem (List.mem_of_getElem? (i := 2491) (by decide +kernel)) rfl
theorem q2492 : Cond.selects y_Cw_meets.cls y_Cw_meets y_Cw_meets ∈ lw_ok := lw_okmem (List.mem_of_getElem? (i := 2492) (by decide +kernel)) rfl
theorem w_Cw_meets : CWv y_Cw_meets b_Cw_meets 2 (some .int) 1 ∧ Cond.instanceMethod y_Cw_meets ∈ lw_ok ∧ Cond.selects y_Cw_meets.cls y_Cw_meets y_Cw_meets ∈ lw_ok := ⟨⟨q2493, q329, by decide +kernel, by decide +kernel, by decide +kernel⟩, q2491, q2492⟩
theorem q2490 : Cond.methodLink "ClassWorksLaw" 161 y_Cw_meets ∈ lw_ok := lw_okmem (List.mem_of_getElem? (i := 2490) (by decide +kernel)) rfl
theorem q4239 : Cond.code y_Mo_meets b_Mo_meets 2 (some .int) ∈ lw_ok := lw_okmem (List.mem_of_getElem? (i := 4239) (by decide +kernel)) rfl
theorem q4237 : Cond.instanceMethod y_Mo_meets ∈ lw_ok := lw_okmem (List.mem_of_getElem? (i := 4237) (by decide +kernel)) rfl
theorem q4238 : Cond.selects y_Mo_meets.cls y_Mo_meets y_Mo_meets ∈ lw_ok := lw_okmem (List.mem_of_getElem? (i := 4238) (by decide +kernel)) rfl
theorem w_Mo_meets : CWv y_Mo_meets b_Mo_meets 2 (some .int) 1 ∧ Cond.instanceMethod y_Mo_meets ∈ lw_ok ∧ Cond.selects y_Mo_meets.cls y_Mo_meets y_Mo_meets ∈ lw_ok := ⟨⟨q4239, q348, by decide +kernel, by decide +kernel, by decide +kernel⟩, q4237, q4238⟩
theorem q4236 : Cond.methodLink "ClassWorksLaw" 164 y_Mo_meets ∈ lw_ok := lw_okmem (List.mem_of_getElem? (i := 4236) (by decide +kernel)) rfl
theorem d_Law_1521 : decode code 1521 = .ok (.aload_n 1, 1) := by decide +kernel
theorem d_Law_1522 : decode code 1522 = .ok (.aload_n 0, 1) := by decide +kernel
theorem d_Law_1523 : decode code 1523 = .ok (.iload_n 3, 1) := by decide +kernel
theorem d_Law_1524 : decode code 1524 = .ok (.iconst 1, 1) := by decide +kernel
theorem d_Law_1525 : decode code 1525 = .ok (.iadd, 1) := by decide +kernel
theorem d_Law_1526 : decode code 1526 = .ok (.iaload, 1) := by decide +kernel
theorem d_Law_1527 : decode code 1527 = .ok (.invokevirtual 161, 3) := by decide +kernel
theorem d_Law_1530 : decode code 1530 = .ok (.aload_n 2, 1) := by decide +kernel
theorem d_Law_1531 : decode code 1531 = .ok (.aload_n 0, 1) := by decide +kernel
theorem d_Law_1532 : decode code 1532 = .ok (.iload_n 3, 1) := by decide +kernel
theorem d_Law_1533 : decode code 1533 = .ok (.iconst 1, 1) := by decide +kernel
theorem d_Law_1534 : decode code 1534 = .ok (.iadd, 1) := by decide +kernel
theorem d_Law_1535 : decode code 1535 = .ok (.iaload, 1) := by decide +kernel
theorem d_Law_1536 : decode code 1536 = .ok (.invokevirtual 164, 3) := by decide +kernel
theorem d_Law_1539 : decode code 1539 = .ok (.if_icmp .eq 229, 3) := by decide +kernel
set_option maxHeartbeats 4000000 in
set_option maxRecDepth 100000 in
theorem law_meets {p : Program} {e : Env} {s : State} {m : MethodId} {below : List Frame} {meth : Method} {c : Code} {l : Launch} {D : va_G} {g : Nat → ClassId} {sl : List SL} {b : Nat} {xs : Nat → Int32} {A : Nat → Prop} (h0 : Nat) (r_cwords : Nat) (r_creader : Nat) (r_cchecker : Nat) (r_cfinder : Nat) (r_cwriter : Nat) (r_cmachines : Nat) (r_ctape : Nat) (r_cstock : Nat) (r_csizes : Nat) (r_cmet : Nat) (r_cfound : Nat) (r_cdraft : Nat) (r_cfewestFor : Nat) (r_cfewestNext : Nat) (h0X : Nat) (fsX : List Value) (G : GV l p s m #[Value.ref b] meth c (⟨"ClassWorksLaw", meth.name, ""⟩ : MethodName) code 4 ret g D sl A) (hX : va_X b 6 xs s s.heap) (hbl : b < s.heap.size) (hbA : ¬ A b) (hAA : ∀ q, A q → s.heap.size ≤ q) {H : Heap} {locs : List Loc} {ls : Array Slot} (glenX : fsX.length = 131) (gk0X : fsX[121]? = some (.int (nI 0))) (hP : va_P D CL [(h0, .inr (11, [.ref r_cwords, .ref r_creader, .ref r_cchecker, .ref r_cfinder, .ref r_cwriter, .ref r_cmachines, .ref r_ctape, .int (nI 0), .int (-2), .int (nI 60000), .ref r_cstock, .ref r_csizes, .ref r_cmet, .ref r_cfound, .int (nI 0), .ref r_cdraft, .int (nI 0), .int (nI 0), .ref r_cfewestFor, .ref r_cfewestNext])), (h0X, .inr (14, fsX))] H) (hD : va_D A [(h0, .inr (11, [.ref r_cwords, .ref r_creader, .ref r_cchecker, .ref r_cfinder, .ref r_cwriter, .ref r_cmachines, .ref r_ctape, .int (nI 0), .int (-2), .int (nI 60000), .ref r_cstock, .ref r_csizes, .ref r_cmet, .ref r_cfound, .int (nI 0), .ref r_cdraft, .int (nI 0), .int (nI 0), .ref r_cfewestFor, .ref r_cfewestNext])), (h0X, .inr (14, fsX))]) (hS : va_S A s.heap H locs) (hl : lv_has ls 4 [(0, .ref b), (1, .ref h0), (2, .ref h0X), (3, .int (nI 0))]) : W p l e room_1 s m #[Value.ref b] below meth c H locs 702 488194 (lw_Z below #[Value.ref b] s) (F0 m 1521 ls []) := by
  refine lv_aload_n G.1 G.2.1 d_Law_1521 rfl (lv_at hl 1 rfl) ?_
  refine lv_aload_n G.1 G.2.1 d_Law_1522 rfl (lv_at hl 0 rfl) ?_
  refine lv_iload_n G.1 G.2.1 d_Law_1523 rfl (lv_at hl 3 rfl) ?_
  refine lv_iconst (v := nI 1) G.1 G.2.1 d_Law_1524 (by decide) ?_
  refine lv_iadd G.1 G.2.1 d_Law_1525 ?_
  refine tpi (w := nI 1) (by decide) ?_
  refine va_sld G.1 G.2.1 hX hbl hbA hS (nI_inn (n := 6) (a := 1) (by decide) (by decide)) d_Law_1526 ?_
  refine tpi (w := (xs 1)) (by rw [nI_clamp (by decide)]) ?_
  refine kEi (wr := [(h0X, .inr (14, fsX))]) G (kV (As := [.int (xs 1)]) (rest := []) G hP hD hS [0] rfl rfl (c_Cw_meets l D g h0 (xs 1) r_cwords r_creader r_cchecker r_cfinder r_cwriter r_cmachines r_ctape r_cstock r_csizes r_cmet r_cfound r_cdraft r_cfewestFor r_cfewestNext H.size ) w_Cw_meets q2490 rfl rfl ⟨Nat.le_of_ble_eq_true rfl, Nat.le_of_ble_eq_true rfl⟩ (fun _ h => absurd h List.not_mem_nil) 0 (ci := 11) rfl rfl rfl hl.1 rfl (Nat.le_of_ble_eq_true rfl) rfl ⟨Nat.le_of_ble_eq_true rfl, (Nat.le_of_ble_eq_true rfl)⟩ d_Law_1527) hP hD hS [0] [1] rfl rfl rfl rfl (fun r_1 u_2 H locs hw hP hD hS hzH => ?_)
  have hw : r_1 = (-1) := hw
  have hP : va_P D CL [(h0X, .inr (14, fsX))] H := hP
  have hD : va_D A [(h0X, .inr (14, fsX))] := hD
  subst hw
  refine tpst (w := [.int (-1)]) rfl ?_
  refine lv_aload_n G.1 G.2.1 d_Law_1530 rfl (lv_at hl 2 rfl) ?_
  refine lv_aload_n G.1 G.2.1 d_Law_1531 rfl (lv_at hl 0 rfl) ?_
  refine lv_iload_n G.1 G.2.1 d_Law_1532 rfl (lv_at hl 3 rfl) ?_
  refine lv_iconst (v := nI 1) G.1 G.2.1 d_Law_1533 (by decide) ?_
  refine W.eq (g2 := F0 m 1534 ls [.int (nI 1), .int (nI 0), .ref b, .ref h0X, .int (-1)]) rfl ?_
  refine lv_iadd G.1 G.2.1 d_Law_1534 ?_
  refine tpi (w := nI 1) (by decide) ?_
  refine va_sld G.1 G.2.1 hX hbl hbA hS (nI_inn (n := 6) (a := 1) (by decide) (by decide)) d_Law_1535 ?_
  refine tpi (w := (xs 1)) (by rw [nI_clamp (by decide)]) ?_
  refine kEi (wr := []) G (kV (As := [.int (xs 1)]) (rest := [.int (-1)]) G hP hD hS [0] rfl rfl (c_Mo_meets l D g h0X (xs 1) fsX H.size glenX gk0X) w_Mo_meets q4236 rfl rfl ⟨Nat.le_of_ble_eq_true rfl, Nat.le_of_ble_eq_true rfl⟩ (fun _ h => absurd h List.not_mem_nil) 0 (ci := 14) rfl rfl rfl hl.1 rfl (Nat.le_of_ble_eq_true rfl) rfl ⟨Nat.le_of_ble_eq_true rfl, (Nat.le_of_ble_eq_true rfl)⟩ d_Law_1536) hP hD hS [0] [] rfl rfl rfl rfl (fun r_3 u_4 H locs hw hP hD hS hzH => ?_)
  have hw : r_3 = (-1) := hw
  have hP : va_P D CL [] H := hP
  have hD : va_D A [] := hD
  subst hw
  refine tpst (w := [.int (-1), .int (-1)]) rfl ?_
  refine lv_icmp_eq (tgt := 1768) G.1 G.2.1 d_Law_1539 (by decide) (fun c1539 => ?_) (fun c1539 => absurd c1539 (fun h => h rfl))
  refine lv_iinc (v := nI 6) (lv' := [(3, .int (nI 6)), (0, .ref b), (1, .ref h0), (2, .ref h0X)]) G.1 G.2.1 d_Law_1768 hl (k := 3) rfl (show (nI 0) + Int32.ofInt 6 = nI 6 from by decide) (by decide) rfl (fun ls hl => ?_)
  refine lv_goto (tgt := 18) G.1 G.2.1 d_Law_1771 (by decide) ?_
  refine lv_iload_n G.1 G.2.1 d_Law_18 rfl (lv_at hl 0 rfl) ?_
  refine lv_aload_n G.1 G.2.1 d_Law_19 rfl (lv_at hl 1 rfl) ?_
  refine va_slen G.1 G.2.1 hX hbl hbA hS d_Law_20 ?_
  refine tpi (w := nI 6) rfl ?_
  refine lv_bipush (v := nI 6) G.1 G.2.1 d_Law_21 (by decide) ?_
  refine lv_isub G.1 G.2.1 d_Law_23 ?_
  refine tpi (w := nI 0) (by decide) ?_
  refine lv_icmp_gt (tgt := 1774) G.1 G.2.1 d_Law_24 (by decide) (fun c24 => ?_) (fun c24 => absurd c24 (by decide))
  refine W.eq (g2 := F0 m 1774 ls []) rfl ?_
  refine lv_iconst (v := nI 1) G.1 G.2.1 d_Law_1774 (by decide) ?_
  refine va_forget (fun q hq => hAA _ (hS.2.2 q hq)) ?_
  refine W.widen (k := 600002) (n := 7302232) (Nat.le_of_ble_eq_true rfl) (Nat.le_of_ble_eq_true rfl) ?_
  exact lw_ret G.1 G.2.1 G.2.2.2.1 G.2.2.2.2.1 d_Law_1775
theorem q2501 : Cond.code y_Cw_finds b_Cw_finds 5 (some .int) ∈ lw_ok := lw_okmem (List.mem_of_getElem? (i := 2501) (by decide +kernel)) rfl
theorem q2499 : Cond.instanceMethod y_Cw_finds ∈ lw_ok := lw_okmem (List.mem_of_getElem? (i := 2499) (by decide +kernel)) rfl
theorem q2500 : Cond.selects y_Cw_finds.cls y_Cw_finds y_Cw_finds ∈ lw_ok := lw_okmem (List.mem_of_getElem? (i := 2500) (by decide +kernel)) rfl
theorem w_Cw_finds : CWv y_Cw_finds b_Cw_finds 5 (some .int) 2 ∧ Cond.instanceMethod y_Cw_finds ∈ lw_ok ∧ Cond.selects y_Cw_finds.cls y_Cw_finds y_Cw_finds ∈ lw_ok := ⟨⟨q2501, q329, by decide +kernel, by decide +kernel, by decide +kernel⟩, q2499, q2500⟩
theorem q2498 : Cond.methodLink "ClassWorksLaw" 165 y_Cw_finds ∈ lw_ok := lw_okmem (List.mem_of_getElem? (i := 2498) (by decide +kernel)) rfl
theorem q4247 : Cond.code y_Mo_finds b_Mo_finds 5 (some .int) ∈ lw_ok := lw_okmem (List.mem_of_getElem? (i := 4247) (by decide +kernel)) rfl
theorem q4245 : Cond.instanceMethod y_Mo_finds ∈ lw_ok := lw_okmem (List.mem_of_getElem? (i := 4245) (by decide +kernel)) rfl
theorem q4246 : Cond.selects y_Mo_finds.cls y_Mo_finds y_Mo_finds ∈ lw_ok := lw_okmem (List.mem_of_getElem? (i := 4246) (by decide +kernel)) rfl
theorem w_Mo_finds : CWv y_Mo_finds b_Mo_finds 5 (some .int) 2 ∧ Cond.instanceMethod y_Mo_finds ∈ lw_ok ∧ Cond.selects y_Mo_finds.cls y_Mo_finds y_Mo_finds ∈ lw_ok := ⟨⟨q4247, q348, by decide +kernel, by decide +kernel, by decide +kernel⟩, q4245, q4246⟩
theorem q4244 : Cond.methodLink "ClassWorksLaw" 168 y_Mo_finds ∈ lw_ok := lw_okmem (List.mem_of_getElem? (i := 4244) (by decide +kernel)) rfl
theorem d_Law_1544 : decode code 1544 = .ok (.aload_n 1, 1) := by decide +kernel
theorem d_Law_1545 : decode code 1545 = .ok (.aload_n 0, 1) := by decide +kernel
theorem d_Law_1546 : decode code 1546 = .ok (.iload_n 3, 1) := by decide +kernel
theorem d_Law_1547 : decode code 1547 = .ok (.iconst 1, 1) := by decide +kernel
theorem d_Law_1548 : decode code 1548 = .ok (.iadd, 1) := by decide +kernel
theorem d_Law_1549 : decode code 1549 = .ok (.iaload, 1) := by decide +kernel
theorem d_Law_1550 : decode code 1550 = .ok (.aload_n 0, 1) := by decide +kernel
theorem d_Law_1551 : decode code 1551 = .ok (.iload_n 3, 1) := by decide +kernel
theorem d_Law_1552 : decode code 1552 = .ok (.iconst 2, 1) := by decide +kernel
theorem d_Law_1553 : decode code 1553 = .ok (.iadd, 1) := by decide +kernel
theorem d_Law_1554 : decode code 1554 = .ok (.iaload, 1) := by decide +kernel
theorem d_Law_1555 : decode code 1555 = .ok (.invokevirtual 165, 3) := by decide +kernel
theorem d_Law_1558 : decode code 1558 = .ok (.aload_n 2, 1) := by decide +kernel
theorem d_Law_1559 : decode code 1559 = .ok (.aload_n 0, 1) := by decide +kernel
theorem d_Law_1560 : decode code 1560 = .ok (.iload_n 3, 1) := by decide +kernel
theorem d_Law_1561 : decode code 1561 = .ok (.iconst 1, 1) := by decide +kernel
theorem d_Law_1562 : decode code 1562 = .ok (.iadd, 1) := by decide +kernel
theorem d_Law_1563 : decode code 1563 = .ok (.iaload, 1) := by decide +kernel
theorem d_Law_1564 : decode code 1564 = .ok (.aload_n 0, 1) := by decide +kernel
theorem d_Law_1565 : decode code 1565 = .ok (.iload_n 3, 1) := by decide +kernel
theorem d_Law_1566 : decode code 1566 = .ok (.iconst 2, 1) := by decide +kernel
theorem d_Law_1567 : decode code 1567 = .ok (.iadd, 1) := by decide +kernel
theorem d_Law_1568 : decode code 1568 = .ok (.iaload, 1) := by decide +kernel
theorem d_Law_1569 : decode code 1569 = .ok (.invokevirtual 168, 3) := by decide +kernel
theorem d_Law_1572 : decode code 1572 = .ok (.if_icmp .eq 196, 3) := by decide +kernel
set_option maxHeartbeats 4000000 in
set_option maxRecDepth 100000 in
theorem law_finds {p : Program} {e : Env} {s : State} {m : MethodId} {below : List Frame} {meth : Method} {c : Code} {l : Launch} {D : va_G} {g : Nat → ClassId} {sl : List SL} {b : Nat} {xs : Nat → Int32} {A : Nat → Prop} (h0 : Nat) (r_cwords : Nat) (r_creader : Nat) (r_cchecker : Nat) (r_cfinder : Nat) (r_cwriter : Nat) (r_cmachines : Nat) (r_ctape : Nat) (r_cstock : Nat) (r_csizes : Nat) (r_cmet : Nat) (r_cfound : Nat) (r_cdraft : Nat) (r_cfewestFor : Nat) (r_cfewestNext : Nat) (h0X : Nat) (fsX : List Value) (G : GV l p s m #[Value.ref b] meth c (⟨"ClassWorksLaw", meth.name, ""⟩ : MethodName) code 4 ret g D sl A) (hX : va_X b 6 xs s s.heap) (hbl : b < s.heap.size) (hbA : ¬ A b) (hAA : ∀ q, A q → s.heap.size ≤ q) {H : Heap} {locs : List Loc} {ls : Array Slot} (glenX : fsX.length = 131) (gk0X : fsX[121]? = some (.int (nI 0))) (hP : va_P D CL [(h0, .inr (11, [.ref r_cwords, .ref r_creader, .ref r_cchecker, .ref r_cfinder, .ref r_cwriter, .ref r_cmachines, .ref r_ctape, .int (nI 0), .int (-2), .int (nI 60000), .ref r_cstock, .ref r_csizes, .ref r_cmet, .ref r_cfound, .int (nI 0), .ref r_cdraft, .int (nI 0), .int (nI 0), .ref r_cfewestFor, .ref r_cfewestNext])), (h0X, .inr (14, fsX))] H) (hD : va_D A [(h0, .inr (11, [.ref r_cwords, .ref r_creader, .ref r_cchecker, .ref r_cfinder, .ref r_cwriter, .ref r_cmachines, .ref r_ctape, .int (nI 0), .int (-2), .int (nI 60000), .ref r_cstock, .ref r_csizes, .ref r_cmet, .ref r_cfound, .int (nI 0), .ref r_cdraft, .int (nI 0), .int (nI 0), .ref r_cfewestFor, .ref r_cfewestNext])), (h0X, .inr (14, fsX))]) (hS : va_S A s.heap H locs) (hl : lv_has ls 4 [(0, .ref b), (1, .ref h0), (2, .ref h0X), (3, .int (nI 0))]) : W p l e room_1 s m #[Value.ref b] below meth c H locs 702 488194 (lw_Z below #[Value.ref b] s) (F0 m 1544 ls []) := by
  refine lv_aload_n G.1 G.2.1 d_Law_1544 rfl (lv_at hl 1 rfl) ?_
  refine lv_aload_n G.1 G.2.1 d_Law_1545 rfl (lv_at hl 0 rfl) ?_
  refine lv_iload_n G.1 G.2.1 d_Law_1546 rfl (lv_at hl 3 rfl) ?_
  refine lv_iconst (v := nI 1) G.1 G.2.1 d_Law_1547 (by decide) ?_
  refine lv_iadd G.1 G.2.1 d_Law_1548 ?_
  refine tpi (w := nI 1) (by decide) ?_
  refine va_sld G.1 G.2.1 hX hbl hbA hS (nI_inn (n := 6) (a := 1) (by decide) (by decide)) d_Law_1549 ?_
  refine tpi (w := (xs 1)) (by rw [nI_clamp (by decide)]) ?_
  refine lv_aload_n G.1 G.2.1 d_Law_1550 rfl (lv_at hl 0 rfl) ?_
  refine lv_iload_n G.1 G.2.1 d_Law_1551 rfl (lv_at hl 3 rfl) ?_
  refine lv_iconst (v := nI 2) G.1 G.2.1 d_Law_1552 (by decide) ?_
  refine lv_iadd G.1 G.2.1 d_Law_1553 ?_
  refine tpi (w := nI 2) (by decide) ?_
  refine va_sld G.1 G.2.1 hX hbl hbA hS (nI_inn (n := 6) (a := 2) (by decide) (by decide)) d_Law_1554 ?_
  refine tpi (w := (xs 2)) (by rw [nI_clamp (by decide)]) ?_
  refine W.eq (g2 := F0 m 1555 ls [.int (xs 2), .int (xs 1), .ref h0]) rfl ?_
  refine kEi (wr := [(h0X, .inr (14, fsX))]) G (kV (As := [.int (xs 1), .int (xs 2)]) (rest := []) G hP hD hS [0] rfl rfl (c_Cw_finds l D g h0 (xs 1) (xs 2) r_cwords r_creader r_cchecker r_cfinder r_cwriter r_cmachines r_ctape r_cstock r_csizes r_cmet r_cfound r_cdraft r_cfewestFor r_cfewestNext H.size ) w_Cw_finds q2498 rfl rfl ⟨Nat.le_of_ble_eq_true rfl, Nat.le_of_ble_eq_true rfl⟩ (fun _ h => absurd h List.not_mem_nil) 0 (ci := 11) rfl rfl rfl hl.1 rfl (Nat.le_of_ble_eq_true rfl) rfl ⟨Nat.le_of_ble_eq_true rfl, (Nat.le_of_ble_eq_true rfl)⟩ d_Law_1555) hP hD hS [0] [1] rfl rfl rfl rfl (fun r_1 u_2 H locs hw hP hD hS hzH => ?_)
  have hw : r_1 = (-1) := hw
  have hP : va_P D CL [(h0X, .inr (14, fsX))] H := hP
  have hD : va_D A [(h0X, .inr (14, fsX))] := hD
  subst hw
  refine tpst (w := [.int (-1)]) rfl ?_
  refine lv_aload_n G.1 G.2.1 d_Law_1558 rfl (lv_at hl 2 rfl) ?_
  refine lv_aload_n G.1 G.2.1 d_Law_1559 rfl (lv_at hl 0 rfl) ?_
  refine lv_iload_n G.1 G.2.1 d_Law_1560 rfl (lv_at hl 3 rfl) ?_
  refine lv_iconst (v := nI 1) G.1 G.2.1 d_Law_1561 (by decide) ?_
  refine lv_iadd G.1 G.2.1 d_Law_1562 ?_
  refine tpi (w := nI 1) (by decide) ?_
  refine va_sld G.1 G.2.1 hX hbl hbA hS (nI_inn (n := 6) (a := 1) (by decide) (by decide)) d_Law_1563 ?_
  refine tpi (w := (xs 1)) (by rw [nI_clamp (by decide)]) ?_
  refine lv_aload_n G.1 G.2.1 d_Law_1564 rfl (lv_at hl 0 rfl) ?_
  refine lv_iload_n G.1 G.2.1 d_Law_1565 rfl (lv_at hl 3 rfl) ?_
  refine lv_iconst (v := nI 2) G.1 G.2.1 d_Law_1566 (by decide) ?_
  refine lv_iadd G.1 G.2.1 d_Law_1567 ?_
  refine tpi (w := nI 2) (by decide) ?_
  refine va_sld G.1 G.2.1 hX hbl hbA hS (nI_inn (n := 6) (a := 2) (by decide) (by decide)) d_Law_1568 ?_
  refine tpi (w := (xs 2)) (by rw [nI_clamp (by decide)]) ?_
  refine W.eq (g2 := F0 m 1569 ls [.int (xs 2), .int (xs 1), .ref h0X, .int (-1)]) rfl ?_
  refine kEi (wr := []) G (kV (As := [.int (xs 1), .int (xs 2)]) (rest := [.int (-1)]) G hP hD hS [0] rfl rfl (c_Mo_finds l D g h0X (xs 1) (xs 2) fsX H.size glenX gk0X) w_Mo_finds q4244 rfl rfl ⟨Nat.le_of_ble_eq_true rfl, Nat.le_of_ble_eq_true rfl⟩ (fun _ h => absurd h List.not_mem_nil) 0 (ci := 14) rfl rfl rfl hl.1 rfl (Nat.le_of_ble_eq_true rfl) rfl ⟨Nat.le_of_ble_eq_true rfl, (Nat.le_of_ble_eq_true rfl)⟩ d_Law_1569) hP hD hS [0] [] rfl rfl rfl rfl (fun r_3 u_4 H locs hw hP hD hS hzH => ?_)
  have hw : r_3 = (-1) := hw
  have hP : va_P D CL [] H := hP
  have hD : va_D A [] := hD
  subst hw
  refine tpst (w := [.int (-1), .int (-1)]) rfl ?_
  refine lv_icmp_eq (tgt := 1768) G.1 G.2.1 d_Law_1572 (by decide) (fun c1572 => ?_) (fun c1572 => absurd c1572 (fun h => h rfl))
  refine lv_iinc (v := nI 6) (lv' := [(3, .int (nI 6)), (0, .ref b), (1, .ref h0), (2, .ref h0X)]) G.1 G.2.1 d_Law_1768 hl (k := 3) rfl (show (nI 0) + Int32.ofInt 6 = nI 6 from by decide) (by decide) rfl (fun ls hl => ?_)
  refine lv_goto (tgt := 18) G.1 G.2.1 d_Law_1771 (by decide) ?_
  refine lv_iload_n G.1 G.2.1 d_Law_18 rfl (lv_at hl 0 rfl) ?_
  refine lv_aload_n G.1 G.2.1 d_Law_19 rfl (lv_at hl 1 rfl) ?_
  refine va_slen G.1 G.2.1 hX hbl hbA hS d_Law_20 ?_
  refine tpi (w := nI 6) rfl ?_
  refine lv_bipush (v := nI 6) G.1 G.2.1 d_Law_21 (by decide) ?_
  refine lv_isub G.1 G.2.1 d_Law_23 ?_
  refine tpi (w := nI 0) (by decide) ?_
  refine lv_icmp_gt (tgt := 1774) G.1 G.2.1 d_Law_24 (by decide) (fun c24 => ?_) (fun c24 => absurd c24 (by decide))
  refine lv_iconst (v := nI 1) G.1 G.2.1 d_Law_1774 (by decide) ?_
  refine va_forget (fun q hq => hAA _ (hS.2.2 q hq)) ?_
  refine W.widen (k := 600002) (n := 7302232) (Nat.le_of_ble_eq_true rfl) (Nat.le_of_ble_eq_true rfl) ?_
  exact lw_ret G.1 G.2.1 G.2.2.2.1 G.2.2.2.2.1 d_Law_1775
theorem q2505 : Cond.code y_Cw_hole b_Cw_hole 4 (some .int) ∈ lw_ok := lw_okmem (List.mem_of_getElem? (i := 2505) (by decide +kernel)) rfl
theorem q2503 : Cond.instanceMethod y_Cw_hole ∈ lw_ok := lw_okmem (List.mem_of_getElem? (i := 2503) (by decide +kernel)) rfl
theorem q2504 : Cond.selects y_Cw_hole.cls y_Cw_hole y_Cw_hole ∈ lw_ok := lw_okmem (List.mem_of_getElem? (i := 2504) (by decide +kernel)) rfl
theorem w_Cw_hole : CWv y_Cw_hole b_Cw_hole 4 (some .int) 1 ∧ Cond.instanceMethod y_Cw_hole ∈ lw_ok ∧ Cond.selects y_Cw_hole.cls y_Cw_hole y_Cw_hole ∈ lw_ok := ⟨⟨q2505, q329, by decide +kernel, by decide +kernel, by decide +kernel⟩, q2503, q2504⟩
theorem q2502 : Cond.methodLink "ClassWorksLaw" 169 y_Cw_hole ∈ lw_ok := lw_okmem (List.mem_of_getElem? (i := 2502) (by decide +kernel)) rfl
theorem q4251 : Cond.code y_Mo_hole b_Mo_hole 6 (some .int) ∈ lw_ok := lw_okmem (List.mem_of_getElem? (i := 4251) (by decide +kernel)) rfl
theorem q4249 : Cond.instanceMethod y_Mo_hole ∈ lw_ok := lw_okmem (List.mem_of_getElem? (i := 4249) (by decide +kernel)) rfl
theorem q4250 : Cond.selects y_Mo_hole.cls y_Mo_hole y_Mo_hole ∈ lw_ok := lw_okmem (List.mem_of_getElem? (i := 4250) (by decide +kernel)) rfl
theorem w_Mo_hole : CWv y_Mo_hole b_Mo_hole 6 (some .int) 1 ∧ Cond.instanceMethod y_Mo_hole ∈ lw_ok ∧ Cond.selects y_Mo_hole.cls y_Mo_hole y_Mo_hole ∈ lw_ok := ⟨⟨q4251, q348, by decide +kernel, by decide +kernel, by decide +kernel⟩, q4249, q4250⟩
theorem q4248 : Cond.methodLink "ClassWorksLaw" 172 y_Mo_hole ∈ lw_ok := lw_okmem (List.mem_of_getElem? (i := 4248) (by decide +kernel)) rfl
theorem d_Law_1577 : decode code 1577 = .ok (.aload_n 1, 1) := by decide +kernel
theorem d_Law_1578 : decode code 1578 = .ok (.aload_n 0, 1) := by decide +kernel
theorem d_Law_1579 : decode code 1579 = .ok (.iload_n 3, 1) := by decide +kernel
theorem d_Law_1580 : decode code 1580 = .ok (.iconst 1, 1) := by decide +kernel
theorem d_Law_1581 : decode code 1581 = .ok (.iadd, 1) := by decide +kernel
theorem d_Law_1582 : decode code 1582 = .ok (.iaload, 1) := by decide +kernel
theorem d_Law_1583 : decode code 1583 = .ok (.invokevirtual 169, 3) := by decide +kernel
theorem d_Law_1586 : decode code 1586 = .ok (.aload_n 2, 1) := by decide +kernel
theorem d_Law_1587 : decode code 1587 = .ok (.aload_n 0, 1) := by decide +kernel
theorem d_Law_1588 : decode code 1588 = .ok (.iload_n 3, 1) := by decide +kernel
theorem d_Law_1589 : decode code 1589 = .ok (.iconst 1, 1) := by decide +kernel
theorem d_Law_1590 : decode code 1590 = .ok (.iadd, 1) := by decide +kernel
theorem d_Law_1591 : decode code 1591 = .ok (.iaload, 1) := by decide +kernel
theorem d_Law_1592 : decode code 1592 = .ok (.invokevirtual 172, 3) := by decide +kernel
theorem d_Law_1595 : decode code 1595 = .ok (.if_icmp .eq 173, 3) := by decide +kernel
set_option maxHeartbeats 4000000 in
set_option maxRecDepth 100000 in
theorem law_hole {p : Program} {e : Env} {s : State} {m : MethodId} {below : List Frame} {meth : Method} {c : Code} {l : Launch} {D : va_G} {g : Nat → ClassId} {sl : List SL} {b : Nat} {xs : Nat → Int32} {A : Nat → Prop} (h0 : Nat) (r_cwords : Nat) (r_creader : Nat) (r_cchecker : Nat) (r_cfinder : Nat) (r_cwriter : Nat) (r_cmachines : Nat) (r_ctape : Nat) (r_cstock : Nat) (r_csizes : Nat) (r_cmet : Nat) (r_cfound : Nat) (r_cdraft : Nat) (r_cfewestFor : Nat) (r_cfewestNext : Nat) (h0X : Nat) (fsX : List Value) (G : GV l p s m #[Value.ref b] meth c (⟨"ClassWorksLaw", meth.name, ""⟩ : MethodName) code 4 ret g D sl A) (hX : va_X b 6 xs s s.heap) (hbl : b < s.heap.size) (hbA : ¬ A b) (hAA : ∀ q, A q → s.heap.size ≤ q) {H : Heap} {locs : List Loc} {ls : Array Slot} (glenX : fsX.length = 131) (gk0X : fsX[121]? = some (.int (nI 0))) (hP : va_P D CL [(h0, .inr (11, [.ref r_cwords, .ref r_creader, .ref r_cchecker, .ref r_cfinder, .ref r_cwriter, .ref r_cmachines, .ref r_ctape, .int (nI 0), .int (-2), .int (nI 60000), .ref r_cstock, .ref r_csizes, .ref r_cmet, .ref r_cfound, .int (nI 0), .ref r_cdraft, .int (nI 0), .int (nI 0), .ref r_cfewestFor, .ref r_cfewestNext])), (h0X, .inr (14, fsX))] H) (hD : va_D A [(h0, .inr (11, [.ref r_cwords, .ref r_creader, .ref r_cchecker, .ref r_cfinder, .ref r_cwriter, .ref r_cmachines, .ref r_ctape, .int (nI 0), .int (-2), .int (nI 60000), .ref r_cstock, .ref r_csizes, .ref r_cmet, .ref r_cfound, .int (nI 0), .ref r_cdraft, .int (nI 0), .int (nI 0), .ref r_cfewestFor, .ref r_cfewestNext])), (h0X, .inr (14, fsX))]) (hS : va_S A s.heap H locs) (hl : lv_has ls 4 [(0, .ref b), (1, .ref h0), (2, .ref h0X), (3, .int (nI 0))]) : W p l e room_1 s m #[Value.ref b] below meth c H locs 702 488194 (lw_Z below #[Value.ref b] s) (F0 m 1577 ls []) := by
  refine lv_aload_n G.1 G.2.1 d_Law_1577 rfl (lv_at hl 1 rfl) ?_
  refine lv_aload_n G.1 G.2.1 d_Law_1578 rfl (lv_at hl 0 rfl) ?_
  refine lv_iload_n G.1 G.2.1 d_Law_1579 rfl (lv_at hl 3 rfl) ?_
  refine lv_iconst (v := nI 1) G.1 G.2.1 d_Law_1580 (by decide) ?_
  refine lv_iadd G.1 G.2.1 d_Law_1581 ?_
  refine tpi (w := nI 1) (by decide) ?_
  refine va_sld G.1 G.2.1 hX hbl hbA hS (nI_inn (n := 6) (a := 1) (by decide) (by decide)) d_Law_1582 ?_
  refine tpi (w := (xs 1)) (by rw [nI_clamp (by decide)]) ?_
  refine kEi (wr := [(h0X, .inr (14, fsX))]) G (kV (As := [.int (xs 1)]) (rest := []) G hP hD hS [0] rfl rfl (c_Cw_hole l D g h0 (xs 1) r_cwords r_creader r_cchecker r_cfinder r_cwriter r_cmachines r_ctape r_cstock r_csizes r_cmet r_cfound r_cdraft r_cfewestFor r_cfewestNext H.size ) w_Cw_hole q2502 rfl rfl ⟨Nat.le_of_ble_eq_true rfl, Nat.le_of_ble_eq_true rfl⟩ (fun _ h => absurd h List.not_mem_nil) 0 (ci := 11) rfl rfl rfl hl.1 rfl (Nat.le_of_ble_eq_true rfl) rfl ⟨Nat.le_of_ble_eq_true rfl, (Nat.le_of_ble_eq_true rfl)⟩ d_Law_1583) hP hD hS [0] [1] rfl rfl rfl rfl (fun r_1 u_2 H locs hw hP hD hS hzH => ?_)
  have hw : r_1 = hoF ((xs 1)) := hw
  have hP : va_P D CL [(h0X, .inr (14, fsX))] H := hP
  have hD : va_D A [(h0X, .inr (14, fsX))] := hD
  subst hw
  refine tpst (w := [.int (hoF ((xs 1)))]) rfl ?_
  refine lv_aload_n G.1 G.2.1 d_Law_1586 rfl (lv_at hl 2 rfl) ?_
  refine lv_aload_n G.1 G.2.1 d_Law_1587 rfl (lv_at hl 0 rfl) ?_
  refine lv_iload_n G.1 G.2.1 d_Law_1588 rfl (lv_at hl 3 rfl) ?_
  refine lv_iconst (v := nI 1) G.1 G.2.1 d_Law_1589 (by decide) ?_
  refine W.eq (g2 := F0 m 1590 ls [.int (nI 1), .int (nI 0), .ref b, .ref h0X, .int (hoF ((xs 1)))]) rfl ?_
  refine lv_iadd G.1 G.2.1 d_Law_1590 ?_
  refine tpi (w := nI 1) (by decide) ?_
  refine va_sld G.1 G.2.1 hX hbl hbA hS (nI_inn (n := 6) (a := 1) (by decide) (by decide)) d_Law_1591 ?_
  refine tpi (w := (xs 1)) (by rw [nI_clamp (by decide)]) ?_
  refine kEi (wr := []) G (kV (As := [.int (xs 1)]) (rest := [.int (hoF ((xs 1)))]) G hP hD hS [0] rfl rfl (c_Mo_hole l D g h0X (xs 1) fsX H.size glenX gk0X) w_Mo_hole q4248 rfl rfl ⟨Nat.le_of_ble_eq_true rfl, Nat.le_of_ble_eq_true rfl⟩ (fun _ h => absurd h List.not_mem_nil) 0 (ci := 14) rfl rfl rfl hl.1 rfl (Nat.le_of_ble_eq_true rfl) rfl ⟨Nat.le_of_ble_eq_true rfl, (Nat.le_of_ble_eq_true rfl)⟩ d_Law_1592) hP hD hS [0] [] rfl rfl rfl rfl (fun r_3 u_4 H locs hw hP hD hS hzH => ?_)
  have hw : r_3 = hoF ((xs 1)) := hw
  have hP : va_P D CL [] H := hP
  have hD : va_D A [] := hD
  subst hw
  refine tpst (w := [.int (hoF ((xs 1))), .int (hoF ((xs 1)))]) rfl ?_
  refine lv_icmp_eq (tgt := 1768) G.1 G.2.1 d_Law_1595 (by decide) (fun c1595 => ?_) (fun c1595 => absurd c1595 (fun h => h rfl))
  refine lv_iinc (v := nI 6) (lv' := [(3, .int (nI 6)), (0, .ref b), (1, .ref h0), (2, .ref h0X)]) G.1 G.2.1 d_Law_1768 hl (k := 3) rfl (show (nI 0) + Int32.ofInt 6 = nI 6 from by decide) (by decide) rfl (fun ls hl => ?_)
  refine lv_goto (tgt := 18) G.1 G.2.1 d_Law_1771 (by decide) ?_
  refine lv_iload_n G.1 G.2.1 d_Law_18 rfl (lv_at hl 0 rfl) ?_
  refine lv_aload_n G.1 G.2.1 d_Law_19 rfl (lv_at hl 1 rfl) ?_
  refine va_slen G.1 G.2.1 hX hbl hbA hS d_Law_20 ?_
  refine tpi (w := nI 6) rfl ?_
  refine lv_bipush (v := nI 6) G.1 G.2.1 d_Law_21 (by decide) ?_
  refine lv_isub G.1 G.2.1 d_Law_23 ?_
  refine tpi (w := nI 0) (by decide) ?_
  refine lv_icmp_gt (tgt := 1774) G.1 G.2.1 d_Law_24 (by decide) (fun c24 => ?_) (fun c24 => absurd c24 (by decide))
  refine W.eq (g2 := F0 m 1774 ls []) rfl ?_
  refine lv_iconst (v := nI 1) G.1 G.2.1 d_Law_1774 (by decide) ?_
  refine va_forget (fun q hq => hAA _ (hS.2.2 q hq)) ?_
  refine W.widen (k := 600002) (n := 7302232) (Nat.le_of_ble_eq_true rfl) (Nat.le_of_ble_eq_true rfl) ?_
  exact lw_ret G.1 G.2.1 G.2.2.2.1 G.2.2.2.2.1 d_Law_1775
theorem q2516 : Cond.code y_Cw_least b_Cw_least 2 (some .int) ∈ lw_ok := lw_okmem (List.mem_of_getElem? (i := 2516) (by decide +kernel)) rfl
theorem q2514 : Cond.instanceMethod y_Cw_least ∈ lw_ok := lw_okmem (List.mem_of_getElem? (i := 2514) (by decide +kernel)) rfl
theorem q2515 : Cond.selects y_Cw_least.cls y_Cw_least y_Cw_least ∈ lw_ok := lw_okmem (List.mem_of_getElem? (i := 2515) (by decide +kernel)) rfl
theorem w_Cw_least : CWv y_Cw_least b_Cw_least 2 (some .int) 0 ∧ Cond.instanceMethod y_Cw_least ∈ lw_ok ∧ Cond.selects y_Cw_least.cls y_Cw_least y_Cw_least ∈ lw_ok := ⟨⟨q2516, q329, by decide +kernel, by decide +kernel, by decide +kernel⟩, q2514, q2515⟩
theorem q2513 : Cond.methodLink "ClassWorksLaw" 173 y_Cw_least ∈ lw_ok := lw_okmem (List.mem_of_getElem? (i := 2513) (by decide +kernel)) rfl
theorem q4258 : Cond.code y_Mo_least b_Mo_least 7 (some .int) ∈ lw_ok := lw_okmem (List.mem_of_getElem? (i := 4258) (by decide +kernel)) rfl
theorem q4256 : Cond.instanceMethod y_Mo_least ∈ lw_ok := lw_okmem (List.mem_of_getElem? (i := 4256) (by decide +kernel)) rfl
theorem q4257 : Cond.selects y_Mo_least.cls y_Mo_least y_Mo_least ∈ lw_ok := lw_okmem (List.mem_of_getElem? (i := 4257) (by decide +kernel)) rfl
theorem w_Mo_least : CWv y_Mo_least b_Mo_least 7 (some .int) 0 ∧ Cond.instanceMethod y_Mo_least ∈ lw_ok ∧ Cond.selects y_Mo_least.cls y_Mo_least y_Mo_least ∈ lw_ok := ⟨⟨q4258, q348, by decide +kernel, by decide +kernel, by decide +kernel⟩, q4256, q4257⟩
theorem q4255 : Cond.methodLink "ClassWorksLaw" 176 y_Mo_least ∈ lw_ok := lw_okmem (List.mem_of_getElem? (i := 4255) (by decide +kernel)) rfl
theorem d_Law_1600 : decode code 1600 = .ok (.aload_n 1, 1) := by decide +kernel
theorem d_Law_1601 : decode code 1601 = .ok (.invokevirtual 173, 3) := by decide +kernel
theorem d_Law_1604 : decode code 1604 = .ok (.aload_n 2, 1) := by decide +kernel
theorem d_Law_1605 : decode code 1605 = .ok (.invokevirtual 176, 3) := by decide +kernel
theorem d_Law_1608 : decode code 1608 = .ok (.if_icmp .eq 160, 3) := by decide +kernel
set_option maxHeartbeats 4000000 in
set_option maxRecDepth 100000 in
theorem law_least {p : Program} {e : Env} {s : State} {m : MethodId} {below : List Frame} {meth : Method} {c : Code} {l : Launch} {D : va_G} {g : Nat → ClassId} {sl : List SL} {b : Nat} {xs : Nat → Int32} {A : Nat → Prop} (h0 : Nat) (r_cwords : Nat) (r_creader : Nat) (r_cchecker : Nat) (r_cfinder : Nat) (r_cwriter : Nat) (r_cmachines : Nat) (r_ctape : Nat) (r_cstock : Nat) (r_csizes : Nat) (r_cmet : Nat) (r_cfound : Nat) (r_cdraft : Nat) (r_cfewestFor : Nat) (r_cfewestNext : Nat) (h0X : Nat) (fsX : List Value) (G : GV l p s m #[Value.ref b] meth c (⟨"ClassWorksLaw", meth.name, ""⟩ : MethodName) code 4 ret g D sl A) (hX : va_X b 6 xs s s.heap) (hbl : b < s.heap.size) (hbA : ¬ A b) (hAA : ∀ q, A q → s.heap.size ≤ q) {H : Heap} {locs : List Loc} {ls : Array Slot} (glenX : fsX.length = 131) (gk0X : fsX[121]? = some (.int (nI 0))) (hP : va_P D CL [(h0, .inr (11, [.ref r_cwords, .ref r_creader, .ref r_cchecker, .ref r_cfinder, .ref r_cwriter, .ref r_cmachines, .ref r_ctape, .int (nI 0), .int (-2), .int (nI 60000), .ref r_cstock, .ref r_csizes, .ref r_cmet, .ref r_cfound, .int (nI 0), .ref r_cdraft, .int (nI 0), .int (nI 0), .ref r_cfewestFor, .ref r_cfewestNext])), (h0X, .inr (14, fsX))] H) (hD : va_D A [(h0, .inr (11, [.ref r_cwords, .ref r_creader, .ref r_cchecker, .ref r_cfinder, .ref r_cwriter, .ref r_cmachines, .ref r_ctape, .int (nI 0), .int (-2), .int (nI 60000), .ref r_cstock, .ref r_csizes, .ref r_cmet, .ref r_cfound, .int (nI 0), .ref r_cdraft, .int (nI 0), .int (nI 0), .ref r_cfewestFor, .ref r_cfewestNext])), (h0X, .inr (14, fsX))]) (hS : va_S A s.heap H locs) (hl : lv_has ls 4 [(0, .ref b), (1, .ref h0), (2, .ref h0X), (3, .int (nI 0))]) : W p l e room_1 s m #[Value.ref b] below meth c H locs 702 488194 (lw_Z below #[Value.ref b] s) (F0 m 1600 ls []) := by
  refine lv_aload_n G.1 G.2.1 d_Law_1600 rfl (lv_at hl 1 rfl) ?_
  refine kEi (wr := [(h0X, .inr (14, fsX))]) G (kV (As := []) (rest := []) G hP hD hS [0] rfl rfl (c_Cw_least l D g h0 r_cwords r_creader r_cchecker r_cfinder r_cwriter r_cmachines r_ctape r_cstock r_csizes r_cmet r_cfound r_cdraft r_cfewestFor r_cfewestNext H.size ) w_Cw_least q2513 rfl rfl ⟨Nat.le_of_ble_eq_true rfl, Nat.le_of_ble_eq_true rfl⟩ (fun _ h => absurd h List.not_mem_nil) 0 (ci := 11) rfl rfl rfl hl.1 rfl (Nat.le_of_ble_eq_true rfl) rfl ⟨Nat.le_of_ble_eq_true rfl, (Nat.le_of_ble_eq_true rfl)⟩ d_Law_1601) hP hD hS [0] [1] rfl rfl rfl rfl (fun r_1 u_2 H locs hw hP hD hS hzH => ?_)
  have hw : r_1 = nI 0 := hw
  have hP : va_P D CL [(h0X, .inr (14, fsX))] H := hP
  have hD : va_D A [(h0X, .inr (14, fsX))] := hD
  subst hw
  refine tpst (w := [.int (nI 0)]) rfl ?_
  refine lv_aload_n G.1 G.2.1 d_Law_1604 rfl (lv_at hl 2 rfl) ?_
  refine kEi (wr := []) G (kV (As := []) (rest := [.int (nI 0)]) G hP hD hS [0] rfl rfl (c_Mo_least l D g h0X fsX H.size glenX gk0X) w_Mo_least q4255 rfl rfl ⟨Nat.le_of_ble_eq_true rfl, Nat.le_of_ble_eq_true rfl⟩ (fun _ h => absurd h List.not_mem_nil) 0 (ci := 14) rfl rfl rfl hl.1 rfl (Nat.le_of_ble_eq_true rfl) rfl ⟨Nat.le_of_ble_eq_true rfl, (Nat.le_of_ble_eq_true rfl)⟩ d_Law_1605) hP hD hS [0] [] rfl rfl rfl rfl (fun r_3 u_4 H locs hw hP hD hS hzH => ?_)
  have hw : r_3 = nI 0 := hw
  have hP : va_P D CL [] H := hP
  have hD : va_D A [] := hD
  subst hw
  refine tpst (w := [.int (nI 0), .int (nI 0)]) rfl ?_
  refine lv_icmp_eq (tgt := 1768) G.1 G.2.1 d_Law_1608 (by decide) (fun c1608 => ?_) (fun c1608 => absurd c1608 (by decide))
  refine lv_iinc (v := nI 6) (lv' := [(3, .int (nI 6)), (0, .ref b), (1, .ref h0), (2, .ref h0X)]) G.1 G.2.1 d_Law_1768 hl (k := 3) rfl (show (nI 0) + Int32.ofInt 6 = nI 6 from by decide) (by decide) rfl (fun ls hl => ?_)
  refine lv_goto (tgt := 18) G.1 G.2.1 d_Law_1771 (by decide) ?_
  refine lv_iload_n G.1 G.2.1 d_Law_18 rfl (lv_at hl 0 rfl) ?_
  refine lv_aload_n G.1 G.2.1 d_Law_19 rfl (lv_at hl 1 rfl) ?_
  refine va_slen G.1 G.2.1 hX hbl hbA hS d_Law_20 ?_
  refine tpi (w := nI 6) rfl ?_
  refine lv_bipush (v := nI 6) G.1 G.2.1 d_Law_21 (by decide) ?_
  refine W.eq (g2 := F0 m 23 ls [.int (nI 6), .int (nI 6), .int (nI 6)]) rfl ?_
  refine lv_isub G.1 G.2.1 d_Law_23 ?_
  refine tpi (w := nI 0) (by decide) ?_
  refine lv_icmp_gt (tgt := 1774) G.1 G.2.1 d_Law_24 (by decide) (fun c24 => ?_) (fun c24 => absurd c24 (by decide))
  refine lv_iconst (v := nI 1) G.1 G.2.1 d_Law_1774 (by decide) ?_
  refine va_forget (fun q hq => hAA _ (hS.2.2 q hq)) ?_
  refine W.widen (k := 600002) (n := 7302232) (Nat.le_of_ble_eq_true rfl) (Nat.le_of_ble_eq_true rfl) ?_
  exact lw_ret G.1 G.2.1 G.2.2.2.1 G.2.2.2.2.1 d_Law_1775
theorem q2528 : Cond.code y_Cw_fewest b_Cw_fewest 3 (some .int) ∈ lw_ok := lw_okmem (List.mem_of_getElem? (i := 2528) (by decide +kernel)) rfl
theorem q2526 : Cond.instanceMethod y_Cw_fewest ∈ lw_ok := lw_okmem (List.mem_of_getElem? (i := 2526) (by decide +kernel)) rfl
theorem q2527 : Cond.selects y_Cw_fewest.cls y_Cw_fewest y_Cw_fewest ∈ lw_ok := lw_okmem (List.mem_of_getElem? (i := 2527) (by decide +kernel)) rfl
theorem w_Cw_fewest : CWv y_Cw_fewest b_Cw_fewest 3 (some .int) 0 ∧ Cond.instanceMethod y_Cw_fewest ∈ lw_ok ∧ Cond.selects y_Cw_fewest.cls y_Cw_fewest y_Cw_fewest ∈ lw_ok := ⟨⟨q2528, q329, by decide +kernel, by decide +kernel, by decide +kernel⟩, q2526, q2527⟩
theorem q2525 : Cond.methodLink "ClassWorksLaw" 177 y_Cw_fewest ∈ lw_ok := lw_okmem (List.mem_of_getElem? (i := 2525) (by decide +kernel)) rfl
theorem q4266 : Cond.code y_Mo_fewest b_Mo_fewest 5 (some .int) ∈ lw_ok := lw_okmem (List.mem_of_getElem? (i := 4266) (by decide +kernel)) rfl
theorem q4264 : Cond.instanceMethod y_Mo_fewest ∈ lw_ok := lw_okmem (List.mem_of_getElem? (i := 4264) (by decide +kernel)) rfl
theorem q4265 : Cond.selects y_Mo_fewest.cls y_Mo_fewest y_Mo_fewest ∈ lw_ok := lw_okmem (List.mem_of_getElem? (i := 4265) (by decide +kernel)) rfl
theorem w_Mo_fewest : CWv y_Mo_fewest b_Mo_fewest 5 (some .int) 0 ∧ Cond.instanceMethod y_Mo_fewest ∈ lw_ok ∧ Cond.selects y_Mo_fewest.cls y_Mo_fewest y_Mo_fewest ∈ lw_ok := ⟨⟨q4266, q348, by decide +kernel, by decide +kernel, by decide +kernel⟩, q4264, q4265⟩
theorem q4263 : Cond.methodLink "ClassWorksLaw" 180 y_Mo_fewest ∈ lw_ok := lw_okmem (List.mem_of_getElem? (i := 4263) (by decide +kernel)) rfl
theorem d_Law_1613 : decode code 1613 = .ok (.aload_n 1, 1) := by decide +kernel
theorem d_Law_1614 : decode code 1614 = .ok (.invokevirtual 177, 3) := by decide +kernel
theorem d_Law_1617 : decode code 1617 = .ok (.aload_n 2, 1) := by decide +kernel
theorem d_Law_1618 : decode code 1618 = .ok (.invokevirtual 180, 3) := by decide +kernel
theorem d_Law_1621 : decode code 1621 = .ok (.if_icmp .eq 147, 3) := by decide +kernel
set_option maxHeartbeats 4000000 in
set_option maxRecDepth 100000 in
theorem law_fewest {p : Program} {e : Env} {s : State} {m : MethodId} {below : List Frame} {meth : Method} {c : Code} {l : Launch} {D : va_G} {g : Nat → ClassId} {sl : List SL} {b : Nat} {xs : Nat → Int32} {A : Nat → Prop} (h0 : Nat) (r_cwords : Nat) (r_creader : Nat) (r_cchecker : Nat) (r_cfinder : Nat) (r_cwriter : Nat) (r_cmachines : Nat) (r_ctape : Nat) (r_cstock : Nat) (r_csizes : Nat) (r_cmet : Nat) (r_cfound : Nat) (r_cdraft : Nat) (r_cfewestFor : Nat) (r_cfewestNext : Nat) (h0X : Nat) (fsX : List Value) (r_ofewestSoX : Nat) (r_ofewestNoneX : Nat) (r_ofewestOneX : Nat) (G : GV l p s m #[Value.ref b] meth c (⟨"ClassWorksLaw", meth.name, ""⟩ : MethodName) code 4 ret g D sl A) (hX : va_X b 6 xs s s.heap) (hbl : b < s.heap.size) (hbA : ¬ A b) (hAA : ∀ q, A q → s.heap.size ≤ q) {H : Heap} {locs : List Loc} {ls : Array Slot} (glenX : fsX.length = 131) (gk0X : fsX[121]? = some (.int (nI 0))) (gk1X : fsX[126]? = some (.ref r_ofewestSoX)) (gk2X : fsX[127]? = some (.ref r_ofewestNoneX)) (gk3X : fsX[128]? = some (.ref r_ofewestOneX)) (hP : va_P D CL [(h0, .inr (11, [.ref r_cwords, .ref r_creader, .ref r_cchecker, .ref r_cfinder, .ref r_cwriter, .ref r_cmachines, .ref r_ctape, .int (nI 0), .int (-2), .int (nI 60000), .ref r_cstock, .ref r_csizes, .ref r_cmet, .ref r_cfound, .int (nI 0), .ref r_cdraft, .int (nI 0), .int (nI 0), .ref r_cfewestFor, .ref r_cfewestNext])), (r_cfewestFor, .inl (g 0, 256, .inl (fun _ => nI 0))), (h0X, .inr (14, fsX)), (r_ofewestSoX, .inl (g 0, 256, .inl (fun _ => nI 0))), (r_ofewestNoneX, .inl (g 0, 256, .inl (fun _ => nI 0))), (r_ofewestOneX, .inl (g 0, 256, .inl (fun _ => nI 0)))] H) (hD : va_D A [(h0, .inr (11, [.ref r_cwords, .ref r_creader, .ref r_cchecker, .ref r_cfinder, .ref r_cwriter, .ref r_cmachines, .ref r_ctape, .int (nI 0), .int (-2), .int (nI 60000), .ref r_cstock, .ref r_csizes, .ref r_cmet, .ref r_cfound, .int (nI 0), .ref r_cdraft, .int (nI 0), .int (nI 0), .ref r_cfewestFor, .ref r_cfewestNext])), (r_cfewestFor, .inl (g 0, 256, .inl (fun _ => nI 0))), (h0X, .inr (14, fsX)), (r_ofewestSoX, .inl (g 0, 256, .inl (fun _ => nI 0))), (r_ofewestNoneX, .inl (g 0, 256, .inl (fun _ => nI 0))), (r_ofewestOneX, .inl (g 0, 256, .inl (fun _ => nI 0)))]) (hS : va_S A s.heap H locs) (hl : lv_has ls 4 [(0, .ref b), (1, .ref h0), (2, .ref h0X), (3, .int (nI 0))]) : W p l e room_1 s m #[Value.ref b] below meth c H locs 702 488194 (lw_Z below #[Value.ref b] s) (F0 m 1613 ls []) := by
  refine lv_aload_n G.1 G.2.1 d_Law_1613 rfl (lv_at hl 1 rfl) ?_
  refine kEi (wr := [(h0X, .inr (14, fsX)), (r_ofewestSoX, .inl (g 0, 256, .inl (fun _ => nI 0))), (r_ofewestNoneX, .inl (g 0, 256, .inl (fun _ => nI 0))), (r_ofewestOneX, .inl (g 0, 256, .inl (fun _ => nI 0)))]) G (kV (As := []) (rest := []) G hP hD hS [0, 1] rfl rfl (c_Cw_fewest l D g h0 r_cwords r_creader r_cchecker r_cfinder r_cwriter r_cmachines r_ctape r_cstock r_csizes r_cmet r_cfound r_cdraft r_cfewestFor r_cfewestNext H.size ) w_Cw_fewest q2525 rfl rfl ⟨Nat.le_of_ble_eq_true rfl, Nat.le_of_ble_eq_true rfl⟩ (fun _ h => absurd h List.not_mem_nil) 0 (ci := 11) rfl rfl rfl hl.1 rfl (Nat.le_of_ble_eq_true rfl) rfl ⟨Nat.le_of_ble_eq_true rfl, (Nat.le_of_ble_eq_true rfl)⟩ d_Law_1614) hP hD hS [0, 1] [2, 3, 4, 5] rfl rfl rfl rfl (fun r_1 u_2 H locs hw hP hD hS hzH => ?_)
  have hw : r_1 = nI 0 := hw
  have hP : va_P D CL [(h0X, .inr (14, fsX)), (r_ofewestSoX, .inl (g 0, 256, .inl (fun _ => nI 0))), (r_ofewestNoneX, .inl (g 0, 256, .inl (fun _ => nI 0))), (r_ofewestOneX, .inl (g 0, 256, .inl (fun _ => nI 0)))] H := hP
  have hD : va_D A [(h0X, .inr (14, fsX)), (r_ofewestSoX, .inl (g 0, 256, .inl (fun _ => nI 0))), (r_ofewestNoneX, .inl (g 0, 256, .inl (fun _ => nI 0))), (r_ofewestOneX, .inl (g 0, 256, .inl (fun _ => nI 0)))] := hD
  subst hw
  refine tpst (w := [.int (nI 0)]) rfl ?_
  refine lv_aload_n G.1 G.2.1 d_Law_1617 rfl (lv_at hl 2 rfl) ?_
  refine kEi (wr := []) G (kV (As := []) (rest := [.int (nI 0)]) G hP hD hS [0, 1, 2, 3] rfl rfl (c_Mo_fewest l D g h0X fsX r_ofewestSoX r_ofewestNoneX r_ofewestOneX H.size glenX gk0X gk1X gk2X gk3X) w_Mo_fewest q4263 rfl rfl ⟨Nat.le_of_ble_eq_true rfl, Nat.le_of_ble_eq_true rfl⟩ (fun _ h => absurd h List.not_mem_nil) 0 (ci := 14) rfl rfl rfl hl.1 rfl (Nat.le_of_ble_eq_true rfl) rfl ⟨Nat.le_of_ble_eq_true rfl, (Nat.le_of_ble_eq_true rfl)⟩ d_Law_1618) hP hD hS [0, 1, 2, 3] [] rfl rfl rfl rfl (fun r_3 u_4 H locs hw hP hD hS hzH => ?_)
  have hw : r_3 = nI 0 := hw
  have hP : va_P D CL [] H := hP
  have hD : va_D A [] := hD
  subst hw
  refine tpst (w := [.int (nI 0), .int (nI 0)]) rfl ?_
  refine lv_icmp_eq (tgt := 1768) G.1 G.2.1 d_Law_1621 (by decide) (fun c1621 => ?_) (fun c1621 => absurd c1621 (by decide))
  refine lv_iinc (v := nI 6) (lv' := [(3, .int (nI 6)), (0, .ref b), (1, .ref h0), (2, .ref h0X)]) G.1 G.2.1 d_Law_1768 hl (k := 3) rfl (show (nI 0) + Int32.ofInt 6 = nI 6 from by decide) (by decide) rfl (fun ls hl => ?_)
  refine lv_goto (tgt := 18) G.1 G.2.1 d_Law_1771 (by decide) ?_
  refine lv_iload_n G.1 G.2.1 d_Law_18 rfl (lv_at hl 0 rfl) ?_
  refine lv_aload_n G.1 G.2.1 d_Law_19 rfl (lv_at hl 1 rfl) ?_
  refine va_slen G.1 G.2.1 hX hbl hbA hS d_Law_20 ?_
  refine tpi (w := nI 6) rfl ?_
  refine lv_bipush (v := nI 6) G.1 G.2.1 d_Law_21 (by decide) ?_
  refine W.eq (g2 := F0 m 23 ls [.int (nI 6), .int (nI 6), .int (nI 6)]) rfl ?_
  refine lv_isub G.1 G.2.1 d_Law_23 ?_
  refine tpi (w := nI 0) (by decide) ?_
  refine lv_icmp_gt (tgt := 1774) G.1 G.2.1 d_Law_24 (by decide) (fun c24 => ?_) (fun c24 => absurd c24 (by decide))
  refine lv_iconst (v := nI 1) G.1 G.2.1 d_Law_1774 (by decide) ?_
  refine va_forget (fun q hq => hAA _ (hS.2.2 q hq)) ?_
  refine W.widen (k := 600002) (n := 7302232) (Nat.le_of_ble_eq_true rfl) (Nat.le_of_ble_eq_true rfl) ?_
  exact lw_ret G.1 G.2.1 G.2.2.2.1 G.2.2.2.2.1 d_Law_1775
theorem q2541 : Cond.code y_Cw_shrink b_Cw_shrink 9 (some .int) ∈ lw_ok := lw_okmem (List.mem_of_getElem? (i := 2541) (by decide +kernel)) rfl
theorem q2539 : Cond.instanceMethod y_Cw_shrink ∈ lw_ok := lw_okmem (List.mem_of_getElem? (i := 2539) (by decide +kernel)) rfl
theorem q2540 : Cond.selects y_Cw_shrink.cls y_Cw_shrink y_Cw_shrink ∈ lw_ok := lw_okmem (List.mem_of_getElem? (i := 2540) (by decide +kernel)) rfl
theorem w_Cw_shrink : CWv y_Cw_shrink b_Cw_shrink 9 (some .int) 2 ∧ Cond.instanceMethod y_Cw_shrink ∈ lw_ok ∧ Cond.selects y_Cw_shrink.cls y_Cw_shrink y_Cw_shrink ∈ lw_ok := ⟨⟨q2541, q329, by decide +kernel, by decide +kernel, by decide +kernel⟩, q2539, q2540⟩
theorem q2538 : Cond.methodLink "ClassWorksLaw" 181 y_Cw_shrink ∈ lw_ok := lw_okmem (List.mem_of_getElem? (i := 2538) (by decide +kernel)) rfl
theorem q4274 : Cond.code y_Mo_shrink b_Mo_shrink 10 (some .int) ∈ lw_ok := lw_okmem (List.mem_of_getElem? (i := 4274) (by decide +kernel)) rfl
theorem q4272 : Cond.instanceMethod y_Mo_shrink ∈ lw_ok := lw_okmem (List.mem_of_getElem? (i := 4272) (by decide +kernel)) rfl
theorem q4273 : Cond.selects y_Mo_shrink.cls y_Mo_shrink y_Mo_shrink ∈ lw_ok := lw_okmem (List.mem_of_getElem? (i := 4273) (by decide +kernel)) rfl
theorem w_Mo_shrink : CWv y_Mo_shrink b_Mo_shrink 10 (some .int) 2 ∧ Cond.instanceMethod y_Mo_shrink ∈ lw_ok ∧ Cond.selects y_Mo_shrink.cls y_Mo_shrink y_Mo_shrink ∈ lw_ok := ⟨⟨q4274, q348, by decide +kernel, by decide +kernel, by decide +kernel⟩, q4272, q4273⟩
theorem q4271 : Cond.methodLink "ClassWorksLaw" 184 y_Mo_shrink ∈ lw_ok := lw_okmem (List.mem_of_getElem? (i := 4271) (by decide +kernel)) rfl
theorem d_Law_1626 : decode code 1626 = .ok (.aload_n 1, 1) := by decide +kernel
theorem d_Law_1627 : decode code 1627 = .ok (.aload_n 0, 1) := by decide +kernel
theorem d_Law_1628 : decode code 1628 = .ok (.iload_n 3, 1) := by decide +kernel
theorem d_Law_1629 : decode code 1629 = .ok (.iconst 1, 1) := by decide +kernel
theorem d_Law_1630 : decode code 1630 = .ok (.iadd, 1) := by decide +kernel
theorem d_Law_1631 : decode code 1631 = .ok (.iaload, 1) := by decide +kernel
theorem d_Law_1632 : decode code 1632 = .ok (.aload_n 0, 1) := by decide +kernel
theorem d_Law_1633 : decode code 1633 = .ok (.iload_n 3, 1) := by decide +kernel
theorem d_Law_1634 : decode code 1634 = .ok (.iconst 2, 1) := by decide +kernel
theorem d_Law_1635 : decode code 1635 = .ok (.iadd, 1) := by decide +kernel
theorem d_Law_1636 : decode code 1636 = .ok (.iaload, 1) := by decide +kernel
theorem d_Law_1637 : decode code 1637 = .ok (.invokevirtual 181, 3) := by decide +kernel
theorem d_Law_1640 : decode code 1640 = .ok (.aload_n 2, 1) := by decide +kernel
theorem d_Law_1641 : decode code 1641 = .ok (.aload_n 0, 1) := by decide +kernel
theorem d_Law_1642 : decode code 1642 = .ok (.iload_n 3, 1) := by decide +kernel
theorem d_Law_1643 : decode code 1643 = .ok (.iconst 1, 1) := by decide +kernel
theorem d_Law_1644 : decode code 1644 = .ok (.iadd, 1) := by decide +kernel
theorem d_Law_1645 : decode code 1645 = .ok (.iaload, 1) := by decide +kernel
theorem d_Law_1646 : decode code 1646 = .ok (.aload_n 0, 1) := by decide +kernel
theorem d_Law_1647 : decode code 1647 = .ok (.iload_n 3, 1) := by decide +kernel
theorem d_Law_1648 : decode code 1648 = .ok (.iconst 2, 1) := by decide +kernel
theorem d_Law_1649 : decode code 1649 = .ok (.iadd, 1) := by decide +kernel
theorem d_Law_1650 : decode code 1650 = .ok (.iaload, 1) := by decide +kernel
theorem d_Law_1651 : decode code 1651 = .ok (.invokevirtual 184, 3) := by decide +kernel
theorem d_Law_1654 : decode code 1654 = .ok (.if_icmp .eq 114, 3) := by decide +kernel
set_option maxHeartbeats 4000000 in
set_option maxRecDepth 100000 in
theorem law_shrink {p : Program} {e : Env} {s : State} {m : MethodId} {below : List Frame} {meth : Method} {c : Code} {l : Launch} {D : va_G} {g : Nat → ClassId} {sl : List SL} {b : Nat} {xs : Nat → Int32} {A : Nat → Prop} (h0 : Nat) (r_cwords : Nat) (r_creader : Nat) (r_cchecker : Nat) (r_cfinder : Nat) (r_cwriter : Nat) (r_cmachines : Nat) (r_ctape : Nat) (r_cstock : Nat) (r_csizes : Nat) (r_cmet : Nat) (r_cfound : Nat) (r_cdraft : Nat) (r_cfewestFor : Nat) (r_cfewestNext : Nat) (h0X : Nat) (fsX : List Value) (G : GV l p s m #[Value.ref b] meth c (⟨"ClassWorksLaw", meth.name, ""⟩ : MethodName) code 4 ret g D sl A) (hX : va_X b 6 xs s s.heap) (hbl : b < s.heap.size) (hbA : ¬ A b) (hAA : ∀ q, A q → s.heap.size ≤ q) {H : Heap} {locs : List Loc} {ls : Array Slot} (glenX : fsX.length = 131) (gk0X : fsX[121]? = some (.int (nI 0))) (hP : va_P D CL [(h0, .inr (11, [.ref r_cwords, .ref r_creader, .ref r_cchecker, .ref r_cfinder, .ref r_cwriter, .ref r_cmachines, .ref r_ctape, .int (nI 0), .int (-2), .int (nI 60000), .ref r_cstock, .ref r_csizes, .ref r_cmet, .ref r_cfound, .int (nI 0), .ref r_cdraft, .int (nI 0), .int (nI 0), .ref r_cfewestFor, .ref r_cfewestNext])), (h0X, .inr (14, fsX))] H) (hD : va_D A [(h0, .inr (11, [.ref r_cwords, .ref r_creader, .ref r_cchecker, .ref r_cfinder, .ref r_cwriter, .ref r_cmachines, .ref r_ctape, .int (nI 0), .int (-2), .int (nI 60000), .ref r_cstock, .ref r_csizes, .ref r_cmet, .ref r_cfound, .int (nI 0), .ref r_cdraft, .int (nI 0), .int (nI 0), .ref r_cfewestFor, .ref r_cfewestNext])), (h0X, .inr (14, fsX))]) (hS : va_S A s.heap H locs) (hl : lv_has ls 4 [(0, .ref b), (1, .ref h0), (2, .ref h0X), (3, .int (nI 0))]) : W p l e room_1 s m #[Value.ref b] below meth c H locs 702 488194 (lw_Z below #[Value.ref b] s) (F0 m 1626 ls []) := by
  refine lv_aload_n G.1 G.2.1 d_Law_1626 rfl (lv_at hl 1 rfl) ?_
  refine lv_aload_n G.1 G.2.1 d_Law_1627 rfl (lv_at hl 0 rfl) ?_
  refine lv_iload_n G.1 G.2.1 d_Law_1628 rfl (lv_at hl 3 rfl) ?_
  refine lv_iconst (v := nI 1) G.1 G.2.1 d_Law_1629 (by decide) ?_
  refine lv_iadd G.1 G.2.1 d_Law_1630 ?_
  refine tpi (w := nI 1) (by decide) ?_
  refine va_sld G.1 G.2.1 hX hbl hbA hS (nI_inn (n := 6) (a := 1) (by decide) (by decide)) d_Law_1631 ?_
  refine tpi (w := (xs 1)) (by rw [nI_clamp (by decide)]) ?_
  refine lv_aload_n G.1 G.2.1 d_Law_1632 rfl (lv_at hl 0 rfl) ?_
  refine lv_iload_n G.1 G.2.1 d_Law_1633 rfl (lv_at hl 3 rfl) ?_
  refine lv_iconst (v := nI 2) G.1 G.2.1 d_Law_1634 (by decide) ?_
  refine lv_iadd G.1 G.2.1 d_Law_1635 ?_
  refine tpi (w := nI 2) (by decide) ?_
  refine va_sld G.1 G.2.1 hX hbl hbA hS (nI_inn (n := 6) (a := 2) (by decide) (by decide)) d_Law_1636 ?_
  refine tpi (w := (xs 2)) (by rw [nI_clamp (by decide)]) ?_
  refine W.eq (g2 := F0 m 1637 ls [.int (xs 2), .int (xs 1), .ref h0]) rfl ?_
  refine kEi (wr := [(h0X, .inr (14, fsX))]) G (kV (As := [.int (xs 1), .int (xs 2)]) (rest := []) G hP hD hS [0] rfl rfl (c_Cw_shrink l D g h0 (xs 1) (xs 2) r_cwords r_creader r_cchecker r_cfinder r_cwriter r_cmachines r_ctape r_cstock r_csizes r_cmet r_cfound r_cdraft r_cfewestFor r_cfewestNext H.size ) w_Cw_shrink q2538 rfl rfl ⟨Nat.le_of_ble_eq_true rfl, Nat.le_of_ble_eq_true rfl⟩ (fun _ h => absurd h List.not_mem_nil) 0 (ci := 11) rfl rfl rfl hl.1 rfl (Nat.le_of_ble_eq_true rfl) rfl ⟨Nat.le_of_ble_eq_true rfl, (Nat.le_of_ble_eq_true rfl)⟩ d_Law_1637) hP hD hS [0] [1] rfl rfl rfl rfl (fun r_1 u_2 H locs hw hP hD hS hzH => ?_)
  have hw : r_1 = (-1) := hw
  have hP : va_P D CL [(h0X, .inr (14, fsX))] H := hP
  have hD : va_D A [(h0X, .inr (14, fsX))] := hD
  subst hw
  refine tpst (w := [.int (-1)]) rfl ?_
  refine lv_aload_n G.1 G.2.1 d_Law_1640 rfl (lv_at hl 2 rfl) ?_
  refine lv_aload_n G.1 G.2.1 d_Law_1641 rfl (lv_at hl 0 rfl) ?_
  refine lv_iload_n G.1 G.2.1 d_Law_1642 rfl (lv_at hl 3 rfl) ?_
  refine lv_iconst (v := nI 1) G.1 G.2.1 d_Law_1643 (by decide) ?_
  refine lv_iadd G.1 G.2.1 d_Law_1644 ?_
  refine tpi (w := nI 1) (by decide) ?_
  refine va_sld G.1 G.2.1 hX hbl hbA hS (nI_inn (n := 6) (a := 1) (by decide) (by decide)) d_Law_1645 ?_
  refine tpi (w := (xs 1)) (by rw [nI_clamp (by decide)]) ?_
  refine lv_aload_n G.1 G.2.1 d_Law_1646 rfl (lv_at hl 0 rfl) ?_
  refine lv_iload_n G.1 G.2.1 d_Law_1647 rfl (lv_at hl 3 rfl) ?_
  refine lv_iconst (v := nI 2) G.1 G.2.1 d_Law_1648 (by decide) ?_
  refine lv_iadd G.1 G.2.1 d_Law_1649 ?_
  refine tpi (w := nI 2) (by decide) ?_
  refine va_sld G.1 G.2.1 hX hbl hbA hS (nI_inn (n := 6) (a := 2) (by decide) (by decide)) d_Law_1650 ?_
  refine tpi (w := (xs 2)) (by rw [nI_clamp (by decide)]) ?_
  refine W.eq (g2 := F0 m 1651 ls [.int (xs 2), .int (xs 1), .ref h0X, .int (-1)]) rfl ?_
  refine kEi (wr := []) G (kV (As := [.int (xs 1), .int (xs 2)]) (rest := [.int (-1)]) G hP hD hS [0] rfl rfl (c_Mo_shrink l D g h0X (xs 1) (xs 2) fsX H.size glenX gk0X) w_Mo_shrink q4271 rfl rfl ⟨Nat.le_of_ble_eq_true rfl, Nat.le_of_ble_eq_true rfl⟩ (fun _ h => absurd h List.not_mem_nil) 0 (ci := 14) rfl rfl rfl hl.1 rfl (Nat.le_of_ble_eq_true rfl) rfl ⟨Nat.le_of_ble_eq_true rfl, (Nat.le_of_ble_eq_true rfl)⟩ d_Law_1651) hP hD hS [0] [] rfl rfl rfl rfl (fun r_3 u_4 H locs hw hP hD hS hzH => ?_)
  have hw : r_3 = (-1) := hw
  have hP : va_P D CL [] H := hP
  have hD : va_D A [] := hD
  subst hw
  refine tpst (w := [.int (-1), .int (-1)]) rfl ?_
  refine lv_icmp_eq (tgt := 1768) G.1 G.2.1 d_Law_1654 (by decide) (fun c1654 => ?_) (fun c1654 => absurd c1654 (fun h => h rfl))
  refine lv_iinc (v := nI 6) (lv' := [(3, .int (nI 6)), (0, .ref b), (1, .ref h0), (2, .ref h0X)]) G.1 G.2.1 d_Law_1768 hl (k := 3) rfl (show (nI 0) + Int32.ofInt 6 = nI 6 from by decide) (by decide) rfl (fun ls hl => ?_)
  refine lv_goto (tgt := 18) G.1 G.2.1 d_Law_1771 (by decide) ?_
  refine lv_iload_n G.1 G.2.1 d_Law_18 rfl (lv_at hl 0 rfl) ?_
  refine lv_aload_n G.1 G.2.1 d_Law_19 rfl (lv_at hl 1 rfl) ?_
  refine va_slen G.1 G.2.1 hX hbl hbA hS d_Law_20 ?_
  refine tpi (w := nI 6) rfl ?_
  refine lv_bipush (v := nI 6) G.1 G.2.1 d_Law_21 (by decide) ?_
  refine lv_isub G.1 G.2.1 d_Law_23 ?_
  refine tpi (w := nI 0) (by decide) ?_
  refine lv_icmp_gt (tgt := 1774) G.1 G.2.1 d_Law_24 (by decide) (fun c24 => ?_) (fun c24 => absurd c24 (by decide))
  refine lv_iconst (v := nI 1) G.1 G.2.1 d_Law_1774 (by decide) ?_
  refine va_forget (fun q hq => hAA _ (hS.2.2 q hq)) ?_
  refine W.widen (k := 600002) (n := 7302232) (Nat.le_of_ble_eq_true rfl) (Nat.le_of_ble_eq_true rfl) ?_
  exact lw_ret G.1 G.2.1 G.2.2.2.1 G.2.2.2.2.1 d_Law_1775
theorem q2557 : Cond.code y_Cw_change b_Cw_change 8 (some .int) ∈ lw_ok := lw_okmem (List.mem_of_getElem? (i := 2557) (by decide +kernel)) rfl
theorem q2555 : Cond.instanceMethod y_Cw_change ∈ lw_ok := lw_okmem (List.mem_of_getElem? (i := 2555) (by decide +kernel)) rfl
theorem q2556 : Cond.selects y_Cw_change.cls y_Cw_change y_Cw_change ∈ lw_ok := lw_okmem (List.mem_of_getElem? (i := 2556) (by decide +kernel)) rfl
theorem w_Cw_change : CWv y_Cw_change b_Cw_change 8 (some .int) 4 ∧ Cond.instanceMethod y_Cw_change ∈ lw_ok ∧ Cond.selects y_Cw_change.cls y_Cw_change y_Cw_change ∈ lw_ok := ⟨⟨q2557, q329, by decide +kernel, by decide +kernel, by decide +kernel⟩, q2555, q2556⟩
theorem q2554 : Cond.methodLink "ClassWorksLaw" 185 y_Cw_change ∈ lw_ok := lw_okmem (List.mem_of_getElem? (i := 2554) (by decide +kernel)) rfl
theorem q4286 : Cond.code y_Mo_change b_Mo_change 10 (some .int) ∈ lw_ok := lw_okmem (List.mem_of_getElem? (i := 4286) (by decide +kernel)) rfl
theorem q4284 : Cond.instanceMethod y_Mo_change ∈ lw_ok := lw_okmem (List.mem_of_getElem? (i := 4284) (by decide +kernel)) rfl
theorem q4285 : Cond.selects y_Mo_change.cls y_Mo_change y_Mo_change ∈ lw_ok := lw_okmem (List.mem_of_getElem? (i := 4285) (by decide +kernel)) rfl
theorem w_Mo_change : CWv y_Mo_change b_Mo_change 10 (some .int) 4 ∧ Cond.instanceMethod y_Mo_change ∈ lw_ok ∧ Cond.selects y_Mo_change.cls y_Mo_change y_Mo_change ∈ lw_ok := ⟨⟨q4286, q348, by decide +kernel, by decide +kernel, by decide +kernel⟩, q4284, q4285⟩
theorem q4283 : Cond.methodLink "ClassWorksLaw" 188 y_Mo_change ∈ lw_ok := lw_okmem (List.mem_of_getElem? (i := 4283) (by decide +kernel)) rfl
theorem d_Law_1659 : decode code 1659 = .ok (.aload_n 1, 1) := by decide +kernel
theorem d_Law_1660 : decode code 1660 = .ok (.aload_n 0, 1) := by decide +kernel
theorem d_Law_1661 : decode code 1661 = .ok (.iload_n 3, 1) := by decide +kernel
theorem d_Law_1662 : decode code 1662 = .ok (.iconst 1, 1) := by decide +kernel
theorem d_Law_1663 : decode code 1663 = .ok (.iadd, 1) := by decide +kernel
theorem d_Law_1664 : decode code 1664 = .ok (.iaload, 1) := by decide +kernel
theorem d_Law_1665 : decode code 1665 = .ok (.aload_n 0, 1) := by decide +kernel
theorem d_Law_1666 : decode code 1666 = .ok (.iload_n 3, 1) := by decide +kernel
theorem d_Law_1667 : decode code 1667 = .ok (.iconst 2, 1) := by decide +kernel
theorem d_Law_1668 : decode code 1668 = .ok (.iadd, 1) := by decide +kernel
theorem d_Law_1669 : decode code 1669 = .ok (.iaload, 1) := by decide +kernel
theorem d_Law_1670 : decode code 1670 = .ok (.aload_n 0, 1) := by decide +kernel
theorem d_Law_1671 : decode code 1671 = .ok (.iload_n 3, 1) := by decide +kernel
theorem d_Law_1672 : decode code 1672 = .ok (.iconst 3, 1) := by decide +kernel
theorem d_Law_1673 : decode code 1673 = .ok (.iadd, 1) := by decide +kernel
theorem d_Law_1674 : decode code 1674 = .ok (.iaload, 1) := by decide +kernel
theorem d_Law_1675 : decode code 1675 = .ok (.aload_n 0, 1) := by decide +kernel
theorem d_Law_1676 : decode code 1676 = .ok (.iload_n 3, 1) := by decide +kernel
theorem d_Law_1677 : decode code 1677 = .ok (.iconst 4, 1) := by decide +kernel
theorem d_Law_1678 : decode code 1678 = .ok (.iadd, 1) := by decide +kernel
theorem d_Law_1679 : decode code 1679 = .ok (.iaload, 1) := by decide +kernel
theorem d_Law_1680 : decode code 1680 = .ok (.invokevirtual 185, 3) := by decide +kernel
theorem d_Law_1683 : decode code 1683 = .ok (.aload_n 2, 1) := by decide +kernel
theorem d_Law_1684 : decode code 1684 = .ok (.aload_n 0, 1) := by decide +kernel
theorem d_Law_1685 : decode code 1685 = .ok (.iload_n 3, 1) := by decide +kernel
theorem d_Law_1686 : decode code 1686 = .ok (.iconst 1, 1) := by decide +kernel
theorem d_Law_1687 : decode code 1687 = .ok (.iadd, 1) := by decide +kernel
theorem d_Law_1688 : decode code 1688 = .ok (.iaload, 1) := by decide +kernel
theorem d_Law_1689 : decode code 1689 = .ok (.aload_n 0, 1) := by decide +kernel
theorem d_Law_1690 : decode code 1690 = .ok (.iload_n 3, 1) := by decide +kernel
theorem d_Law_1691 : decode code 1691 = .ok (.iconst 2, 1) := by decide +kernel
theorem d_Law_1692 : decode code 1692 = .ok (.iadd, 1) := by decide +kernel
theorem d_Law_1693 : decode code 1693 = .ok (.iaload, 1) := by decide +kernel
theorem d_Law_1694 : decode code 1694 = .ok (.aload_n 0, 1) := by decide +kernel
theorem d_Law_1695 : decode code 1695 = .ok (.iload_n 3, 1) := by decide +kernel
theorem d_Law_1696 : decode code 1696 = .ok (.iconst 3, 1) := by decide +kernel
theorem d_Law_1697 : decode code 1697 = .ok (.iadd, 1) := by decide +kernel
theorem d_Law_1698 : decode code 1698 = .ok (.iaload, 1) := by decide +kernel
theorem d_Law_1699 : decode code 1699 = .ok (.aload_n 0, 1) := by decide +kernel
theorem d_Law_1700 : decode code 1700 = .ok (.iload_n 3, 1) := by decide +kernel
theorem d_Law_1701 : decode code 1701 = .ok (.iconst 4, 1) := by decide +kernel
theorem d_Law_1702 : decode code 1702 = .ok (.iadd, 1) := by decide +kernel
theorem d_Law_1703 : decode code 1703 = .ok (.iaload, 1) := by decide +kernel
theorem d_Law_1704 : decode code 1704 = .ok (.invokevirtual 188, 3) := by decide +kernel
theorem d_Law_1707 : decode code 1707 = .ok (.if_icmp .eq 61, 3) := by decide +kernel
set_option maxHeartbeats 4000000 in
set_option maxRecDepth 100000 in
theorem law_change {p : Program} {e : Env} {s : State} {m : MethodId} {below : List Frame} {meth : Method} {c : Code} {l : Launch} {D : va_G} {g : Nat → ClassId} {sl : List SL} {b : Nat} {xs : Nat → Int32} {A : Nat → Prop} (h0 : Nat) (r_cwords : Nat) (r_creader : Nat) (r_cchecker : Nat) (r_cfinder : Nat) (r_cwriter : Nat) (r_cmachines : Nat) (r_ctape : Nat) (r_cstock : Nat) (r_csizes : Nat) (r_cmet : Nat) (r_cfound : Nat) (r_cdraft : Nat) (r_cfewestFor : Nat) (r_cfewestNext : Nat) (h0X : Nat) (fsX : List Value) (G : GV l p s m #[Value.ref b] meth c (⟨"ClassWorksLaw", meth.name, ""⟩ : MethodName) code 4 ret g D sl A) (hX : va_X b 6 xs s s.heap) (hbl : b < s.heap.size) (hbA : ¬ A b) (hAA : ∀ q, A q → s.heap.size ≤ q) {H : Heap} {locs : List Loc} {ls : Array Slot} (glenX : fsX.length = 131) (gk0X : fsX[121]? = some (.int (nI 0))) (hP : va_P D CL [(h0, .inr (11, [.ref r_cwords, .ref r_creader, .ref r_cchecker, .ref r_cfinder, .ref r_cwriter, .ref r_cmachines, .ref r_ctape, .int (nI 0), .int (-2), .int (nI 60000), .ref r_cstock, .ref r_csizes, .ref r_cmet, .ref r_cfound, .int (nI 0), .ref r_cdraft, .int (nI 0), .int (nI 0), .ref r_cfewestFor, .ref r_cfewestNext])), (h0X, .inr (14, fsX))] H) (hD : va_D A [(h0, .inr (11, [.ref r_cwords, .ref r_creader, .ref r_cchecker, .ref r_cfinder, .ref r_cwriter, .ref r_cmachines, .ref r_ctape, .int (nI 0), .int (-2), .int (nI 60000), .ref r_cstock, .ref r_csizes, .ref r_cmet, .ref r_cfound, .int (nI 0), .ref r_cdraft, .int (nI 0), .int (nI 0), .ref r_cfewestFor, .ref r_cfewestNext])), (h0X, .inr (14, fsX))]) (hS : va_S A s.heap H locs) (hl : lv_has ls 4 [(0, .ref b), (1, .ref h0), (2, .ref h0X), (3, .int (nI 0))]) : W p l e room_1 s m #[Value.ref b] below meth c H locs 702 488194 (lw_Z below #[Value.ref b] s) (F0 m 1659 ls []) := by
  refine lv_aload_n G.1 G.2.1 d_Law_1659 rfl (lv_at hl 1 rfl) ?_
  refine lv_aload_n G.1 G.2.1 d_Law_1660 rfl (lv_at hl 0 rfl) ?_
  refine lv_iload_n G.1 G.2.1 d_Law_1661 rfl (lv_at hl 3 rfl) ?_
  refine lv_iconst (v := nI 1) G.1 G.2.1 d_Law_1662 (by decide) ?_
  refine lv_iadd G.1 G.2.1 d_Law_1663 ?_
  refine tpi (w := nI 1) (by decide) ?_
  refine va_sld G.1 G.2.1 hX hbl hbA hS (nI_inn (n := 6) (a := 1) (by decide) (by decide)) d_Law_1664 ?_
  refine tpi (w := (xs 1)) (by rw [nI_clamp (by decide)]) ?_
  refine lv_aload_n G.1 G.2.1 d_Law_1665 rfl (lv_at hl 0 rfl) ?_
  refine lv_iload_n G.1 G.2.1 d_Law_1666 rfl (lv_at hl 3 rfl) ?_
  refine lv_iconst (v := nI 2) G.1 G.2.1 d_Law_1667 (by decide) ?_
  refine lv_iadd G.1 G.2.1 d_Law_1668 ?_
  refine tpi (w := nI 2) (by decide) ?_
  refine va_sld G.1 G.2.1 hX hbl hbA hS (nI_inn (n := 6) (a := 2) (by decide) (by decide)) d_Law_1669 ?_
  refine tpi (w := (xs 2)) (by rw [nI_clamp (by decide)]) ?_
  refine W.eq (g2 := F0 m 1670 ls [.int (xs 2), .int (xs 1), .ref h0]) rfl ?_
  refine lv_aload_n G.1 G.2.1 d_Law_1670 rfl (lv_at hl 0 rfl) ?_
  refine lv_iload_n G.1 G.2.1 d_Law_1671 rfl (lv_at hl 3 rfl) ?_
  refine lv_iconst (v := nI 3) G.1 G.2.1 d_Law_1672 (by decide) ?_
  refine lv_iadd G.1 G.2.1 d_Law_1673 ?_
  refine tpi (w := nI 3) (by decide) ?_
  refine va_sld G.1 G.2.1 hX hbl hbA hS (nI_inn (n := 6) (a := 3) (by decide) (by decide)) d_Law_1674 ?_
  refine tpi (w := (xs 3)) (by rw [nI_clamp (by decide)]) ?_
  refine lv_aload_n G.1 G.2.1 d_Law_1675 rfl (lv_at hl 0 rfl) ?_
  refine lv_iload_n G.1 G.2.1 d_Law_1676 rfl (lv_at hl 3 rfl) ?_
  refine lv_iconst (v := nI 4) G.1 G.2.1 d_Law_1677 (by decide) ?_
  refine lv_iadd G.1 G.2.1 d_Law_1678 ?_
  refine tpi (w := nI 4) (by decide) ?_
  refine va_sld G.1 G.2.1 hX hbl hbA hS (nI_inn (n := 6) (a := 4) (by decide) (by decide)) d_Law_1679 ?_
  refine tpi (w := (xs 4)) (by rw [nI_clamp (by decide)]) ?_
  refine kEi (wr := [(h0X, .inr (14, fsX))]) G (kV (As := [.int (xs 1), .int (xs 2), .int (xs 3), .int (xs 4)]) (rest := []) G hP hD hS [0] rfl rfl (c_Cw_change l D g h0 (xs 1) (xs 2) (xs 3) (xs 4) r_cwords r_creader r_cchecker r_cfinder r_cwriter r_cmachines r_ctape r_cstock r_csizes r_cmet r_cfound r_cdraft r_cfewestFor r_cfewestNext H.size ) w_Cw_change q2554 rfl rfl ⟨Nat.le_of_ble_eq_true rfl, Nat.le_of_ble_eq_true rfl⟩ (fun _ h => absurd h List.not_mem_nil) 0 (ci := 11) rfl rfl rfl hl.1 rfl (Nat.le_of_ble_eq_true rfl) rfl ⟨Nat.le_of_ble_eq_true rfl, (Nat.le_of_ble_eq_true rfl)⟩ d_Law_1680) hP hD hS [0] [1] rfl rfl rfl rfl (fun r_1 u_2 H locs hw hP hD hS hzH => ?_)
  have hw : r_1 = (-1) := hw
  have hP : va_P D CL [(h0X, .inr (14, fsX))] H := hP
  have hD : va_D A [(h0X, .inr (14, fsX))] := hD
  subst hw
  refine tpst (w := [.int (-1)]) rfl ?_
  refine lv_aload_n G.1 G.2.1 d_Law_1683 rfl (lv_at hl 2 rfl) ?_
  refine W.eq (g2 := F0 m 1684 ls [.ref h0X, .int (-1)]) rfl ?_
  refine lv_aload_n G.1 G.2.1 d_Law_1684 rfl (lv_at hl 0 rfl) ?_
  refine lv_iload_n G.1 G.2.1 d_Law_1685 rfl (lv_at hl 3 rfl) ?_
  refine lv_iconst (v := nI 1) G.1 G.2.1 d_Law_1686 (by decide) ?_
  refine lv_iadd G.1 G.2.1 d_Law_1687 ?_
  refine tpi (w := nI 1) (by decide) ?_
  refine va_sld G.1 G.2.1 hX hbl hbA hS (nI_inn (n := 6) (a := 1) (by decide) (by decide)) d_Law_1688 ?_
  refine tpi (w := (xs 1)) (by rw [nI_clamp (by decide)]) ?_
  refine lv_aload_n G.1 G.2.1 d_Law_1689 rfl (lv_at hl 0 rfl) ?_
  refine lv_iload_n G.1 G.2.1 d_Law_1690 rfl (lv_at hl 3 rfl) ?_
  refine lv_iconst (v := nI 2) G.1 G.2.1 d_Law_1691 (by decide) ?_
  refine lv_iadd G.1 G.2.1 d_Law_1692 ?_
  refine tpi (w := nI 2) (by decide) ?_
  refine va_sld G.1 G.2.1 hX hbl hbA hS (nI_inn (n := 6) (a := 2) (by decide) (by decide)) d_Law_1693 ?_
  refine tpi (w := (xs 2)) (by rw [nI_clamp (by decide)]) ?_
  refine lv_aload_n G.1 G.2.1 d_Law_1694 rfl (lv_at hl 0 rfl) ?_
  refine lv_iload_n G.1 G.2.1 d_Law_1695 rfl (lv_at hl 3 rfl) ?_
  refine W.eq (g2 := F0 m 1696 ls [.int (nI 0), .ref b, .int (xs 2), .int (xs 1), .ref h0X, .int (-1)]) rfl ?_
  refine lv_iconst (v := nI 3) G.1 G.2.1 d_Law_1696 (by decide) ?_
  refine lv_iadd G.1 G.2.1 d_Law_1697 ?_
  refine tpi (w := nI 3) (by decide) ?_
  refine va_sld G.1 G.2.1 hX hbl hbA hS (nI_inn (n := 6) (a := 3) (by decide) (by decide)) d_Law_1698 ?_
  refine tpi (w := (xs 3)) (by rw [nI_clamp (by decide)]) ?_
  refine lv_aload_n G.1 G.2.1 d_Law_1699 rfl (lv_at hl 0 rfl) ?_
  refine lv_iload_n G.1 G.2.1 d_Law_1700 rfl (lv_at hl 3 rfl) ?_
  refine lv_iconst (v := nI 4) G.1 G.2.1 d_Law_1701 (by decide) ?_
  refine lv_iadd G.1 G.2.1 d_Law_1702 ?_
  refine tpi (w := nI 4) (by decide) ?_
  refine va_sld G.1 G.2.1 hX hbl hbA hS (nI_inn (n := 6) (a := 4) (by decide) (by decide)) d_Law_1703 ?_
  refine tpi (w := (xs 4)) (by rw [nI_clamp (by decide)]) ?_
  refine kEi (wr := []) G (kV (As := [.int (xs 1), .int (xs 2), .int (xs 3), .int (xs 4)]) (rest := [.int (-1)]) G hP hD hS [0] rfl rfl (c_Mo_change l D g h0X (xs 1) (xs 2) (xs 3) (xs 4) fsX H.size glenX gk0X) w_Mo_change q4283 rfl rfl ⟨Nat.le_of_ble_eq_true rfl, Nat.le_of_ble_eq_true rfl⟩ (fun _ h => absurd h List.not_mem_nil) 0 (ci := 14) rfl rfl rfl hl.1 rfl (Nat.le_of_ble_eq_true rfl) rfl ⟨Nat.le_of_ble_eq_true rfl, (Nat.le_of_ble_eq_true rfl)⟩ d_Law_1704) hP hD hS [0] [] rfl rfl rfl rfl (fun r_3 u_4 H locs hw hP hD hS hzH => ?_)
  have hw : r_3 = (-1) := hw
  have hP : va_P D CL [] H := hP
  have hD : va_D A [] := hD
  subst hw
  refine tpst (w := [.int (-1), .int (-1)]) rfl ?_
  refine lv_icmp_eq (tgt := 1768) G.1 G.2.1 d_Law_1707 (by decide) (fun c1707 => ?_) (fun c1707 => absurd c1707 (fun h => h rfl))
  refine lv_iinc (v := nI 6) (lv' := [(3, .int (nI 6)), (0, .ref b), (1, .ref h0), (2, .ref h0X)]) G.1 G.2.1 d_Law_1768 hl (k := 3) rfl (show (nI 0) + Int32.ofInt 6 = nI 6 from by decide) (by decide) rfl (fun ls hl => ?_)
  refine lv_goto (tgt := 18) G.1 G.2.1 d_Law_1771 (by decide) ?_
  refine W.eq (g2 := F0 m 18 ls []) rfl ?_
  refine lv_iload_n G.1 G.2.1 d_Law_18 rfl (lv_at hl 0 rfl) ?_
  refine lv_aload_n G.1 G.2.1 d_Law_19 rfl (lv_at hl 1 rfl) ?_
  refine va_slen G.1 G.2.1 hX hbl hbA hS d_Law_20 ?_
  refine tpi (w := nI 6) rfl ?_
  refine lv_bipush (v := nI 6) G.1 G.2.1 d_Law_21 (by decide) ?_
  refine lv_isub G.1 G.2.1 d_Law_23 ?_
  refine tpi (w := nI 0) (by decide) ?_
  refine lv_icmp_gt (tgt := 1774) G.1 G.2.1 d_Law_24 (by decide) (fun c24 => ?_) (fun c24 => absurd c24 (by decide))
  refine lv_iconst (v := nI 1) G.1 G.2.1 d_Law_1774 (by decide) ?_
  refine va_forget (fun q hq => hAA _ (hS.2.2 q hq)) ?_
  refine W.widen (k := 600002) (n := 7302232) (Nat.le_of_ble_eq_true rfl) (Nat.le_of_ble_eq_true rfl) ?_
  exact lw_ret G.1 G.2.1 G.2.2.2.1 G.2.2.2.2.1 d_Law_1775
theorem q2565 : Cond.code y_Cw_text b_Cw_text 3 (some .int) ∈ lw_ok := lw_okmem (List.mem_of_getElem? (i := 2565) (by decide +kernel)) rfl
theorem q2563 : Cond.instanceMethod y_Cw_text ∈ lw_ok := lw_okmem (List.mem_of_getElem? (i := 2563) (by decide +kernel)) rfl
theorem q2564 : Cond.selects y_Cw_text.cls y_Cw_text y_Cw_text ∈ lw_ok := lw_okmem (List.mem_of_getElem? (i := 2564) (by decide +kernel)) rfl
theorem w_Cw_text : CWv y_Cw_text b_Cw_text 3 (some .int) 2 ∧ Cond.instanceMethod y_Cw_text ∈ lw_ok ∧ Cond.selects y_Cw_text.cls y_Cw_text y_Cw_text ∈ lw_ok := ⟨⟨q2565, q329, by decide +kernel, by decide +kernel, by decide +kernel⟩, q2563, q2564⟩
theorem q2562 : Cond.methodLink "ClassWorksLaw" 189 y_Cw_text ∈ lw_ok := lw_okmem (List.mem_of_getElem? (i := 2562) (by decide +kernel)) rfl
theorem q4290 : Cond.code y_Mo_text b_Mo_text 3 (some .int) ∈ lw_ok := lw_okmem (List.mem_of_getElem? (i := 4290) (by decide +kernel)) rfl
theorem q4288 : Cond.instanceMethod y_Mo_text ∈ lw_ok := lw_okmem (List.mem_of_getElem? (i := 4288) (by decide +kernel)) rfl
theorem q4289 : Cond.selects y_Mo_text.cls y_Mo_text y_Mo_text ∈ lw_ok := lw_okmem (List.mem_of_getElem? (i := 4289) (by decide +kernel)) rfl
theorem w_Mo_text : CWv y_Mo_text b_Mo_text 3 (some .int) 2 ∧ Cond.instanceMethod y_Mo_text ∈ lw_ok ∧ Cond.selects y_Mo_text.cls y_Mo_text y_Mo_text ∈ lw_ok := ⟨⟨q4290, q348, by decide +kernel, by decide +kernel, by decide +kernel⟩, q4288, q4289⟩
theorem q4287 : Cond.methodLink "ClassWorksLaw" 192 y_Mo_text ∈ lw_ok := lw_okmem (List.mem_of_getElem? (i := 4287) (by decide +kernel)) rfl
theorem d_Law_1712 : decode code 1712 = .ok (.aload_n 1, 1) := by decide +kernel
theorem d_Law_1713 : decode code 1713 = .ok (.aload_n 0, 1) := by decide +kernel
theorem d_Law_1714 : decode code 1714 = .ok (.iload_n 3, 1) := by decide +kernel
theorem d_Law_1715 : decode code 1715 = .ok (.iconst 1, 1) := by decide +kernel
theorem d_Law_1716 : decode code 1716 = .ok (.iadd, 1) := by decide +kernel
theorem d_Law_1717 : decode code 1717 = .ok (.iaload, 1) := by decide +kernel
theorem d_Law_1718 : decode code 1718 = .ok (.aload_n 0, 1) := by decide +kernel
theorem d_Law_1719 : decode code 1719 = .ok (.iload_n 3, 1) := by decide +kernel
theorem d_Law_1720 : decode code 1720 = .ok (.iconst 2, 1) := by decide +kernel
theorem d_Law_1721 : decode code 1721 = .ok (.iadd, 1) := by decide +kernel
theorem d_Law_1722 : decode code 1722 = .ok (.iaload, 1) := by decide +kernel
theorem d_Law_1723 : decode code 1723 = .ok (.invokevirtual 189, 3) := by decide +kernel
theorem d_Law_1726 : decode code 1726 = .ok (.aload_n 2, 1) := by decide +kernel
theorem d_Law_1727 : decode code 1727 = .ok (.aload_n 0, 1) := by decide +kernel
theorem d_Law_1728 : decode code 1728 = .ok (.iload_n 3, 1) := by decide +kernel
theorem d_Law_1729 : decode code 1729 = .ok (.iconst 1, 1) := by decide +kernel
theorem d_Law_1730 : decode code 1730 = .ok (.iadd, 1) := by decide +kernel
theorem d_Law_1731 : decode code 1731 = .ok (.iaload, 1) := by decide +kernel
theorem d_Law_1732 : decode code 1732 = .ok (.aload_n 0, 1) := by decide +kernel
theorem d_Law_1733 : decode code 1733 = .ok (.iload_n 3, 1) := by decide +kernel
theorem d_Law_1734 : decode code 1734 = .ok (.iconst 2, 1) := by decide +kernel
theorem d_Law_1735 : decode code 1735 = .ok (.iadd, 1) := by decide +kernel
theorem d_Law_1736 : decode code 1736 = .ok (.iaload, 1) := by decide +kernel
theorem d_Law_1737 : decode code 1737 = .ok (.invokevirtual 192, 3) := by decide +kernel
theorem d_Law_1740 : decode code 1740 = .ok (.if_icmp .eq 28, 3) := by decide +kernel
set_option maxHeartbeats 4000000 in
set_option maxRecDepth 100000 in
theorem law_text {p : Program} {e : Env} {s : State} {m : MethodId} {below : List Frame} {meth : Method} {c : Code} {l : Launch} {D : va_G} {g : Nat → ClassId} {sl : List SL} {b : Nat} {xs : Nat → Int32} {A : Nat → Prop} (h0 : Nat) (r_cwords : Nat) (r_creader : Nat) (r_cchecker : Nat) (r_cfinder : Nat) (r_cwriter : Nat) (r_cmachines : Nat) (r_ctape : Nat) (r_cstock : Nat) (r_csizes : Nat) (r_cmet : Nat) (r_cfound : Nat) (r_cdraft : Nat) (r_cfewestFor : Nat) (r_cfewestNext : Nat) (h0X : Nat) (fsX : List Value) (G : GV l p s m #[Value.ref b] meth c (⟨"ClassWorksLaw", meth.name, ""⟩ : MethodName) code 4 ret g D sl A) (hX : va_X b 6 xs s s.heap) (hbl : b < s.heap.size) (hbA : ¬ A b) (hAA : ∀ q, A q → s.heap.size ≤ q) {H : Heap} {locs : List Loc} {ls : Array Slot} (glenX : fsX.length = 131) (gk0X : fsX[121]? = some (.int (nI 0))) (hP : va_P D CL [(h0, .inr (11, [.ref r_cwords, .ref r_creader, .ref r_cchecker, .ref r_cfinder, .ref r_cwriter, .ref r_cmachines, .ref r_ctape, .int (nI 0), .int (-2), .int (nI 60000), .ref r_cstock, .ref r_csizes, .ref r_cmet, .ref r_cfound, .int (nI 0), .ref r_cdraft, .int (nI 0), .int (nI 0), .ref r_cfewestFor, .ref r_cfewestNext])), (h0X, .inr (14, fsX))] H) (hD : va_D A [(h0, .inr (11, [.ref r_cwords, .ref r_creader, .ref r_cchecker, .ref r_cfinder, .ref r_cwriter, .ref r_cmachines, .ref r_ctape, .int (nI 0), .int (-2), .int (nI 60000), .ref r_cstock, .ref r_csizes, .ref r_cmet, .ref r_cfound, .int (nI 0), .ref r_cdraft, .int (nI 0), .int (nI 0), .ref r_cfewestFor, .ref r_cfewestNext])), (h0X, .inr (14, fsX))]) (hS : va_S A s.heap H locs) (hl : lv_has ls 4 [(0, .ref b), (1, .ref h0), (2, .ref h0X), (3, .int (nI 0))]) : W p l e room_1 s m #[Value.ref b] below meth c H locs 702 488194 (lw_Z below #[Value.ref b] s) (F0 m 1712 ls []) := by
  refine lv_aload_n G.1 G.2.1 d_Law_1712 rfl (lv_at hl 1 rfl) ?_
  refine lv_aload_n G.1 G.2.1 d_Law_1713 rfl (lv_at hl 0 rfl) ?_
  refine lv_iload_n G.1 G.2.1 d_Law_1714 rfl (lv_at hl 3 rfl) ?_
  refine lv_iconst (v := nI 1) G.1 G.2.1 d_Law_1715 (by decide) ?_
  refine lv_iadd G.1 G.2.1 d_Law_1716 ?_
  refine tpi (w := nI 1) (by decide) ?_
  refine va_sld G.1 G.2.1 hX hbl hbA hS (nI_inn (n := 6) (a := 1) (by decide) (by decide)) d_Law_1717 ?_
  refine tpi (w := (xs 1)) (by rw [nI_clamp (by decide)]) ?_
  refine lv_aload_n G.1 G.2.1 d_Law_1718 rfl (lv_at hl 0 rfl) ?_
  refine lv_iload_n G.1 G.2.1 d_Law_1719 rfl (lv_at hl 3 rfl) ?_
  refine lv_iconst (v := nI 2) G.1 G.2.1 d_Law_1720 (by decide) ?_
  refine lv_iadd G.1 G.2.1 d_Law_1721 ?_
  refine tpi (w := nI 2) (by decide) ?_
  refine va_sld G.1 G.2.1 hX hbl hbA hS (nI_inn (n := 6) (a := 2) (by decide) (by decide)) d_Law_1722 ?_
  refine tpi (w := (xs 2)) (by rw [nI_clamp (by decide)]) ?_
  refine W.eq (g2 := F0 m 1723 ls [.int (xs 2), .int (xs 1), .ref h0]) rfl ?_
  refine kEi (wr := [(h0X, .inr (14, fsX))]) G (kV (As := [.int (xs 1), .int (xs 2)]) (rest := []) G hP hD hS [0] rfl rfl (c_Cw_text l D g h0 (xs 1) (xs 2) r_cwords r_creader r_cchecker r_cfinder r_cwriter r_cmachines r_ctape r_cstock r_csizes r_cmet r_cfound r_cdraft r_cfewestFor r_cfewestNext H.size ) w_Cw_text q2562 rfl rfl ⟨Nat.le_of_ble_eq_true rfl, Nat.le_of_ble_eq_true rfl⟩ (fun _ h => absurd h List.not_mem_nil) 0 (ci := 11) rfl rfl rfl hl.1 rfl (Nat.le_of_ble_eq_true rfl) rfl ⟨Nat.le_of_ble_eq_true rfl, (Nat.le_of_ble_eq_true rfl)⟩ d_Law_1723) hP hD hS [0] [1] rfl rfl rfl rfl (fun r_1 u_2 H locs hw hP hD hS hzH => ?_)
  have hw : r_1 = (-1) := hw
  have hP : va_P D CL [(h0X, .inr (14, fsX))] H := hP
  have hD : va_D A [(h0X, .inr (14, fsX))] := hD
  subst hw
  refine tpst (w := [.int (-1)]) rfl ?_
  refine lv_aload_n G.1 G.2.1 d_Law_1726 rfl (lv_at hl 2 rfl) ?_
  refine lv_aload_n G.1 G.2.1 d_Law_1727 rfl (lv_at hl 0 rfl) ?_
  refine lv_iload_n G.1 G.2.1 d_Law_1728 rfl (lv_at hl 3 rfl) ?_
  refine lv_iconst (v := nI 1) G.1 G.2.1 d_Law_1729 (by decide) ?_
  refine lv_iadd G.1 G.2.1 d_Law_1730 ?_
  refine tpi (w := nI 1) (by decide) ?_
  refine va_sld G.1 G.2.1 hX hbl hbA hS (nI_inn (n := 6) (a := 1) (by decide) (by decide)) d_Law_1731 ?_
  refine tpi (w := (xs 1)) (by rw [nI_clamp (by decide)]) ?_
  refine lv_aload_n G.1 G.2.1 d_Law_1732 rfl (lv_at hl 0 rfl) ?_
  refine lv_iload_n G.1 G.2.1 d_Law_1733 rfl (lv_at hl 3 rfl) ?_
  refine lv_iconst (v := nI 2) G.1 G.2.1 d_Law_1734 (by decide) ?_
  refine lv_iadd G.1 G.2.1 d_Law_1735 ?_
  refine tpi (w := nI 2) (by decide) ?_
  refine va_sld G.1 G.2.1 hX hbl hbA hS (nI_inn (n := 6) (a := 2) (by decide) (by decide)) d_Law_1736 ?_
  refine tpi (w := (xs 2)) (by rw [nI_clamp (by decide)]) ?_
  refine W.eq (g2 := F0 m 1737 ls [.int (xs 2), .int (xs 1), .ref h0X, .int (-1)]) rfl ?_
  refine kEi (wr := []) G (kV (As := [.int (xs 1), .int (xs 2)]) (rest := [.int (-1)]) G hP hD hS [0] rfl rfl (c_Mo_text l D g h0X (xs 1) (xs 2) fsX H.size glenX gk0X) w_Mo_text q4287 rfl rfl ⟨Nat.le_of_ble_eq_true rfl, Nat.le_of_ble_eq_true rfl⟩ (fun _ h => absurd h List.not_mem_nil) 0 (ci := 14) rfl rfl rfl hl.1 rfl (Nat.le_of_ble_eq_true rfl) rfl ⟨Nat.le_of_ble_eq_true rfl, (Nat.le_of_ble_eq_true rfl)⟩ d_Law_1737) hP hD hS [0] [] rfl rfl rfl rfl (fun r_3 u_4 H locs hw hP hD hS hzH => ?_)
  have hw : r_3 = (-1) := hw
  have hP : va_P D CL [] H := hP
  have hD : va_D A [] := hD
  subst hw
  refine tpst (w := [.int (-1), .int (-1)]) rfl ?_
  refine lv_icmp_eq (tgt := 1768) G.1 G.2.1 d_Law_1740 (by decide) (fun c1740 => ?_) (fun c1740 => absurd c1740 (fun h => h rfl))
  refine lv_iinc (v := nI 6) (lv' := [(3, .int (nI 6)), (0, .ref b), (1, .ref h0), (2, .ref h0X)]) G.1 G.2.1 d_Law_1768 hl (k := 3) rfl (show (nI 0) + Int32.ofInt 6 = nI 6 from by decide) (by decide) rfl (fun ls hl => ?_)
  refine lv_goto (tgt := 18) G.1 G.2.1 d_Law_1771 (by decide) ?_
  refine lv_iload_n G.1 G.2.1 d_Law_18 rfl (lv_at hl 0 rfl) ?_
  refine lv_aload_n G.1 G.2.1 d_Law_19 rfl (lv_at hl 1 rfl) ?_
  refine va_slen G.1 G.2.1 hX hbl hbA hS d_Law_20 ?_
  refine tpi (w := nI 6) rfl ?_
  refine lv_bipush (v := nI 6) G.1 G.2.1 d_Law_21 (by decide) ?_
  refine lv_isub G.1 G.2.1 d_Law_23 ?_
  refine tpi (w := nI 0) (by decide) ?_
  refine lv_icmp_gt (tgt := 1774) G.1 G.2.1 d_Law_24 (by decide) (fun c24 => ?_) (fun c24 => absurd c24 (by decide))
  refine lv_iconst (v := nI 1) G.1 G.2.1 d_Law_1774 (by decide) ?_
  refine va_forget (fun q hq => hAA _ (hS.2.2 q hq)) ?_
  refine W.widen (k := 600002) (n := 7302232) (Nat.le_of_ble_eq_true rfl) (Nat.le_of_ble_eq_true rfl) ?_
  exact lw_ret G.1 G.2.1 G.2.2.2.1 G.2.2.2.2.1 d_Law_1775
theorem q2569 : Cond.code y_Cw_count b_Cw_count 2 (some .int) ∈ lw_ok := lw_okmem (List.mem_of_getElem? (i := 2569) (by decide +kernel)) rfl
theorem q2567 : Cond.instanceMethod y_Cw_count ∈ lw_ok := lw_okmem (List.mem_of_getElem? (i := 2567) (by decide +kernel)) rfl
theorem q2568 : Cond.selects y_Cw_count.cls y_Cw_count y_Cw_count ∈ lw_ok := lw_okmem (List.mem_of_getElem? (i := 2568) (by decide +kernel)) rfl
theorem w_Cw_count : CWv y_Cw_count b_Cw_count 2 (some .int) 1 ∧ Cond.instanceMethod y_Cw_count ∈ lw_ok ∧ Cond.selects y_Cw_count.cls y_Cw_count y_Cw_count ∈ lw_ok := ⟨⟨q2569, q329, by decide +kernel, by decide +kernel, by decide +kernel⟩, q2567, q2568⟩
theorem q2566 : Cond.methodLink "ClassWorksLaw" 193 y_Cw_count ∈ lw_ok := lw_okmem (List.mem_of_getElem? (i := 2566) (by decide +kernel)) rfl
theorem q4294 : Cond.code y_Mo_count b_Mo_count 2 (some .int) ∈ lw_ok := lw_okmem (List.mem_of_getElem? (i := 4294) (by decide +kernel)) rfl
theorem q4292 : Cond.instanceMethod y_Mo_count ∈ lw_ok := lw_okmem (List.mem_of_getElem? (i := 4292) (by decide +kernel)) rfl
theorem q4293 : Cond.selects y_Mo_count.cls y_Mo_count y_Mo_count ∈ lw_ok := lw_okmem (List.mem_of_getElem? (i := 4293) (by decide +kernel)) rfl
theorem w_Mo_count : CWv y_Mo_count b_Mo_count 2 (some .int) 1 ∧ Cond.instanceMethod y_Mo_count ∈ lw_ok ∧ Cond.selects y_Mo_count.cls y_Mo_count y_Mo_count ∈ lw_ok := ⟨⟨q4294, q348, by decide +kernel, by decide +kernel, by decide +kernel⟩, q4292, q4293⟩
theorem q4291 : Cond.methodLink "ClassWorksLaw" 196 y_Mo_count ∈ lw_ok := lw_okmem (List.mem_of_getElem? (i := 4291) (by decide +kernel)) rfl
theorem d_Law_1745 : decode code 1745 = .ok (.aload_n 1, 1) := by decide +kernel
theorem d_Law_1746 : decode code 1746 = .ok (.aload_n 0, 1) := by decide +kernel
theorem d_Law_1747 : decode code 1747 = .ok (.iload_n 3, 1) := by decide +kernel
theorem d_Law_1748 : decode code 1748 = .ok (.iconst 1, 1) := by decide +kernel
theorem d_Law_1749 : decode code 1749 = .ok (.iadd, 1) := by decide +kernel
theorem d_Law_1750 : decode code 1750 = .ok (.iaload, 1) := by decide +kernel
theorem d_Law_1751 : decode code 1751 = .ok (.invokevirtual 193, 3) := by decide +kernel
theorem d_Law_1754 : decode code 1754 = .ok (.aload_n 2, 1) := by decide +kernel
theorem d_Law_1755 : decode code 1755 = .ok (.aload_n 0, 1) := by decide +kernel
theorem d_Law_1756 : decode code 1756 = .ok (.iload_n 3, 1) := by decide +kernel
theorem d_Law_1757 : decode code 1757 = .ok (.iconst 1, 1) := by decide +kernel
theorem d_Law_1758 : decode code 1758 = .ok (.iadd, 1) := by decide +kernel
theorem d_Law_1759 : decode code 1759 = .ok (.iaload, 1) := by decide +kernel
theorem d_Law_1760 : decode code 1760 = .ok (.invokevirtual 196, 3) := by decide +kernel
theorem d_Law_1763 : decode code 1763 = .ok (.if_icmp .eq 5, 3) := by decide +kernel
set_option maxHeartbeats 4000000 in
set_option maxRecDepth 100000 in
theorem law_count {p : Program} {e : Env} {s : State} {m : MethodId} {below : List Frame} {meth : Method} {c : Code} {l : Launch} {D : va_G} {g : Nat → ClassId} {sl : List SL} {b : Nat} {xs : Nat → Int32} {A : Nat → Prop} (h0 : Nat) (r_cwords : Nat) (r_creader : Nat) (r_cchecker : Nat) (r_cfinder : Nat) (r_cwriter : Nat) (r_cmachines : Nat) (r_ctape : Nat) (r_cstock : Nat) (r_csizes : Nat) (r_cmet : Nat) (r_cfound : Nat) (r_cdraft : Nat) (r_cfewestFor : Nat) (r_cfewestNext : Nat) (h0X : Nat) (fsX : List Value) (G : GV l p s m #[Value.ref b] meth c (⟨"ClassWorksLaw", meth.name, ""⟩ : MethodName) code 4 ret g D sl A) (hX : va_X b 6 xs s s.heap) (hbl : b < s.heap.size) (hbA : ¬ A b) (hAA : ∀ q, A q → s.heap.size ≤ q) {H : Heap} {locs : List Loc} {ls : Array Slot} (glenX : fsX.length = 131) (gk0X : fsX[121]? = some (.int (nI 0))) (gk1X : fsX[93]? = some (.int (nI 0))) (gk2X : fsX[85]? = some (.int (nI 0))) (hP : va_P D CL [(h0, .inr (11, [.ref r_cwords, .ref r_creader, .ref r_cchecker, .ref r_cfinder, .ref r_cwriter, .ref r_cmachines, .ref r_ctape, .int (nI 0), .int (-2), .int (nI 60000), .ref r_cstock, .ref r_csizes, .ref r_cmet, .ref r_cfound, .int (nI 0), .ref r_cdraft, .int (nI 0), .int (nI 0), .ref r_cfewestFor, .ref r_cfewestNext])), (h0X, .inr (14, fsX))] H) (hD : va_D A [(h0, .inr (11, [.ref r_cwords, .ref r_creader, .ref r_cchecker, .ref r_cfinder, .ref r_cwriter, .ref r_cmachines, .ref r_ctape, .int (nI 0), .int (-2), .int (nI 60000), .ref r_cstock, .ref r_csizes, .ref r_cmet, .ref r_cfound, .int (nI 0), .ref r_cdraft, .int (nI 0), .int (nI 0), .ref r_cfewestFor, .ref r_cfewestNext])), (h0X, .inr (14, fsX))]) (hS : va_S A s.heap H locs) (hl : lv_has ls 4 [(0, .ref b), (1, .ref h0), (2, .ref h0X), (3, .int (nI 0))]) : W p l e room_1 s m #[Value.ref b] below meth c H locs 702 488194 (lw_Z below #[Value.ref b] s) (F0 m 1745 ls []) := by
  refine lv_aload_n G.1 G.2.1 d_Law_1745 rfl (lv_at hl 1 rfl) ?_
  refine lv_aload_n G.1 G.2.1 d_Law_1746 rfl (lv_at hl 0 rfl) ?_
  refine lv_iload_n G.1 G.2.1 d_Law_1747 rfl (lv_at hl 3 rfl) ?_
  refine lv_iconst (v := nI 1) G.1 G.2.1 d_Law_1748 (by decide) ?_
  refine lv_iadd G.1 G.2.1 d_Law_1749 ?_
  refine tpi (w := nI 1) (by decide) ?_
  refine va_sld G.1 G.2.1 hX hbl hbA hS (nI_inn (n := 6) (a := 1) (by decide) (by decide)) d_Law_1750 ?_
  refine tpi (w := (xs 1)) (by rw [nI_clamp (by decide)]) ?_
  refine kEi (wr := [(h0X, .inr (14, fsX))]) G (kV (As := [.int (xs 1)]) (rest := []) G hP hD hS [0] rfl rfl (c_Cw_count l D g h0 (xs 1) r_cwords r_creader r_cchecker r_cfinder r_cwriter r_cmachines r_ctape r_cstock r_csizes r_cmet r_cfound r_cdraft r_cfewestFor r_cfewestNext H.size ) w_Cw_count q2566 rfl rfl ⟨Nat.le_of_ble_eq_true rfl, Nat.le_of_ble_eq_true rfl⟩ (fun _ h => absurd h List.not_mem_nil) 0 (ci := 11) rfl rfl rfl hl.1 rfl (Nat.le_of_ble_eq_true rfl) rfl ⟨Nat.le_of_ble_eq_true rfl, (Nat.le_of_ble_eq_true rfl)⟩ d_Law_1751) hP hD hS [0] [1] rfl rfl rfl rfl (fun r_1 u_2 H locs hw hP hD hS hzH => ?_)
  have hw : r_1 = cntF ((xs 1)) := hw
  have hP : va_P D CL [(h0X, .inr (14, fsX))] H := hP
  have hD : va_D A [(h0X, .inr (14, fsX))] := hD
  subst hw
  refine tpst (w := [.int (cntF ((xs 1)))]) rfl ?_
  refine lv_aload_n G.1 G.2.1 d_Law_1754 rfl (lv_at hl 2 rfl) ?_
  refine lv_aload_n G.1 G.2.1 d_Law_1755 rfl (lv_at hl 0 rfl) ?_
  refine lv_iload_n G.1 G.2.1 d_Law_1756 rfl (lv_at hl 3 rfl) ?_
  refine lv_iconst (v := nI 1) G.1 G.2.1 d_Law_1757 (by decide) ?_
  refine W.eq (g2 := F0 m 1758 ls [.int (nI 1), .int (nI 0), .ref b, .ref h0X, .int (cntF ((xs 1)))]) rfl ?_
  refine lv_iadd G.1 G.2.1 d_Law_1758 ?_
  refine tpi (w := nI 1) (by decide) ?_
  refine va_sld G.1 G.2.1 hX hbl hbA hS (nI_inn (n := 6) (a := 1) (by decide) (by decide)) d_Law_1759 ?_
  refine tpi (w := (xs 1)) (by rw [nI_clamp (by decide)]) ?_
  refine kEi (wr := []) G (kV (As := [.int (xs 1)]) (rest := [.int (cntF ((xs 1)))]) G hP hD hS [0] rfl rfl (c_Mo_count l D g h0X (xs 1) fsX H.size glenX gk0X gk1X gk2X) w_Mo_count q4291 rfl rfl ⟨Nat.le_of_ble_eq_true rfl, Nat.le_of_ble_eq_true rfl⟩ (fun _ h => absurd h List.not_mem_nil) 0 (ci := 14) rfl rfl rfl hl.1 rfl (Nat.le_of_ble_eq_true rfl) rfl ⟨Nat.le_of_ble_eq_true rfl, (Nat.le_of_ble_eq_true rfl)⟩ d_Law_1760) hP hD hS [0] [] rfl rfl rfl rfl (fun r_3 u_4 H locs hw hP hD hS hzH => ?_)
  have hw : r_3 = cntF ((xs 1)) := hw
  have hP : va_P D CL [] H := hP
  have hD : va_D A [] := hD
  subst hw
  refine tpst (w := [.int (cntF ((xs 1))), .int (cntF ((xs 1)))]) rfl ?_
  refine lv_icmp_eq (tgt := 1768) G.1 G.2.1 d_Law_1763 (by decide) (fun c1763 => ?_) (fun c1763 => absurd c1763 (fun h => h rfl))
  refine lv_iinc (v := nI 6) (lv' := [(3, .int (nI 6)), (0, .ref b), (1, .ref h0), (2, .ref h0X)]) G.1 G.2.1 d_Law_1768 hl (k := 3) rfl (show (nI 0) + Int32.ofInt 6 = nI 6 from by decide) (by decide) rfl (fun ls hl => ?_)
  refine lv_goto (tgt := 18) G.1 G.2.1 d_Law_1771 (by decide) ?_
  refine lv_iload_n G.1 G.2.1 d_Law_18 rfl (lv_at hl 0 rfl) ?_
  refine lv_aload_n G.1 G.2.1 d_Law_19 rfl (lv_at hl 1 rfl) ?_
  refine va_slen G.1 G.2.1 hX hbl hbA hS d_Law_20 ?_
  refine tpi (w := nI 6) rfl ?_
  refine lv_bipush (v := nI 6) G.1 G.2.1 d_Law_21 (by decide) ?_
  refine lv_isub G.1 G.2.1 d_Law_23 ?_
  refine tpi (w := nI 0) (by decide) ?_
  refine lv_icmp_gt (tgt := 1774) G.1 G.2.1 d_Law_24 (by decide) (fun c24 => ?_) (fun c24 => absurd c24 (by decide))
  refine W.eq (g2 := F0 m 1774 ls []) rfl ?_
  refine lv_iconst (v := nI 1) G.1 G.2.1 d_Law_1774 (by decide) ?_
  refine va_forget (fun q hq => hAA _ (hS.2.2 q hq)) ?_
  refine W.widen (k := 600002) (n := 7302232) (Nat.le_of_ble_eq_true rfl) (Nat.le_of_ble_eq_true rfl) ?_
  exact lw_ret G.1 G.2.1 G.2.2.2.1 G.2.2.2.2.1 d_Law_1775
