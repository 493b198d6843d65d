theorem q1722 : Cond.code y_Cw_checked b_Cw_checked 4 (some .int) ∈ lw_ok := lw_okmem (List.mem_of_getElem? (i := 1722) (by decide +kernel)) rfl
theorem q1720 : Cond.instanceMethod y_Cw_checked ∈ lw_ok := lw_okmem (List.mem_of_getElem? (i := 1720) (by decide +kernel)) rfl
theorem q1721 : Cond.selects y_Cw_checked.cls y_Cw_checked y_Cw_checked ∈ lw_ok := lw_okmem (List.mem_of_getElem? (i := 1721) (by decide +kernel)) rfl
theorem w_Cw_checked : CWv y_Cw_checked b_Cw_checked 4 (some .int) 2 ∧ Cond.instanceMethod y_Cw_checked ∈ lw_ok ∧ Cond.selects y_Cw_checked.cls y_Cw_checked y_Cw_checked ∈ lw_ok := ⟨⟨q1722, q329, by decide +kernel, by decide +kernel, by decide +kernel⟩, q1720, q1721⟩
theorem q1719 : Cond.methodLink "ClassWorksLaw" 63 y_Cw_checked ∈ lw_ok := lw_okmem (List.mem_of_getElem? (i := 1719) (by decide +kernel)) rfl
theorem q3790 : Cond.code y_Mo_checked b_Mo_checked 3 (some .int) ∈ lw_ok := lw_okmem (List.mem_of_getElem? (i := 3790) (by decide +kernel)) rfl
theorem q3788 : Cond.instanceMethod y_Mo_checked ∈ lw_ok := lw_okmem (List.mem_of_getElem? (i := 3788) (by decide +kernel)) rfl
theorem q3789 : Cond.selects y_Mo_checked.cls y_Mo_checked y_Mo_checked ∈ lw_ok := lw_okmem (List.mem_of_getElem? (i := 3789) (by decide +kernel)) rfl
theorem w_Mo_checked : CWv y_Mo_checked b_Mo_checked 3 (some .int) 2 ∧ Cond.instanceMethod y_Mo_checked ∈ lw_ok ∧ Cond.selects y_Mo_checked.cls y_Mo_checked y_Mo_checked ∈ lw_ok := ⟨⟨q3790, q348, by decide +kernel, by decide +kernel, by decide +kernel⟩, q3788, q3789⟩
theorem q3787 : Cond.methodLink "ClassWorksLaw" 66 y_Mo_checked ∈ lw_ok := lw_okmem (List.mem_of_getElem? (i := 3787) (by decide +kernel)) rfl
theorem d_Law_607 : decode code 607 = .ok (.aload_n 1, 1) := by decide +kernel
theorem d_Law_608 : decode code 608 = .ok (.aload_n 0, 1) := by decide +kernel
theorem d_Law_609 : decode code 609 = .ok (.iload_n 3, 1) := by decide +kernel
theorem d_Law_610 : decode code 610 = .ok (.iconst 1, 1) := by decide +kernel
theorem d_Law_611 : decode code 611 = .ok (.iadd, 1) := by decide +kernel
theorem d_Law_612 : decode code 612 = .ok (.iaload, 1) := by decide +kernel
theorem d_Law_613 : decode code 613 = .ok (.aload_n 0, 1) := by decide +kernel
theorem d_Law_614 : decode code 614 = .ok (.iload_n 3, 1) := by decide +kernel
theorem d_Law_615 : decode code 615 = .ok (.iconst 2, 1) := by decide +kernel
theorem d_Law_616 : decode code 616 = .ok (.iadd, 1) := by decide +kernel
theorem d_Law_617 : decode code 617 = .ok (.iaload, 1) := by decide +kernel
theorem d_Law_618 : decode code 618 = .ok (.invokevirtual 63, 3) := by decide +kernel
theorem d_Law_621 : decode code 621 = .ok (.aload_n 2, 1) := by decide +kernel
theorem d_Law_622 : decode code 622 = .ok (.aload_n 0, 1) := by decide +kernel
theorem d_Law_623 : decode code 623 = .ok (.iload_n 3, 1) := by decide +kernel
theorem d_Law_624 : decode code 624 = .ok (.iconst 1, 1) := by decide +kernel
theorem d_Law_625 : decode code 625 = .ok (.iadd, 1) := by decide +kernel
theorem d_Law_626 : decode code 626 = .ok (.iaload, 1) := by decide +kernel
theorem d_Law_627 : decode code 627 = .ok (.aload_n 0, 1) := by decide +kernel
theorem d_Law_628 : decode code 628 = .ok (.iload_n 3, 1) := by decide +kernel
theorem d_Law_629 : decode code 629 = .ok (.iconst 2, 1) := by decide +kernel
theorem d_Law_630 : decode code 630 = .ok (.iadd, 1) := by decide +kernel
theorem d_Law_631 : decode code 631 = .ok (.iaload, 1) := by decide +kernel
theorem d_Law_632 : decode code 632 = .ok (.invokevirtual 66, 3) := by decide +kernel
theorem d_Law_635 : decode code 635 = .ok (.if_icmp .eq 1133, 3) := by decide +kernel
set_option maxHeartbeats 4000000 in
set_option maxRecDepth 100000 in
theorem law_checked {p : Program} {e : Env} {s : State} {m : MethodId} {below : List Frame} {meth : Method} {c : Code} {l : Launch} {D : va_G} {g : Nat → ClassId} {sl : List SL} {b : Nat} {xs : Nat → Int32} {A : Nat → Prop} (h0 : Nat) (r_cwords : Nat) (r_creader : Nat) (r_cchecker : Nat) (r_cfinder : Nat) (r_cwriter : Nat) (r_cmachines : Nat) (r_ctape : Nat) (r_cstock : Nat) (r_csizes : Nat) (r_cmet : Nat) (r_cfound : Nat) (r_cdraft : Nat) (r_cfewestFor : Nat) (r_cfewestNext : Nat) (mm0 : Nat) (mm1 : Nat) (mm2 : Nat) (mm3 : Nat) (ww0 : Nat) (r_m0heap : Nat) (r_m0runs : Nat) (r_m0counts : Nat) (r_m0traceRow : Nat) (f_m0traceCount : Int32) (r_m0startedList : Nat) (f_m0startedCount : Int32) (f_m0present : Int32) (f_m0quantum : Int32) (f_m0stepsDone : Int32) (f_m0turnSteps : Int32) (f_m0turnMost : Int32) (f_m0turnOver : Int32) (r_m0finder : Nat) (r_m0names : Nat) (f_m0fault : Int32) (f_m0wanted : Int32) (f_m0thrown : Int32) (ww1 : Nat) (r_m1heap : Nat) (r_m1runs : Nat) (r_m1counts : Nat) (r_m1traceRow : Nat) (f_m1traceCount : Int32) (r_m1startedList : Nat) (f_m1startedCount : Int32) (f_m1present : Int32) (f_m1quantum : Int32) (f_m1stepsDone : Int32) (f_m1turnSteps : Int32) (f_m1turnMost : Int32) (f_m1turnOver : Int32) (r_m1finder : Nat) (r_m1names : Nat) (f_m1fault : Int32) (f_m1wanted : Int32) (f_m1thrown : Int32) (ww2 : Nat) (r_m2heap : Nat) (r_m2runs : Nat) (r_m2counts : Nat) (r_m2traceRow : Nat) (f_m2traceCount : Int32) (r_m2startedList : Nat) (f_m2startedCount : Int32) (f_m2present : Int32) (f_m2quantum : Int32) (f_m2stepsDone : Int32) (f_m2turnSteps : Int32) (f_m2turnMost : Int32) (f_m2turnOver : Int32) (r_m2finder : Nat) (r_m2names : Nat) (f_m2fault : Int32) (f_m2wanted : Int32) (f_m2thrown : Int32) (r_w0names : Nat) (f_w0wrongClass : Int32) (f_w0wrongMethod : Int32) (f_w0wrongAt : Int32) (r_w0rows : Nat) (r_w0above : Nat) (r_w0fields : Nat) (r_w0methods : Nat) (r_w0codes : Nat) (r_w0handlers : Nat) (r_w0extra : Nat) (r_w0orders : Nat) (r_w0classNamed : Nat) (f_w0breaks : Int32) (r_w0marks : Nat) (r_w1names : Nat) (f_w1wrongClass : Int32) (f_w1wrongMethod : Int32) (f_w1wrongAt : Int32) (r_w1rows : Nat) (r_w1above : Nat) (r_w1fields : Nat) (r_w1methods : Nat) (r_w1codes : Nat) (r_w1handlers : Nat) (r_w1extra : Nat) (r_w1orders : Nat) (r_w1classNamed : Nat) (f_w1breaks : Int32) (r_w1marks : Nat) (r_w2names : Nat) (f_w2wrongClass : Int32) (f_w2wrongMethod : Int32) (f_w2wrongAt : Int32) (r_w2rows : Nat) (r_w2above : Nat) (r_w2fields : Nat) (r_w2methods : Nat) (r_w2codes : Nat) (r_w2handlers : Nat) (r_w2extra : Nat) (r_w2orders : Nat) (r_w2classNamed : Nat) (f_w2breaks : Int32) (r_w2marks : Nat) (h0X : Nat) (fsX : List Value) (owX : Nat) (v0X : Nat) (v1X : Nat) (v2X : Nat) (v3X : Nat) (fw0X : List Value) (fw1X : List Value) (fw2X : List Value) (G : GV l p s m #[Value.ref b] meth c (⟨"ClassWorksLaw", meth.name, ""⟩ : MethodName) code 4 ret g D sl A) (hX : va_X b 6 xs s s.heap) (hbl : b < s.heap.size) (hbA : ¬ A b) (hAA : ∀ q, A q → s.heap.size ≤ q) {H : Heap} {locs : List Loc} {ls : Array Slot} (glenX : fsX.length = 131) (gk0X : fsX[44]? = some (.ref owX)) (gw0X : fw0X.length = 72) (gt0X : fw0X[0]? = some (.int (nI 0))) (gw1X : fw1X.length = 72) (gt1X : fw1X[0]? = some (.int (nI 0))) (gw2X : fw2X.length = 72) (gt2X : fw2X[0]? = some (.int (nI 0))) (hP : va_P D CL [(h0, .inr (11, [.ref r_cwords, .ref r_creader, .ref r_cchecker, .ref r_cfinder, .ref r_cwriter, .ref r_cmachines, .ref r_ctape, .int (nI 0), .int (-2), .int (nI 60000), .ref r_cstock, .ref r_csizes, .ref r_cmet, .ref r_cfound, .int (nI 0), .ref r_cdraft, .int (nI 0), .int (nI 0), .ref r_cfewestFor, .ref r_cfewestNext])), (r_cmachines, .inl (g 4, 4, .inr (.inr (.inr (.inr (va_up (va_up (va_up (va_up (fun _ => none) 0 (some mm0)) 1 (some mm1)) 2 (some mm2)) 3 (some mm3))))))), (mm0, .inr (4, [.ref ww0, .ref r_m0heap, .ref r_m0runs, .ref r_m0counts, .ref r_m0traceRow, .int f_m0traceCount, .ref r_m0startedList, .int f_m0startedCount, .int f_m0present, .int f_m0quantum, .int f_m0stepsDone, .int f_m0turnSteps, .int f_m0turnMost, .int f_m0turnOver, .ref r_m0finder, .ref r_m0names, .int f_m0fault, .int f_m0wanted, .int f_m0thrown])), (mm1, .inr (4, [.ref ww1, .ref r_m1heap, .ref r_m1runs, .ref r_m1counts, .ref r_m1traceRow, .int f_m1traceCount, .ref r_m1startedList, .int f_m1startedCount, .int f_m1present, .int f_m1quantum, .int f_m1stepsDone, .int f_m1turnSteps, .int f_m1turnMost, .int f_m1turnOver, .ref r_m1finder, .ref r_m1names, .int f_m1fault, .int f_m1wanted, .int f_m1thrown])), (mm2, .inr (4, [.ref ww2, .ref r_m2heap, .ref r_m2runs, .ref r_m2counts, .ref r_m2traceRow, .int f_m2traceCount, .ref r_m2startedList, .int f_m2startedCount, .int f_m2present, .int f_m2quantum, .int f_m2stepsDone, .int f_m2turnSteps, .int f_m2turnMost, .int f_m2turnOver, .ref r_m2finder, .ref r_m2names, .int f_m2fault, .int f_m2wanted, .int f_m2thrown])), (ww0, .inr (9, [.ref r_w0names, .int (nI 0), .int (nI 21), .int f_w0wrongClass, .int f_w0wrongMethod, .int f_w0wrongAt, .ref r_w0rows, .ref r_w0above, .ref r_w0fields, .ref r_w0methods, .ref r_w0codes, .ref r_w0handlers, .ref r_w0extra, .ref r_w0orders, .ref r_w0classNamed, .int f_w0breaks, .ref r_w0marks])), (ww1, .inr (9, [.ref r_w1names, .int (nI 0), .int (nI 21), .int f_w1wrongClass, .int f_w1wrongMethod, .int f_w1wrongAt, .ref r_w1rows, .ref r_w1above, .ref r_w1fields, .ref r_w1methods, .ref r_w1codes, .ref r_w1handlers, .ref r_w1extra, .ref r_w1orders, .ref r_w1classNamed, .int f_w1breaks, .ref r_w1marks])), (ww2, .inr (9, [.ref r_w2names, .int (nI 0), .int (nI 21), .int f_w2wrongClass, .int f_w2wrongMethod, .int f_w2wrongAt, .ref r_w2rows, .ref r_w2above, .ref r_w2fields, .ref r_w2methods, .ref r_w2codes, .ref r_w2handlers, .ref r_w2extra, .ref r_w2orders, .ref r_w2classNamed, .int f_w2breaks, .ref r_w2marks])), (h0X, .inr (14, fsX)), (owX, .inl (g 6, 4, .inr (.inr (.inr (.inr (va_up (va_up (va_up (va_up (fun _ => none) 0 (some v0X)) 1 (some v1X)) 2 (some v2X)) 3 (some v3X))))))), (v0X, .inr (13, fw0X)), (v1X, .inr (13, fw1X)), (v2X, .inr (13, fw2X))] H) (hD : va_D A [(h0, .inr (11, [.ref r_cwords, .ref r_creader, .ref r_cchecker, .ref r_cfinder, .ref r_cwriter, .ref r_cmachines, .ref r_ctape, .int (nI 0), .int (-2), .int (nI 60000), .ref r_cstock, .ref r_csizes, .ref r_cmet, .ref r_cfound, .int (nI 0), .ref r_cdraft, .int (nI 0), .int (nI 0), .ref r_cfewestFor, .ref r_cfewestNext])), (r_cmachines, .inl (g 4, 4, .inr (.inr (.inr (.inr (va_up (va_up (va_up (va_up (fun _ => none) 0 (some mm0)) 1 (some mm1)) 2 (some mm2)) 3 (some mm3))))))), (mm0, .inr (4, [.ref ww0, .ref r_m0heap, .ref r_m0runs, .ref r_m0counts, .ref r_m0traceRow, .int f_m0traceCount, .ref r_m0startedList, .int f_m0startedCount, .int f_m0present, .int f_m0quantum, .int f_m0stepsDone, .int f_m0turnSteps, .int f_m0turnMost, .int f_m0turnOver, .ref r_m0finder, .ref r_m0names, .int f_m0fault, .int f_m0wanted, .int f_m0thrown])), (mm1, .inr (4, [.ref ww1, .ref r_m1heap, .ref r_m1runs, .ref r_m1counts, .ref r_m1traceRow, .int f_m1traceCount, .ref r_m1startedList, .int f_m1startedCount, .int f_m1present, .int f_m1quantum, .int f_m1stepsDone, .int f_m1turnSteps, .int f_m1turnMost, .int f_m1turnOver, .ref r_m1finder, .ref r_m1names, .int f_m1fault, .int f_m1wanted, .int f_m1thrown])), (mm2, .inr (4, [.ref ww2, .ref r_m2heap, .ref r_m2runs, .ref r_m2counts, .ref r_m2traceRow, .int f_m2traceCount, .ref r_m2startedList, .int f_m2startedCount, .int f_m2present, .int f_m2quantum, .int f_m2stepsDone, .int f_m2turnSteps, .int f_m2turnMost, .int f_m2turnOver, .ref r_m2finder, .ref r_m2names, .int f_m2fault, .int f_m2wanted, .int f_m2thrown])), (ww0, .inr (9, [.ref r_w0names, .int (nI 0), .int (nI 21), .int f_w0wrongClass, .int f_w0wrongMethod, .int f_w0wrongAt, .ref r_w0rows, .ref r_w0above, .ref r_w0fields, .ref r_w0methods, .ref r_w0codes, .ref r_w0handlers, .ref r_w0extra, .ref r_w0orders, .ref r_w0classNamed, .int f_w0breaks, .ref r_w0marks])), (ww1, .inr (9, [.ref r_w1names, .int (nI 0), .int (nI 21), .int f_w1wrongClass, .int f_w1wrongMethod, .int f_w1wrongAt, .ref r_w1rows, .ref r_w1above, .ref r_w1fields, .ref r_w1methods, .ref r_w1codes, .ref r_w1handlers, .ref r_w1extra, .ref r_w1orders, .ref r_w1classNamed, .int f_w1breaks, .ref r_w1marks])), (ww2, .inr (9, [.ref r_w2names, .int (nI 0), .int (nI 21), .int f_w2wrongClass, .int f_w2wrongMethod, .int f_w2wrongAt, .ref r_w2rows, .ref r_w2above, .ref r_w2fields, .ref r_w2methods, .ref r_w2codes, .ref r_w2handlers, .ref r_w2extra, .ref r_w2orders, .ref r_w2classNamed, .int f_w2breaks, .ref r_w2marks])), (h0X, .inr (14, fsX)), (owX, .inl (g 6, 4, .inr (.inr (.inr (.inr (va_up (va_up (va_up (va_up (fun _ => none) 0 (some v0X)) 1 (some v1X)) 2 (some v2X)) 3 (some v3X))))))), (v0X, .inr (13, fw0X)), (v1X, .inr (13, fw1X)), (v2X, .inr (13, fw2X))]) (hS : va_S A s.heap H locs) (hl : lv_has ls 4 [(0, .ref b), (1, .ref h0), (2, .ref h0X), (3, .int (nI 0))]) : W p l e room_1 s m #[Value.ref b] below meth c H locs 702 488194 (lw_Z below #[Value.ref b] s) (F0 m 607 ls []) := by
  refine lv_aload_n G.1 G.2.1 d_Law_607 rfl (lv_at hl 1 rfl) ?_
  refine lv_aload_n G.1 G.2.1 d_Law_608 rfl (lv_at hl 0 rfl) ?_
  refine lv_iload_n G.1 G.2.1 d_Law_609 rfl (lv_at hl 3 rfl) ?_
  refine lv_iconst (v := nI 1) G.1 G.2.1 d_Law_610 (by decide) ?_
  refine lv_iadd G.1 G.2.1 d_Law_611 ?_
  refine tpi (w := nI 1) (by decide) ?_
  refine va_sld G.1 G.2.1 hX hbl hbA hS (nI_inn (n := 6) (a := 1) (by decide) (by decide)) d_Law_612 ?_
  refine tpi (w := (xs 1)) (by rw [nI_clamp (by decide)]) ?_
  refine lv_aload_n G.1 G.2.1 d_Law_613 rfl (lv_at hl 0 rfl) ?_
  refine lv_iload_n G.1 G.2.1 d_Law_614 rfl (lv_at hl 3 rfl) ?_
  refine lv_iconst (v := nI 2) G.1 G.2.1 d_Law_615 (by decide) ?_
  refine lv_iadd G.1 G.2.1 d_Law_616 ?_
  refine tpi (w := nI 2) (by decide) ?_
  refine va_sld G.1 G.2.1 hX hbl hbA hS (nI_inn (n := 6) (a := 2) (by decide) (by decide)) d_Law_617 ?_
  refine tpi (w := (xs 2)) (by rw [nI_clamp (by decide)]) ?_
  refine W.eq (g2 := F0 m 618 ls [.int (xs 2), .int (xs 1), .ref h0]) rfl ?_
  refine kEi (wr := [(h0X, .inr (14, fsX)), (owX, .inl (g 6, 4, .inr (.inr (.inr (.inr (va_up (va_up (va_up (va_up (fun _ => none) 0 (some v0X)) 1 (some v1X)) 2 (some v2X)) 3 (some v3X))))))), (v0X, .inr (13, fw0X)), (v1X, .inr (13, fw1X)), (v2X, .inr (13, fw2X))]) G (kV (As := [.int (xs 1), .int (xs 2)]) (rest := []) G hP hD hS [0, 1, 2, 3, 4, 5, 6, 7] rfl rfl (c_Cw_checked l D g h0 (xs 1) (xs 2) r_cwords r_creader r_cchecker r_cfinder r_cwriter r_cmachines r_ctape r_cstock r_csizes r_cmet r_cfound r_cdraft r_cfewestFor r_cfewestNext mm0 mm1 mm2 mm3 ww0 r_m0heap r_m0runs r_m0counts r_m0traceRow f_m0traceCount r_m0startedList f_m0startedCount f_m0present f_m0quantum f_m0stepsDone f_m0turnSteps f_m0turnMost f_m0turnOver r_m0finder r_m0names f_m0fault f_m0wanted f_m0thrown ww1 r_m1heap r_m1runs r_m1counts r_m1traceRow f_m1traceCount r_m1startedList f_m1startedCount f_m1present f_m1quantum f_m1stepsDone f_m1turnSteps f_m1turnMost f_m1turnOver r_m1finder r_m1names f_m1fault f_m1wanted f_m1thrown ww2 r_m2heap r_m2runs r_m2counts r_m2traceRow f_m2traceCount r_m2startedList f_m2startedCount f_m2present f_m2quantum f_m2stepsDone f_m2turnSteps f_m2turnMost f_m2turnOver r_m2finder r_m2names f_m2fault f_m2wanted f_m2thrown r_w0names f_w0wrongClass f_w0wrongMethod f_w0wrongAt r_w0rows r_w0above r_w0fields r_w0methods r_w0codes r_w0handlers r_w0extra r_w0orders r_w0classNamed f_w0breaks r_w0marks r_w1names f_w1wrongClass f_w1wrongMethod f_w1wrongAt r_w1rows r_w1above r_w1fields r_w1methods r_w1codes r_w1handlers r_w1extra r_w1orders r_w1classNamed f_w1breaks r_w1marks r_w2names f_w2wrongClass f_w2wrongMethod f_w2wrongAt r_w2rows r_w2above r_w2fields r_w2methods r_w2codes r_w2handlers r_w2extra r_w2orders r_w2classNamed f_w2breaks r_w2marks H.size ) w_Cw_checked q1719 rfl rfl ⟨Nat.le_of_ble_eq_true rfl, Nat.le_of_ble_eq_true rfl⟩ (fun _ h => absurd h List.not_mem_nil) 0 (ci := 11) rfl rfl rfl hl.1 rfl (Nat.le_of_ble_eq_true rfl) rfl ⟨Nat.le_of_ble_eq_true rfl, (Nat.le_of_ble_eq_true rfl)⟩ d_Law_618) hP hD hS [0, 1, 2, 3, 4, 5, 6, 7] [8, 9, 10, 11, 12] rfl rfl rfl rfl (fun r_1 u_2 H locs hw hP hD hS hzH => ?_)
  have hw : r_1 = (-1) := hw
  have hP : va_P D CL [(h0X, .inr (14, fsX)), (owX, .inl (g 6, 4, .inr (.inr (.inr (.inr (va_up (va_up (va_up (va_up (fun _ => none) 0 (some v0X)) 1 (some v1X)) 2 (some v2X)) 3 (some v3X))))))), (v0X, .inr (13, fw0X)), (v1X, .inr (13, fw1X)), (v2X, .inr (13, fw2X))] H := hP
  have hD : va_D A [(h0X, .inr (14, fsX)), (owX, .inl (g 6, 4, .inr (.inr (.inr (.inr (va_up (va_up (va_up (va_up (fun _ => none) 0 (some v0X)) 1 (some v1X)) 2 (some v2X)) 3 (some v3X))))))), (v0X, .inr (13, fw0X)), (v1X, .inr (13, fw1X)), (v2X, .inr (13, fw2X))] := hD
  subst hw
  refine tpst (w := [.int (-1)]) rfl ?_
  refine lv_aload_n G.1 G.2.1 d_Law_621 rfl (lv_at hl 2 rfl) ?_
  refine lv_aload_n G.1 G.2.1 d_Law_622 rfl (lv_at hl 0 rfl) ?_
  refine lv_iload_n G.1 G.2.1 d_Law_623 rfl (lv_at hl 3 rfl) ?_
  refine lv_iconst (v := nI 1) G.1 G.2.1 d_Law_624 (by decide) ?_
  refine lv_iadd G.1 G.2.1 d_Law_625 ?_
  refine tpi (w := nI 1) (by decide) ?_
  refine va_sld G.1 G.2.1 hX hbl hbA hS (nI_inn (n := 6) (a := 1) (by decide) (by decide)) d_Law_626 ?_
  refine tpi (w := (xs 1)) (by rw [nI_clamp (by decide)]) ?_
  refine lv_aload_n G.1 G.2.1 d_Law_627 rfl (lv_at hl 0 rfl) ?_
  refine lv_iload_n G.1 G.2.1 d_Law_628 rfl (lv_at hl 3 rfl) ?_
  refine lv_iconst (v := nI 2) G.1 G.2.1 d_Law_629 (by decide) ?_
  refine lv_iadd G.1 G.2.1 d_Law_630 ?_
  refine tpi (w := nI 2) (by decide) ?_
  refine va_sld G.1 G.2.1 hX hbl hbA hS (nI_inn (n := 6) (a := 2) (by decide) (by decide)) d_Law_631 ?_
  refine tpi (w := (xs 2)) (by rw [nI_clamp (by decide)]) ?_
  refine W.eq (g2 := F0 m 632 ls [.int (xs 2), .int (xs 1), .ref h0X, .int (-1)]) rfl ?_
  refine kEi (wr := []) G (kV (As := [.int (xs 1), .int (xs 2)]) (rest := [.int (-1)]) G hP hD hS [0, 1, 2, 3, 4] rfl rfl (c_Mo_checked l D g h0X (xs 1) (xs 2) fsX owX v0X v1X v2X v3X fw0X fw1X fw2X H.size glenX gk0X gw0X gt0X gw1X gt1X gw2X gt2X) w_Mo_checked q3787 rfl rfl ⟨Nat.le_of_ble_eq_true rfl, Nat.le_of_ble_eq_true rfl⟩ (fun _ h => absurd h List.not_mem_nil) 0 (ci := 14) rfl rfl rfl hl.1 rfl (Nat.le_of_ble_eq_true rfl) rfl ⟨Nat.le_of_ble_eq_true rfl, (Nat.le_of_ble_eq_true rfl)⟩ d_Law_632) hP hD hS [0, 1, 2, 3, 4] [] rfl rfl rfl rfl (fun r_3 u_4 H locs hw hP hD hS hzH => ?_)
  have hw : r_3 = (-1) := hw
  have hP : va_P D CL [] H := hP
  have hD : va_D A [] := hD
  subst hw
  refine tpst (w := [.int (-1), .int (-1)]) rfl ?_
  refine lv_icmp_eq (tgt := 1768) G.1 G.2.1 d_Law_635 (by decide) (fun c635 => ?_) (fun c635 => absurd c635 (fun h => h rfl))
  refine lv_iinc (v := nI 6) (lv' := [(3, .int (nI 6)), (0, .ref b), (1, .ref h0), (2, .ref h0X)]) G.1 G.2.1 d_Law_1768 hl (k := 3) rfl (show (nI 0) + Int32.ofInt 6 = nI 6 from by decide) (by decide) rfl (fun ls hl => ?_)
  refine lv_goto (tgt := 18) G.1 G.2.1 d_Law_1771 (by decide) ?_
  refine lv_iload_n G.1 G.2.1 d_Law_18 rfl (lv_at hl 0 rfl) ?_
  refine lv_aload_n G.1 G.2.1 d_Law_19 rfl (lv_at hl 1 rfl) ?_
  refine va_slen G.1 G.2.1 hX hbl hbA hS d_Law_20 ?_
  refine tpi (w := nI 6) rfl ?_
  refine lv_bipush (v := nI 6) G.1 G.2.1 d_Law_21 (by decide) ?_
  refine lv_isub G.1 G.2.1 d_Law_23 ?_
  refine tpi (w := nI 0) (by decide) ?_
  refine lv_icmp_gt (tgt := 1774) G.1 G.2.1 d_Law_24 (by decide) (fun c24 => ?_) (fun c24 => absurd c24 (by decide))
  refine lv_iconst (v := nI 1) G.1 G.2.1 d_Law_1774 (by decide) ?_
  refine va_forget (fun q hq => hAA _ (hS.2.2 q hq)) ?_
  refine W.widen (k := 600002) (n := 7302232) (Nat.le_of_ble_eq_true rfl) (Nat.le_of_ble_eq_true rfl) ?_
  exact lw_ret G.1 G.2.1 G.2.2.2.1 G.2.2.2.2.1 d_Law_1775
theorem q1726 : Cond.code y_Cw_call b_Cw_call 6 (some .int) ∈ lw_ok := lw_okmem (List.mem_of_getElem? (i := 1726) (by decide +kernel)) rfl
theorem q1724 : Cond.instanceMethod y_Cw_call ∈ lw_ok := lw_okmem (List.mem_of_getElem? (i := 1724) (by decide +kernel)) rfl
theorem q1725 : Cond.selects y_Cw_call.cls y_Cw_call y_Cw_call ∈ lw_ok := lw_okmem (List.mem_of_getElem? (i := 1725) (by decide +kernel)) rfl
theorem w_Cw_call : CWv y_Cw_call b_Cw_call 6 (some .int) 2 ∧ Cond.instanceMethod y_Cw_call ∈ lw_ok ∧ Cond.selects y_Cw_call.cls y_Cw_call y_Cw_call ∈ lw_ok := ⟨⟨q1726, q329, by decide +kernel, by decide +kernel, by decide +kernel⟩, q1724, q1725⟩
theorem q1723 : Cond.methodLink "ClassWorksLaw" 67 y_Cw_call ∈ lw_ok := lw_okmem (List.mem_of_getElem? (i := 1723) (by decide +kernel)) rfl
theorem q3794 : Cond.code y_Mo_call b_Mo_call 3 (some .int) ∈ lw_ok := lw_okmem (List.mem_of_getElem? (i := 3794) (by decide +kernel)) rfl
theorem q3792 : Cond.instanceMethod y_Mo_call ∈ lw_ok := lw_okmem (List.mem_of_getElem? (i := 3792) (by decide +kernel)) rfl
theorem q3793 : Cond.selects y_Mo_call.cls y_Mo_call y_Mo_call ∈ lw_ok := lw_okmem (List.mem_of_getElem? (i := 3793) (by decide +kernel)) rfl
theorem w_Mo_call : CWv y_Mo_call b_Mo_call 3 (some .int) 2 ∧ Cond.instanceMethod y_Mo_call ∈ lw_ok ∧ Cond.selects y_Mo_call.cls y_Mo_call y_Mo_call ∈ lw_ok := ⟨⟨q3794, q348, by decide +kernel, by decide +kernel, by decide +kernel⟩, q3792, q3793⟩
theorem q3791 : Cond.methodLink "ClassWorksLaw" 70 y_Mo_call ∈ lw_ok := lw_okmem (List.mem_of_getElem? (i := 3791) (by decide +kernel)) rfl
theorem d_Law_640 : decode code 640 = .ok (.aload_n 1, 1) := by decide +kernel
theorem d_Law_641 : decode code 641 = .ok (.aload_n 0, 1) := by decide +kernel
theorem d_Law_642 : decode code 642 = .ok (.iload_n 3, 1) := by decide +kernel
theorem d_Law_643 : decode code 643 = .ok (.iconst 1, 1) := by decide +kernel
theorem d_Law_644 : decode code 644 = .ok (.iadd, 1) := by decide +kernel
theorem d_Law_645 : decode code 645 = .ok (.iaload, 1) := by decide +kernel
theorem d_Law_646 : decode code 646 = .ok (.aload_n 0, 1) := by decide +kernel
theorem d_Law_647 : decode code 647 = .ok (.iload_n 3, 1) := by decide +kernel
theorem d_Law_648 : decode code 648 = .ok (.iconst 2, 1) := by decide +kernel
theorem d_Law_649 : decode code 649 = .ok (.iadd, 1) := by decide +kernel
theorem d_Law_650 : decode code 650 = .ok (.iaload, 1) := by decide +kernel
theorem d_Law_651 : decode code 651 = .ok (.invokevirtual 67, 3) := by decide +kernel
theorem d_Law_654 : decode code 654 = .ok (.aload_n 2, 1) := by decide +kernel
theorem d_Law_655 : decode code 655 = .ok (.aload_n 0, 1) := by decide +kernel
theorem d_Law_656 : decode code 656 = .ok (.iload_n 3, 1) := by decide +kernel
theorem d_Law_657 : decode code 657 = .ok (.iconst 1, 1) := by decide +kernel
theorem d_Law_658 : decode code 658 = .ok (.iadd, 1) := by decide +kernel
theorem d_Law_659 : decode code 659 = .ok (.iaload, 1) := by decide +kernel
theorem d_Law_660 : decode code 660 = .ok (.aload_n 0, 1) := by decide +kernel
theorem d_Law_661 : decode code 661 = .ok (.iload_n 3, 1) := by decide +kernel
theorem d_Law_662 : decode code 662 = .ok (.iconst 2, 1) := by decide +kernel
theorem d_Law_663 : decode code 663 = .ok (.iadd, 1) := by decide +kernel
theorem d_Law_664 : decode code 664 = .ok (.iaload, 1) := by decide +kernel
theorem d_Law_665 : decode code 665 = .ok (.invokevirtual 70, 3) := by decide +kernel
theorem d_Law_668 : decode code 668 = .ok (.if_icmp .eq 1100, 3) := by decide +kernel
set_option maxHeartbeats 4000000 in
set_option maxRecDepth 100000 in
theorem law_call {p : Program} {e : Env} {s : State} {m : MethodId} {below : List Frame} {meth : Method} {c : Code} {l : Launch} {D : va_G} {g : Nat → ClassId} {sl : List SL} {b : Nat} {xs : Nat → Int32} {A : Nat → Prop} (h0 : Nat) (r_cwords : Nat) (r_creader : Nat) (r_cchecker : Nat) (r_cfinder : Nat) (r_cwriter : Nat) (r_cmachines : Nat) (r_ctape : Nat) (r_cstock : Nat) (r_csizes : Nat) (r_cmet : Nat) (r_cfound : Nat) (r_cdraft : Nat) (r_cfewestFor : Nat) (r_cfewestNext : Nat) (mm0 : Nat) (mm1 : Nat) (mm2 : Nat) (mm3 : Nat) (ww0 : Nat) (r_m0heap : Nat) (r_m0runs : Nat) (r_m0counts : Nat) (r_m0traceRow : Nat) (f_m0traceCount : Int32) (r_m0startedList : Nat) (f_m0startedCount : Int32) (f_m0present : Int32) (f_m0quantum : Int32) (f_m0stepsDone : Int32) (f_m0turnSteps : Int32) (f_m0turnMost : Int32) (f_m0turnOver : Int32) (r_m0finder : Nat) (r_m0names : Nat) (f_m0fault : Int32) (f_m0wanted : Int32) (f_m0thrown : Int32) (ww1 : Nat) (r_m1heap : Nat) (r_m1runs : Nat) (r_m1counts : Nat) (r_m1traceRow : Nat) (f_m1traceCount : Int32) (r_m1startedList : Nat) (f_m1startedCount : Int32) (f_m1present : Int32) (f_m1quantum : Int32) (f_m1stepsDone : Int32) (f_m1turnSteps : Int32) (f_m1turnMost : Int32) (f_m1turnOver : Int32) (r_m1finder : Nat) (r_m1names : Nat) (f_m1fault : Int32) (f_m1wanted : Int32) (f_m1thrown : Int32) (ww2 : Nat) (r_m2heap : Nat) (r_m2runs : Nat) (r_m2counts : Nat) (r_m2traceRow : Nat) (f_m2traceCount : Int32) (r_m2startedList : Nat) (f_m2startedCount : Int32) (f_m2present : Int32) (f_m2quantum : Int32) (f_m2stepsDone : Int32) (f_m2turnSteps : Int32) (f_m2turnMost : Int32) (f_m2turnOver : Int32) (r_m2finder : Nat) (r_m2names : Nat) (f_m2fault : Int32) (f_m2wanted : Int32) (f_m2thrown : Int32) (r_w0names : Nat) (f_w0wrongClass : Int32) (f_w0wrongMethod : Int32) (f_w0wrongAt : Int32) (r_w0rows : Nat) (r_w0above : Nat) (r_w0fields : Nat) (r_w0methods : Nat) (r_w0codes : Nat) (r_w0handlers : Nat) (r_w0extra : Nat) (r_w0orders : Nat) (r_w0classNamed : Nat) (f_w0breaks : Int32) (r_w0marks : Nat) (r_w1names : Nat) (f_w1wrongClass : Int32) (f_w1wrongMethod : Int32) (f_w1wrongAt : Int32) (r_w1rows : Nat) (r_w1above : Nat) (r_w1fields : Nat) (r_w1methods : Nat) (r_w1codes : Nat) (r_w1handlers : Nat) (r_w1extra : Nat) (r_w1orders : Nat) (r_w1classNamed : Nat) (f_w1breaks : Int32) (r_w1marks : Nat) (r_w2names : Nat) (f_w2wrongClass : Int32) (f_w2wrongMethod : Int32) (f_w2wrongAt : Int32) (r_w2rows : Nat) (r_w2above : Nat) (r_w2fields : Nat) (r_w2methods : Nat) (r_w2codes : Nat) (r_w2handlers : Nat) (r_w2extra : Nat) (r_w2orders : Nat) (r_w2classNamed : Nat) (f_w2breaks : Int32) (r_w2marks : Nat) (h0X : Nat) (fsX : List Value) (owX : Nat) (v0X : Nat) (v1X : Nat) (v2X : Nat) (v3X : Nat) (fw0X : List Value) (fw1X : List Value) (fw2X : List Value) (G : GV l p s m #[Value.ref b] meth c (⟨"ClassWorksLaw", meth.name, ""⟩ : MethodName) code 4 ret g D sl A) (hX : va_X b 6 xs s s.heap) (hbl : b < s.heap.size) (hbA : ¬ A b) (hAA : ∀ q, A q → s.heap.size ≤ q) {H : Heap} {locs : List Loc} {ls : Array Slot} (glenX : fsX.length = 131) (gk0X : fsX[44]? = some (.ref owX)) (gw0X : fw0X.length = 72) (gt0X : fw0X[0]? = some (.int (nI 0))) (gw1X : fw1X.length = 72) (gt1X : fw1X[0]? = some (.int (nI 0))) (gw2X : fw2X.length = 72) (gt2X : fw2X[0]? = some (.int (nI 0))) (hP : va_P D CL [(h0, .inr (11, [.ref r_cwords, .ref r_creader, .ref r_cchecker, .ref r_cfinder, .ref r_cwriter, .ref r_cmachines, .ref r_ctape, .int (nI 0), .int (-2), .int (nI 60000), .ref r_cstock, .ref r_csizes, .ref r_cmet, .ref r_cfound, .int (nI 0), .ref r_cdraft, .int (nI 0), .int (nI 0), .ref r_cfewestFor, .ref r_cfewestNext])), (r_cmachines, .inl (g 4, 4, .inr (.inr (.inr (.inr (va_up (va_up (va_up (va_up (fun _ => none) 0 (some mm0)) 1 (some mm1)) 2 (some mm2)) 3 (some mm3))))))), (mm0, .inr (4, [.ref ww0, .ref r_m0heap, .ref r_m0runs, .ref r_m0counts, .ref r_m0traceRow, .int f_m0traceCount, .ref r_m0startedList, .int f_m0startedCount, .int f_m0present, .int f_m0quantum, .int f_m0stepsDone, .int f_m0turnSteps, .int f_m0turnMost, .int f_m0turnOver, .ref r_m0finder, .ref r_m0names, .int f_m0fault, .int f_m0wanted, .int f_m0thrown])), (mm1, .inr (4, [.ref ww1, .ref r_m1heap, .ref r_m1runs, .ref r_m1counts, .ref r_m1traceRow, .int f_m1traceCount, .ref r_m1startedList, .int f_m1startedCount, .int f_m1present, .int f_m1quantum, .int f_m1stepsDone, .int f_m1turnSteps, .int f_m1turnMost, .int f_m1turnOver, .ref r_m1finder, .ref r_m1names, .int f_m1fault, .int f_m1wanted, .int f_m1thrown])), (mm2, .inr (4, [.ref ww2, .ref r_m2heap, .ref r_m2runs, .ref r_m2counts, .ref r_m2traceRow, .int f_m2traceCount, .ref r_m2startedList, .int f_m2startedCount, .int f_m2present, .int f_m2quantum, .int f_m2stepsDone, .int f_m2turnSteps, .int f_m2turnMost, .int f_m2turnOver, .ref r_m2finder, .ref r_m2names, .int f_m2fault, .int f_m2wanted, .int f_m2thrown])), (ww0, .inr (9, [.ref r_w0names, .int (nI 0), .int (nI 21), .int f_w0wrongClass, .int f_w0wrongMethod, .int f_w0wrongAt, .ref r_w0rows, .ref r_w0above, .ref r_w0fields, .ref r_w0methods, .ref r_w0codes, .ref r_w0handlers, .ref r_w0extra, .ref r_w0orders, .ref r_w0classNamed, .int f_w0breaks, .ref r_w0marks])), (ww1, .inr (9, [.ref r_w1names, .int (nI 0), .int (nI 21), .int f_w1wrongClass, .int f_w1wrongMethod, .int f_w1wrongAt, .ref r_w1rows, .ref r_w1above, .ref r_w1fields, .ref r_w1methods, .ref r_w1codes, .ref r_w1handlers, .ref r_w1extra, .ref r_w1orders, .ref r_w1classNamed, .int f_w1breaks, .ref r_w1marks])), (ww2, .inr (9, [.ref r_w2names, .int (nI 0), .int (nI 21), .int f_w2wrongClass, .int f_w2wrongMethod, .int f_w2wrongAt, .ref r_w2rows, .ref r_w2above, .ref r_w2fields, .ref r_w2methods, .ref r_w2codes, .ref r_w2handlers, .ref r_w2extra, .ref r_w2orders, .ref r_w2classNamed, .int f_w2breaks, .ref r_w2marks])), (h0X, .inr (14, fsX)), (owX, .inl (g 6, 4, .inr (.inr (.inr (.inr (va_up (va_up (va_up (va_up (fun _ => none) 0 (some v0X)) 1 (some v1X)) 2 (some v2X)) 3 (some v3X))))))), (v0X, .inr (13, fw0X)), (v1X, .inr (13, fw1X)), (v2X, .inr (13, fw2X))] H) (hD : va_D A [(h0, .inr (11, [.ref r_cwords, .ref r_creader, .ref r_cchecker, .ref r_cfinder, .ref r_cwriter, .ref r_cmachines, .ref r_ctape, .int (nI 0), .int (-2), .int (nI 60000), .ref r_cstock, .ref r_csizes, .ref r_cmet, .ref r_cfound, .int (nI 0), .ref r_cdraft, .int (nI 0), .int (nI 0), .ref r_cfewestFor, .ref r_cfewestNext])), (r_cmachines, .inl (g 4, 4, .inr (.inr (.inr (.inr (va_up (va_up (va_up (va_up (fun _ => none) 0 (some mm0)) 1 (some mm1)) 2 (some mm2)) 3 (some mm3))))))), (mm0, .inr (4, [.ref ww0, .ref r_m0heap, .ref r_m0runs, .ref r_m0counts, .ref r_m0traceRow, .int f_m0traceCount, .ref r_m0startedList, .int f_m0startedCount, .int f_m0present, .int f_m0quantum, .int f_m0stepsDone, .int f_m0turnSteps, .int f_m0turnMost, .int f_m0turnOver, .ref r_m0finder, .ref r_m0names, .int f_m0fault, .int f_m0wanted, .int f_m0thrown])), (mm1, .inr (4, [.ref ww1, .ref r_m1heap, .ref r_m1runs, .ref r_m1counts, .ref r_m1traceRow, .int f_m1traceCount, .ref r_m1startedList, .int f_m1startedCount, .int f_m1present, .int f_m1quantum, .int f_m1stepsDone, .int f_m1turnSteps, .int f_m1turnMost, .int f_m1turnOver, .ref r_m1finder, .ref r_m1names, .int f_m1fault, .int f_m1wanted, .int f_m1thrown])), (mm2, .inr (4, [.ref ww2, .ref r_m2heap, .ref r_m2runs, .ref r_m2counts, .ref r_m2traceRow, .int f_m2traceCount, .ref r_m2startedList, .int f_m2startedCount, .int f_m2present, .int f_m2quantum, .int f_m2stepsDone, .int f_m2turnSteps, .int f_m2turnMost, .int f_m2turnOver, .ref r_m2finder, .ref r_m2names, .int f_m2fault, .int f_m2wanted, .int f_m2thrown])), (ww0, .inr (9, [.ref r_w0names, .int (nI 0), .int (nI 21), .int f_w0wrongClass, .int f_w0wrongMethod, .int f_w0wrongAt, .ref r_w0rows, .ref r_w0above, .ref r_w0fields, .ref r_w0methods, .ref r_w0codes, .ref r_w0handlers, .ref r_w0extra, .ref r_w0orders, .ref r_w0classNamed, .int f_w0breaks, .ref r_w0marks])), (ww1, .inr (9, [.ref r_w1names, .int (nI 0), .int (nI 21), .int f_w1wrongClass, .int f_w1wrongMethod, .int f_w1wrongAt, .ref r_w1rows, .ref r_w1above, .ref r_w1fields, .ref r_w1methods, .ref r_w1codes, .ref r_w1handlers, .ref r_w1extra, .ref r_w1orders, .ref r_w1classNamed, .int f_w1breaks, .ref r_w1marks])), (ww2, .inr (9, [.ref r_w2names, .int (nI 0), .int (nI 21), .int f_w2wrongClass, .int f_w2wrongMethod, .int f_w2wrongAt, .ref r_w2rows, .ref r_w2above, .ref r_w2fields, .ref r_w2methods, .ref r_w2codes, .ref r_w2handlers, .ref r_w2extra, .ref r_w2orders, .ref r_w2classNamed, .int f_w2breaks, .ref r_w2marks])), (h0X, .inr (14, fsX)), (owX, .inl (g 6, 4, .inr (.inr (.inr (.inr (va_up (va_up (va_up (va_up (fun _ => none) 0 (some v0X)) 1 (some v1X)) 2 (some v2X)) 3 (some v3X))))))), (v0X, .inr (13, fw0X)), (v1X, .inr (13, fw1X)), (v2X, .inr (13, fw2X))]) (hS : va_S A s.heap H locs) (hl : lv_has ls 4 [(0, .ref b), (1, .ref h0), (2, .ref h0X), (3, .int (nI 0))]) : W p l e room_1 s m #[Value.ref b] below meth c H locs 702 488194 (lw_Z below #[Value.ref b] s) (F0 m 640 ls []) := by
  refine lv_aload_n G.1 G.2.1 d_Law_640 rfl (lv_at hl 1 rfl) ?_
  refine lv_aload_n G.1 G.2.1 d_Law_641 rfl (lv_at hl 0 rfl) ?_
  refine lv_iload_n G.1 G.2.1 d_Law_642 rfl (lv_at hl 3 rfl) ?_
  refine lv_iconst (v := nI 1) G.1 G.2.1 d_Law_643 (by decide) ?_
  refine lv_iadd G.1 G.2.1 d_Law_644 ?_
  refine tpi (w := nI 1) (by decide) ?_
  refine va_sld G.1 G.2.1 hX hbl hbA hS (nI_inn (n := 6) (a := 1) (by decide) (by decide)) d_Law_645 ?_
  refine tpi (w := (xs 1)) (by rw [nI_clamp (by decide)]) ?_
  refine lv_aload_n G.1 G.2.1 d_Law_646 rfl (lv_at hl 0 rfl) ?_
  refine lv_iload_n G.1 G.2.1 d_Law_647 rfl (lv_at hl 3 rfl) ?_
  refine lv_iconst (v := nI 2) G.1 G.2.1 d_Law_648 (by decide) ?_
  refine lv_iadd G.1 G.2.1 d_Law_649 ?_
  refine tpi (w := nI 2) (by decide) ?_
  refine va_sld G.1 G.2.1 hX hbl hbA hS (nI_inn (n := 6) (a := 2) (by decide) (by decide)) d_Law_650 ?_
  refine tpi (w := (xs 2)) (by rw [nI_clamp (by decide)]) ?_
  refine W.eq (g2 := F0 m 651 ls [.int (xs 2), .int (xs 1), .ref h0]) rfl ?_
  refine kEi (wr := [(h0X, .inr (14, fsX)), (owX, .inl (g 6, 4, .inr (.inr (.inr (.inr (va_up (va_up (va_up (va_up (fun _ => none) 0 (some v0X)) 1 (some v1X)) 2 (some v2X)) 3 (some v3X))))))), (v0X, .inr (13, fw0X)), (v1X, .inr (13, fw1X)), (v2X, .inr (13, fw2X))]) G (kV (As := [.int (xs 1), .int (xs 2)]) (rest := []) G hP hD hS [0, 1, 2, 3, 4, 5, 6, 7] rfl rfl (c_Cw_call l D g h0 (xs 1) (xs 2) r_cwords r_creader r_cchecker r_cfinder r_cwriter r_cmachines r_ctape r_cstock r_csizes r_cmet r_cfound r_cdraft r_cfewestFor r_cfewestNext mm0 mm1 mm2 mm3 ww0 r_m0heap r_m0runs r_m0counts r_m0traceRow f_m0traceCount r_m0startedList f_m0startedCount f_m0present f_m0quantum f_m0stepsDone f_m0turnSteps f_m0turnMost f_m0turnOver r_m0finder r_m0names f_m0fault f_m0wanted f_m0thrown ww1 r_m1heap r_m1runs r_m1counts r_m1traceRow f_m1traceCount r_m1startedList f_m1startedCount f_m1present f_m1quantum f_m1stepsDone f_m1turnSteps f_m1turnMost f_m1turnOver r_m1finder r_m1names f_m1fault f_m1wanted f_m1thrown ww2 r_m2heap r_m2runs r_m2counts r_m2traceRow f_m2traceCount r_m2startedList f_m2startedCount f_m2present f_m2quantum f_m2stepsDone f_m2turnSteps f_m2turnMost f_m2turnOver r_m2finder r_m2names f_m2fault f_m2wanted f_m2thrown r_w0names f_w0wrongClass f_w0wrongMethod f_w0wrongAt r_w0rows r_w0above r_w0fields r_w0methods r_w0codes r_w0handlers r_w0extra r_w0orders r_w0classNamed f_w0breaks r_w0marks r_w1names f_w1wrongClass f_w1wrongMethod f_w1wrongAt r_w1rows r_w1above r_w1fields r_w1methods r_w1codes r_w1handlers r_w1extra r_w1orders r_w1classNamed f_w1breaks r_w1marks r_w2names f_w2wrongClass f_w2wrongMethod f_w2wrongAt r_w2rows r_w2above r_w2fields r_w2methods r_w2codes r_w2handlers r_w2extra r_w2orders r_w2classNamed f_w2breaks r_w2marks H.size ) w_Cw_call q1723 rfl rfl ⟨Nat.le_of_ble_eq_true rfl, Nat.le_of_ble_eq_true rfl⟩ (fun _ h => absurd h List.not_mem_nil) 0 (ci := 11) rfl rfl rfl hl.1 rfl (Nat.le_of_ble_eq_true rfl) rfl ⟨Nat.le_of_ble_eq_true rfl, (Nat.le_of_ble_eq_true rfl)⟩ d_Law_651) hP hD hS [0, 1, 2, 3, 4, 5, 6, 7] [8, 9, 10, 11, 12] rfl rfl rfl rfl (fun r_1 u_2 H locs hw hP hD hS hzH => ?_)
  have hw : r_1 = (-1) := hw
  have hP : va_P D CL [(h0X, .inr (14, fsX)), (owX, .inl (g 6, 4, .inr (.inr (.inr (.inr (va_up (va_up (va_up (va_up (fun _ => none) 0 (some v0X)) 1 (some v1X)) 2 (some v2X)) 3 (some v3X))))))), (v0X, .inr (13, fw0X)), (v1X, .inr (13, fw1X)), (v2X, .inr (13, fw2X))] H := hP
  have hD : va_D A [(h0X, .inr (14, fsX)), (owX, .inl (g 6, 4, .inr (.inr (.inr (.inr (va_up (va_up (va_up (va_up (fun _ => none) 0 (some v0X)) 1 (some v1X)) 2 (some v2X)) 3 (some v3X))))))), (v0X, .inr (13, fw0X)), (v1X, .inr (13, fw1X)), (v2X, .inr (13, fw2X))] := hD
  subst hw
  refine tpst (w := [.int (-1)]) rfl ?_
  refine lv_aload_n G.1 G.2.1 d_Law_654 rfl (lv_at hl 2 rfl) ?_
  refine lv_aload_n G.1 G.2.1 d_Law_655 rfl (lv_at hl 0 rfl) ?_
  refine lv_iload_n G.1 G.2.1 d_Law_656 rfl (lv_at hl 3 rfl) ?_
  refine lv_iconst (v := nI 1) G.1 G.2.1 d_Law_657 (by decide) ?_
  refine lv_iadd G.1 G.2.1 d_Law_658 ?_
  refine tpi (w := nI 1) (by decide) ?_
  refine va_sld G.1 G.2.1 hX hbl hbA hS (nI_inn (n := 6) (a := 1) (by decide) (by decide)) d_Law_659 ?_
  refine tpi (w := (xs 1)) (by rw [nI_clamp (by decide)]) ?_
  refine lv_aload_n G.1 G.2.1 d_Law_660 rfl (lv_at hl 0 rfl) ?_
  refine lv_iload_n G.1 G.2.1 d_Law_661 rfl (lv_at hl 3 rfl) ?_
  refine lv_iconst (v := nI 2) G.1 G.2.1 d_Law_662 (by decide) ?_
  refine lv_iadd G.1 G.2.1 d_Law_663 ?_
  refine tpi (w := nI 2) (by decide) ?_
  refine va_sld G.1 G.2.1 hX hbl hbA hS (nI_inn (n := 6) (a := 2) (by decide) (by decide)) d_Law_664 ?_
  refine tpi (w := (xs 2)) (by rw [nI_clamp (by decide)]) ?_
  refine W.eq (g2 := F0 m 665 ls [.int (xs 2), .int (xs 1), .ref h0X, .int (-1)]) rfl ?_
  refine kEi (wr := []) G (kV (As := [.int (xs 1), .int (xs 2)]) (rest := [.int (-1)]) G hP hD hS [0, 1, 2, 3, 4] rfl rfl (c_Mo_call l D g h0X (xs 1) (xs 2) fsX owX v0X v1X v2X v3X fw0X fw1X fw2X H.size glenX gk0X gw0X gt0X gw1X gt1X gw2X gt2X) w_Mo_call q3791 rfl rfl ⟨Nat.le_of_ble_eq_true rfl, Nat.le_of_ble_eq_true rfl⟩ (fun _ h => absurd h List.not_mem_nil) 0 (ci := 14) rfl rfl rfl hl.1 rfl (Nat.le_of_ble_eq_true rfl) rfl ⟨Nat.le_of_ble_eq_true rfl, (Nat.le_of_ble_eq_true rfl)⟩ d_Law_665) hP hD hS [0, 1, 2, 3, 4] [] rfl rfl rfl rfl (fun r_3 u_4 H locs hw hP hD hS hzH => ?_)
  have hw : r_3 = (-1) := hw
  have hP : va_P D CL [] H := hP
  have hD : va_D A [] := hD
  subst hw
  refine tpst (w := [.int (-1), .int (-1)]) rfl ?_
  refine lv_icmp_eq (tgt := 1768) G.1 G.2.1 d_Law_668 (by decide) (fun c668 => ?_) (fun c668 => absurd c668 (fun h => h rfl))
  refine lv_iinc (v := nI 6) (lv' := [(3, .int (nI 6)), (0, .ref b), (1, .ref h0), (2, .ref h0X)]) G.1 G.2.1 d_Law_1768 hl (k := 3) rfl (show (nI 0) + Int32.ofInt 6 = nI 6 from by decide) (by decide) rfl (fun ls hl => ?_)
  refine lv_goto (tgt := 18) G.1 G.2.1 d_Law_1771 (by decide) ?_
  refine lv_iload_n G.1 G.2.1 d_Law_18 rfl (lv_at hl 0 rfl) ?_
  refine lv_aload_n G.1 G.2.1 d_Law_19 rfl (lv_at hl 1 rfl) ?_
  refine va_slen G.1 G.2.1 hX hbl hbA hS d_Law_20 ?_
  refine tpi (w := nI 6) rfl ?_
  refine lv_bipush (v := nI 6) G.1 G.2.1 d_Law_21 (by decide) ?_
  refine lv_isub G.1 G.2.1 d_Law_23 ?_
  refine tpi (w := nI 0) (by decide) ?_
  refine lv_icmp_gt (tgt := 1774) G.1 G.2.1 d_Law_24 (by decide) (fun c24 => ?_) (fun c24 => absurd c24 (by decide))
  refine lv_iconst (v := nI 1) G.1 G.2.1 d_Law_1774 (by decide) ?_
  refine va_forget (fun q hq => hAA _ (hS.2.2 q hq)) ?_
  refine W.widen (k := 600002) (n := 7302232) (Nat.le_of_ble_eq_true rfl) (Nat.le_of_ble_eq_true rfl) ?_
  exact lw_ret G.1 G.2.1 G.2.2.2.1 G.2.2.2.2.1 d_Law_1775
theorem q1756 : Cond.code y_Cw_quantum b_Cw_quantum 5 (some .int) ∈ lw_ok := lw_okmem (List.mem_of_getElem? (i := 1756) (by decide +kernel)) rfl
theorem q1754 : Cond.instanceMethod y_Cw_quantum ∈ lw_ok := lw_okmem (List.mem_of_getElem? (i := 1754) (by decide +kernel)) rfl
theorem q1755 : Cond.selects y_Cw_quantum.cls y_Cw_quantum y_Cw_quantum ∈ lw_ok := lw_okmem (List.mem_of_getElem? (i := 1755) (by decide +kernel)) rfl
theorem w_Cw_quantum : CWv y_Cw_quantum b_Cw_quantum 5 (some .int) 2 ∧ Cond.instanceMethod y_Cw_quantum ∈ lw_ok ∧ Cond.selects y_Cw_quantum.cls y_Cw_quantum y_Cw_quantum ∈ lw_ok := ⟨⟨q1756, q329, by decide +kernel, by decide +kernel, by decide +kernel⟩, q1754, q1755⟩
theorem q1753 : Cond.methodLink "ClassWorksLaw" 71 y_Cw_quantum ∈ lw_ok := lw_okmem (List.mem_of_getElem? (i := 1753) (by decide +kernel)) rfl
theorem q3817 : Cond.code y_Mo_quantum b_Mo_quantum 4 (some .int) ∈ lw_ok := lw_okmem (List.mem_of_getElem? (i := 3817) (by decide +kernel)) rfl
theorem q3815 : Cond.instanceMethod y_Mo_quantum ∈ lw_ok := lw_okmem (List.mem_of_getElem? (i := 3815) (by decide +kernel)) rfl
theorem q3816 : Cond.selects y_Mo_quantum.cls y_Mo_quantum y_Mo_quantum ∈ lw_ok := lw_okmem (List.mem_of_getElem? (i := 3816) (by decide +kernel)) rfl
theorem w_Mo_quantum : CWv y_Mo_quantum b_Mo_quantum 4 (some .int) 2 ∧ Cond.instanceMethod y_Mo_quantum ∈ lw_ok ∧ Cond.selects y_Mo_quantum.cls y_Mo_quantum y_Mo_quantum ∈ lw_ok := ⟨⟨q3817, q348, by decide +kernel, by decide +kernel, by decide +kernel⟩, q3815, q3816⟩
theorem q3814 : Cond.methodLink "ClassWorksLaw" 74 y_Mo_quantum ∈ lw_ok := lw_okmem (List.mem_of_getElem? (i := 3814) (by decide +kernel)) rfl
theorem d_Law_673 : decode code 673 = .ok (.aload_n 1, 1) := by decide +kernel
theorem d_Law_674 : decode code 674 = .ok (.aload_n 0, 1) := by decide +kernel
theorem d_Law_675 : decode code 675 = .ok (.iload_n 3, 1) := by decide +kernel
theorem d_Law_676 : decode code 676 = .ok (.iconst 1, 1) := by decide +kernel
theorem d_Law_677 : decode code 677 = .ok (.iadd, 1) := by decide +kernel
theorem d_Law_678 : decode code 678 = .ok (.iaload, 1) := by decide +kernel
theorem d_Law_679 : decode code 679 = .ok (.aload_n 0, 1) := by decide +kernel
theorem d_Law_680 : decode code 680 = .ok (.iload_n 3, 1) := by decide +kernel
theorem d_Law_681 : decode code 681 = .ok (.iconst 2, 1) := by decide +kernel
theorem d_Law_682 : decode code 682 = .ok (.iadd, 1) := by decide +kernel
theorem d_Law_683 : decode code 683 = .ok (.iaload, 1) := by decide +kernel
theorem d_Law_684 : decode code 684 = .ok (.invokevirtual 71, 3) := by decide +kernel
theorem d_Law_687 : decode code 687 = .ok (.aload_n 2, 1) := by decide +kernel
theorem d_Law_688 : decode code 688 = .ok (.aload_n 0, 1) := by decide +kernel
theorem d_Law_689 : decode code 689 = .ok (.iload_n 3, 1) := by decide +kernel
theorem d_Law_690 : decode code 690 = .ok (.iconst 1, 1) := by decide +kernel
theorem d_Law_691 : decode code 691 = .ok (.iadd, 1) := by decide +kernel
theorem d_Law_692 : decode code 692 = .ok (.iaload, 1) := by decide +kernel
theorem d_Law_693 : decode code 693 = .ok (.aload_n 0, 1) := by decide +kernel
theorem d_Law_694 : decode code 694 = .ok (.iload_n 3, 1) := by decide +kernel
theorem d_Law_695 : decode code 695 = .ok (.iconst 2, 1) := by decide +kernel
theorem d_Law_696 : decode code 696 = .ok (.iadd, 1) := by decide +kernel
theorem d_Law_697 : decode code 697 = .ok (.iaload, 1) := by decide +kernel
theorem d_Law_698 : decode code 698 = .ok (.invokevirtual 74, 3) := by decide +kernel
theorem d_Law_701 : decode code 701 = .ok (.if_icmp .eq 1067, 3) := by decide +kernel
set_option maxHeartbeats 4000000 in
set_option maxRecDepth 100000 in
theorem law_quantum {p : Program} {e : Env} {s : State} {m : MethodId} {below : List Frame} {meth : Method} {c : Code} {l : Launch} {D : va_G} {g : Nat → ClassId} {sl : List SL} {b : Nat} {xs : Nat → Int32} {A : Nat → Prop} (h0 : Nat) (r_cwords : Nat) (r_creader : Nat) (r_cchecker : Nat) (r_cfinder : Nat) (r_cwriter : Nat) (r_cmachines : Nat) (r_ctape : Nat) (r_cstock : Nat) (r_csizes : Nat) (r_cmet : Nat) (r_cfound : Nat) (r_cdraft : Nat) (r_cfewestFor : Nat) (r_cfewestNext : Nat) (mm0 : Nat) (mm1 : Nat) (mm2 : Nat) (mm3 : Nat) (ww0 : Nat) (r_m0heap : Nat) (r_m0runs : Nat) (r_m0counts : Nat) (r_m0traceRow : Nat) (f_m0traceCount : Int32) (r_m0startedList : Nat) (f_m0startedCount : Int32) (f_m0present : Int32) (f_m0quantum : Int32) (f_m0stepsDone : Int32) (f_m0turnSteps : Int32) (f_m0turnMost : Int32) (f_m0turnOver : Int32) (r_m0finder : Nat) (r_m0names : Nat) (f_m0fault : Int32) (f_m0wanted : Int32) (f_m0thrown : Int32) (ww1 : Nat) (r_m1heap : Nat) (r_m1runs : Nat) (r_m1counts : Nat) (r_m1traceRow : Nat) (f_m1traceCount : Int32) (r_m1startedList : Nat) (f_m1startedCount : Int32) (f_m1present : Int32) (f_m1quantum : Int32) (f_m1stepsDone : Int32) (f_m1turnSteps : Int32) (f_m1turnMost : Int32) (f_m1turnOver : Int32) (r_m1finder : Nat) (r_m1names : Nat) (f_m1fault : Int32) (f_m1wanted : Int32) (f_m1thrown : Int32) (ww2 : Nat) (r_m2heap : Nat) (r_m2runs : Nat) (r_m2counts : Nat) (r_m2traceRow : Nat) (f_m2traceCount : Int32) (r_m2startedList : Nat) (f_m2startedCount : Int32) (f_m2present : Int32) (f_m2quantum : Int32) (f_m2stepsDone : Int32) (f_m2turnSteps : Int32) (f_m2turnMost : Int32) (f_m2turnOver : Int32) (r_m2finder : Nat) (r_m2names : Nat) (f_m2fault : Int32) (f_m2wanted : Int32) (f_m2thrown : Int32) (r_w0names : Nat) (f_w0wrongClass : Int32) (f_w0wrongMethod : Int32) (f_w0wrongAt : Int32) (r_w0rows : Nat) (r_w0above : Nat) (r_w0fields : Nat) (r_w0methods : Nat) (r_w0codes : Nat) (r_w0handlers : Nat) (r_w0extra : Nat) (r_w0orders : Nat) (r_w0classNamed : Nat) (f_w0breaks : Int32) (r_w0marks : Nat) (r_w1names : Nat) (f_w1wrongClass : Int32) (f_w1wrongMethod : Int32) (f_w1wrongAt : Int32) (r_w1rows : Nat) (r_w1above : Nat) (r_w1fields : Nat) (r_w1methods : Nat) (r_w1codes : Nat) (r_w1handlers : Nat) (r_w1extra : Nat) (r_w1orders : Nat) (r_w1classNamed : Nat) (f_w1breaks : Int32) (r_w1marks : Nat) (r_w2names : Nat) (f_w2wrongClass : Int32) (f_w2wrongMethod : Int32) (f_w2wrongAt : Int32) (r_w2rows : Nat) (r_w2above : Nat) (r_w2fields : Nat) (r_w2methods : Nat) (r_w2codes : Nat) (r_w2handlers : Nat) (r_w2extra : Nat) (r_w2orders : Nat) (r_w2classNamed : Nat) (f_w2breaks : Int32) (r_w2marks : Nat) (h0X : Nat) (fsX : List Value) (owX : Nat) (v0X : Nat) (v1X : Nat) (v2X : Nat) (v3X : Nat) (fw0X : List Value) (fw1X : List Value) (fw2X : List Value) (G : GV l p s m #[Value.ref b] meth c (⟨"ClassWorksLaw", meth.name, ""⟩ : MethodName) code 4 ret g D sl A) (hX : va_X b 6 xs s s.heap) (hbl : b < s.heap.size) (hbA : ¬ A b) (hAA : ∀ q, A q → s.heap.size ≤ q) {H : Heap} {locs : List Loc} {ls : Array Slot} (glenX : fsX.length = 131) (gk0X : fsX[44]? = some (.ref owX)) (gw0X : fw0X.length = 72) (gt0X : fw0X[0]? = some (.int (nI 0))) (gw1X : fw1X.length = 72) (gt1X : fw1X[0]? = some (.int (nI 0))) (gw2X : fw2X.length = 72) (gt2X : fw2X[0]? = some (.int (nI 0))) (hP : va_P D CL [(h0, .inr (11, [.ref r_cwords, .ref r_creader, .ref r_cchecker, .ref r_cfinder, .ref r_cwriter, .ref r_cmachines, .ref r_ctape, .int (nI 0), .int (-2), .int (nI 60000), .ref r_cstock, .ref r_csizes, .ref r_cmet, .ref r_cfound, .int (nI 0), .ref r_cdraft, .int (nI 0), .int (nI 0), .ref r_cfewestFor, .ref r_cfewestNext])), (r_cmachines, .inl (g 4, 4, .inr (.inr (.inr (.inr (va_up (va_up (va_up (va_up (fun _ => none) 0 (some mm0)) 1 (some mm1)) 2 (some mm2)) 3 (some mm3))))))), (mm0, .inr (4, [.ref ww0, .ref r_m0heap, .ref r_m0runs, .ref r_m0counts, .ref r_m0traceRow, .int f_m0traceCount, .ref r_m0startedList, .int f_m0startedCount, .int f_m0present, .int f_m0quantum, .int f_m0stepsDone, .int f_m0turnSteps, .int f_m0turnMost, .int f_m0turnOver, .ref r_m0finder, .ref r_m0names, .int f_m0fault, .int f_m0wanted, .int f_m0thrown])), (mm1, .inr (4, [.ref ww1, .ref r_m1heap, .ref r_m1runs, .ref r_m1counts, .ref r_m1traceRow, .int f_m1traceCount, .ref r_m1startedList, .int f_m1startedCount, .int f_m1present, .int f_m1quantum, .int f_m1stepsDone, .int f_m1turnSteps, .int f_m1turnMost, .int f_m1turnOver, .ref r_m1finder, .ref r_m1names, .int f_m1fault, .int f_m1wanted, .int f_m1thrown])), (mm2, .inr (4, [.ref ww2, .ref r_m2heap, .ref r_m2runs, .ref r_m2counts, .ref r_m2traceRow, .int f_m2traceCount, .ref r_m2startedList, .int f_m2startedCount, .int f_m2present, .int f_m2quantum, .int f_m2stepsDone, .int f_m2turnSteps, .int f_m2turnMost, .int f_m2turnOver, .ref r_m2finder, .ref r_m2names, .int f_m2fault, .int f_m2wanted, .int f_m2thrown])), (ww0, .inr (9, [.ref r_w0names, .int (nI 0), .int (nI 21), .int f_w0wrongClass, .int f_w0wrongMethod, .int f_w0wrongAt, .ref r_w0rows, .ref r_w0above, .ref r_w0fields, .ref r_w0methods, .ref r_w0codes, .ref r_w0handlers, .ref r_w0extra, .ref r_w0orders, .ref r_w0classNamed, .int f_w0breaks, .ref r_w0marks])), (ww1, .inr (9, [.ref r_w1names, .int (nI 0), .int (nI 21), .int f_w1wrongClass, .int f_w1wrongMethod, .int f_w1wrongAt, .ref r_w1rows, .ref r_w1above, .ref r_w1fields, .ref r_w1methods, .ref r_w1codes, .ref r_w1handlers, .ref r_w1extra, .ref r_w1orders, .ref r_w1classNamed, .int f_w1breaks, .ref r_w1marks])), (ww2, .inr (9, [.ref r_w2names, .int (nI 0), .int (nI 21), .int f_w2wrongClass, .int f_w2wrongMethod, .int f_w2wrongAt, .ref r_w2rows, .ref r_w2above, .ref r_w2fields, .ref r_w2methods, .ref r_w2codes, .ref r_w2handlers, .ref r_w2extra, .ref r_w2orders, .ref r_w2classNamed, .int f_w2breaks, .ref r_w2marks])), (h0X, .inr (14, fsX)), (owX, .inl (g 6, 4, .inr (.inr (.inr (.inr (va_up (va_up (va_up (va_up (fun _ => none) 0 (some v0X)) 1 (some v1X)) 2 (some v2X)) 3 (some v3X))))))), (v0X, .inr (13, fw0X)), (v1X, .inr (13, fw1X)), (v2X, .inr (13, fw2X))] H) (hD : va_D A [(h0, .inr (11, [.ref r_cwords, .ref r_creader, .ref r_cchecker, .ref r_cfinder, .ref r_cwriter, .ref r_cmachines, .ref r_ctape, .int (nI 0), .int (-2), .int (nI 60000), .ref r_cstock, .ref r_csizes, .ref r_cmet, .ref r_cfound, .int (nI 0), .ref r_cdraft, .int (nI 0), .int (nI 0), .ref r_cfewestFor, .ref r_cfewestNext])), (r_cmachines, .inl (g 4, 4, .inr (.inr (.inr (.inr (va_up (va_up (va_up (va_up (fun _ => none) 0 (some mm0)) 1 (some mm1)) 2 (some mm2)) 3 (some mm3))))))), (mm0, .inr (4, [.ref ww0, .ref r_m0heap, .ref r_m0runs, .ref r_m0counts, .ref r_m0traceRow, .int f_m0traceCount, .ref r_m0startedList, .int f_m0startedCount, .int f_m0present, .int f_m0quantum, .int f_m0stepsDone, .int f_m0turnSteps, .int f_m0turnMost, .int f_m0turnOver, .ref r_m0finder, .ref r_m0names, .int f_m0fault, .int f_m0wanted, .int f_m0thrown])), (mm1, .inr (4, [.ref ww1, .ref r_m1heap, .ref r_m1runs, .ref r_m1counts, .ref r_m1traceRow, .int f_m1traceCount, .ref r_m1startedList, .int f_m1startedCount, .int f_m1present, .int f_m1quantum, .int f_m1stepsDone, .int f_m1turnSteps, .int f_m1turnMost, .int f_m1turnOver, .ref r_m1finder, .ref r_m1names, .int f_m1fault, .int f_m1wanted, .int f_m1thrown])), (mm2, .inr (4, [.ref ww2, .ref r_m2heap, .ref r_m2runs, .ref r_m2counts, .ref r_m2traceRow, .int f_m2traceCount, .ref r_m2startedList, .int f_m2startedCount, .int f_m2present, .int f_m2quantum, .int f_m2stepsDone, .int f_m2turnSteps, .int f_m2turnMost, .int f_m2turnOver, .ref r_m2finder, .ref r_m2names, .int f_m2fault, .int f_m2wanted, .int f_m2thrown])), (ww0, .inr (9, [.ref r_w0names, .int (nI 0), .int (nI 21), .int f_w0wrongClass, .int f_w0wrongMethod, .int f_w0wrongAt, .ref r_w0rows, .ref r_w0above, .ref r_w0fields, .ref r_w0methods, .ref r_w0codes, .ref r_w0handlers, .ref r_w0extra, .ref r_w0orders, .ref r_w0classNamed, .int f_w0breaks, .ref r_w0marks])), (ww1, .inr (9, [.ref r_w1names, .int (nI 0), .int (nI 21), .int f_w1wrongClass, .int f_w1wrongMethod, .int f_w1wrongAt, .ref r_w1rows, .ref r_w1above, .ref r_w1fields, .ref r_w1methods, .ref r_w1codes, .ref r_w1handlers, .ref r_w1extra, .ref r_w1orders, .ref r_w1classNamed, .int f_w1breaks, .ref r_w1marks])), (ww2, .inr (9, [.ref r_w2names, .int (nI 0), .int (nI 21), .int f_w2wrongClass, .int f_w2wrongMethod, .int f_w2wrongAt, .ref r_w2rows, .ref r_w2above, .ref r_w2fields, .ref r_w2methods, .ref r_w2codes, .ref r_w2handlers, .ref r_w2extra, .ref r_w2orders, .ref r_w2classNamed, .int f_w2breaks, .ref r_w2marks])), (h0X, .inr (14, fsX)), (owX, .inl (g 6, 4, .inr (.inr (.inr (.inr (va_up (va_up (va_up (va_up (fun _ => none) 0 (some v0X)) 1 (some v1X)) 2 (some v2X)) 3 (some v3X))))))), (v0X, .inr (13, fw0X)), (v1X, .inr (13, fw1X)), (v2X, .inr (13, fw2X))]) (hS : va_S A s.heap H locs) (hl : lv_has ls 4 [(0, .ref b), (1, .ref h0), (2, .ref h0X), (3, .int (nI 0))]) : W p l e room_1 s m #[Value.ref b] below meth c H locs 702 488194 (lw_Z below #[Value.ref b] s) (F0 m 673 ls []) := by
  refine lv_aload_n G.1 G.2.1 d_Law_673 rfl (lv_at hl 1 rfl) ?_
  refine lv_aload_n G.1 G.2.1 d_Law_674 rfl (lv_at hl 0 rfl) ?_
  refine lv_iload_n G.1 G.2.1 d_Law_675 rfl (lv_at hl 3 rfl) ?_
  refine lv_iconst (v := nI 1) G.1 G.2.1 d_Law_676 (by decide) ?_
  refine lv_iadd G.1 G.2.1 d_Law_677 ?_
  refine tpi (w := nI 1) (by decide) ?_
  refine va_sld G.1 G.2.1 hX hbl hbA hS (nI_inn (n := 6) (a := 1) (by decide) (by decide)) d_Law_678 ?_
  refine tpi (w := (xs 1)) (by rw [nI_clamp (by decide)]) ?_
  refine lv_aload_n G.1 G.2.1 d_Law_679 rfl (lv_at hl 0 rfl) ?_
  refine lv_iload_n G.1 G.2.1 d_Law_680 rfl (lv_at hl 3 rfl) ?_
  refine lv_iconst (v := nI 2) G.1 G.2.1 d_Law_681 (by decide) ?_
  refine lv_iadd G.1 G.2.1 d_Law_682 ?_
  refine tpi (w := nI 2) (by decide) ?_
  refine va_sld G.1 G.2.1 hX hbl hbA hS (nI_inn (n := 6) (a := 2) (by decide) (by decide)) d_Law_683 ?_
  refine tpi (w := (xs 2)) (by rw [nI_clamp (by decide)]) ?_
  refine W.eq (g2 := F0 m 684 ls [.int (xs 2), .int (xs 1), .ref h0]) rfl ?_
  refine kEi (wr := [(h0X, .inr (14, fsX)), (owX, .inl (g 6, 4, .inr (.inr (.inr (.inr (va_up (va_up (va_up (va_up (fun _ => none) 0 (some v0X)) 1 (some v1X)) 2 (some v2X)) 3 (some v3X))))))), (v0X, .inr (13, fw0X)), (v1X, .inr (13, fw1X)), (v2X, .inr (13, fw2X))]) G (kV (As := [.int (xs 1), .int (xs 2)]) (rest := []) G hP hD hS [0, 1, 2, 3, 4, 5, 6, 7] rfl rfl (c_Cw_quantum l D g h0 (xs 1) (xs 2) r_cwords r_creader r_cchecker r_cfinder r_cwriter r_cmachines r_ctape r_cstock r_csizes r_cmet r_cfound r_cdraft r_cfewestFor r_cfewestNext mm0 mm1 mm2 mm3 ww0 r_m0heap r_m0runs r_m0counts r_m0traceRow f_m0traceCount r_m0startedList f_m0startedCount f_m0present f_m0quantum f_m0stepsDone f_m0turnSteps f_m0turnMost f_m0turnOver r_m0finder r_m0names f_m0fault f_m0wanted f_m0thrown ww1 r_m1heap r_m1runs r_m1counts r_m1traceRow f_m1traceCount r_m1startedList f_m1startedCount f_m1present f_m1quantum f_m1stepsDone f_m1turnSteps f_m1turnMost f_m1turnOver r_m1finder r_m1names f_m1fault f_m1wanted f_m1thrown ww2 r_m2heap r_m2runs r_m2counts r_m2traceRow f_m2traceCount r_m2startedList f_m2startedCount f_m2present f_m2quantum f_m2stepsDone f_m2turnSteps f_m2turnMost f_m2turnOver r_m2finder r_m2names f_m2fault f_m2wanted f_m2thrown r_w0names f_w0wrongClass f_w0wrongMethod f_w0wrongAt r_w0rows r_w0above r_w0fields r_w0methods r_w0codes r_w0handlers r_w0extra r_w0orders r_w0classNamed f_w0breaks r_w0marks r_w1names f_w1wrongClass f_w1wrongMethod f_w1wrongAt r_w1rows r_w1above r_w1fields r_w1methods r_w1codes r_w1handlers r_w1extra r_w1orders r_w1classNamed f_w1breaks r_w1marks r_w2names f_w2wrongClass f_w2wrongMethod f_w2wrongAt r_w2rows r_w2above r_w2fields r_w2methods r_w2codes r_w2handlers r_w2extra r_w2orders r_w2classNamed f_w2breaks r_w2marks H.size ) w_Cw_quantum q1753 rfl rfl ⟨Nat.le_of_ble_eq_true rfl, Nat.le_of_ble_eq_true rfl⟩ (fun _ h => absurd h List.not_mem_nil) 0 (ci := 11) rfl rfl rfl hl.1 rfl (Nat.le_of_ble_eq_true rfl) rfl ⟨Nat.le_of_ble_eq_true rfl, (Nat.le_of_ble_eq_true rfl)⟩ d_Law_684) hP hD hS [0, 1, 2, 3, 4, 5, 6, 7] [8, 9, 10, 11, 12] rfl rfl rfl rfl (fun r_1 u_2 H locs hw hP hD hS hzH => ?_)
  have hw : r_1 = (-1) := hw
  have hP : va_P D CL [(h0X, .inr (14, fsX)), (owX, .inl (g 6, 4, .inr (.inr (.inr (.inr (va_up (va_up (va_up (va_up (fun _ => none) 0 (some v0X)) 1 (some v1X)) 2 (some v2X)) 3 (some v3X))))))), (v0X, .inr (13, fw0X)), (v1X, .inr (13, fw1X)), (v2X, .inr (13, fw2X))] H := hP
  have hD : va_D A [(h0X, .inr (14, fsX)), (owX, .inl (g 6, 4, .inr (.inr (.inr (.inr (va_up (va_up (va_up (va_up (fun _ => none) 0 (some v0X)) 1 (some v1X)) 2 (some v2X)) 3 (some v3X))))))), (v0X, .inr (13, fw0X)), (v1X, .inr (13, fw1X)), (v2X, .inr (13, fw2X))] := hD
  subst hw
  refine tpst (w := [.int (-1)]) rfl ?_
  refine lv_aload_n G.1 G.2.1 d_Law_687 rfl (lv_at hl 2 rfl) ?_
  refine lv_aload_n G.1 G.2.1 d_Law_688 rfl (lv_at hl 0 rfl) ?_
  refine lv_iload_n G.1 G.2.1 d_Law_689 rfl (lv_at hl 3 rfl) ?_
  refine lv_iconst (v := nI 1) G.1 G.2.1 d_Law_690 (by decide) ?_
  refine lv_iadd G.1 G.2.1 d_Law_691 ?_
  refine tpi (w := nI 1) (by decide) ?_
  refine va_sld G.1 G.2.1 hX hbl hbA hS (nI_inn (n := 6) (a := 1) (by decide) (by decide)) d_Law_692 ?_
  refine tpi (w := (xs 1)) (by rw [nI_clamp (by decide)]) ?_
  refine lv_aload_n G.1 G.2.1 d_Law_693 rfl (lv_at hl 0 rfl) ?_
  refine lv_iload_n G.1 G.2.1 d_Law_694 rfl (lv_at hl 3 rfl) ?_
  refine lv_iconst (v := nI 2) G.1 G.2.1 d_Law_695 (by decide) ?_
  refine lv_iadd G.1 G.2.1 d_Law_696 ?_
  refine tpi (w := nI 2) (by decide) ?_
  refine va_sld G.1 G.2.1 hX hbl hbA hS (nI_inn (n := 6) (a := 2) (by decide) (by decide)) d_Law_697 ?_
  refine tpi (w := (xs 2)) (by rw [nI_clamp (by decide)]) ?_
  refine W.eq (g2 := F0 m 698 ls [.int (xs 2), .int (xs 1), .ref h0X, .int (-1)]) rfl ?_
  refine kEi (wr := []) G (kV (As := [.int (xs 1), .int (xs 2)]) (rest := [.int (-1)]) G hP hD hS [0, 1, 2, 3, 4] rfl rfl (c_Mo_quantum l D g h0X (xs 1) (xs 2) fsX owX v0X v1X v2X v3X fw0X fw1X fw2X H.size glenX gk0X gw0X gt0X gw1X gt1X gw2X gt2X) w_Mo_quantum q3814 rfl rfl ⟨Nat.le_of_ble_eq_true rfl, Nat.le_of_ble_eq_true rfl⟩ (fun _ h => absurd h List.not_mem_nil) 0 (ci := 14) rfl rfl rfl hl.1 rfl (Nat.le_of_ble_eq_true rfl) rfl ⟨Nat.le_of_ble_eq_true rfl, (Nat.le_of_ble_eq_true rfl)⟩ d_Law_698) hP hD hS [0, 1, 2, 3, 4] [] rfl rfl rfl rfl (fun r_3 u_4 H locs hw hP hD hS hzH => ?_)
  have hw : r_3 = (-1) := hw
  have hP : va_P D CL [] H := hP
  have hD : va_D A [] := hD
  subst hw
  refine tpst (w := [.int (-1), .int (-1)]) rfl ?_
  refine lv_icmp_eq (tgt := 1768) G.1 G.2.1 d_Law_701 (by decide) (fun c701 => ?_) (fun c701 => absurd c701 (fun h => h rfl))
  refine lv_iinc (v := nI 6) (lv' := [(3, .int (nI 6)), (0, .ref b), (1, .ref h0), (2, .ref h0X)]) G.1 G.2.1 d_Law_1768 hl (k := 3) rfl (show (nI 0) + Int32.ofInt 6 = nI 6 from by decide) (by decide) rfl (fun ls hl => ?_)
  refine lv_goto (tgt := 18) G.1 G.2.1 d_Law_1771 (by decide) ?_
  refine lv_iload_n G.1 G.2.1 d_Law_18 rfl (lv_at hl 0 rfl) ?_
  refine lv_aload_n G.1 G.2.1 d_Law_19 rfl (lv_at hl 1 rfl) ?_
  refine va_slen G.1 G.2.1 hX hbl hbA hS d_Law_20 ?_
  refine tpi (w := nI 6) rfl ?_
  refine lv_bipush (v := nI 6) G.1 G.2.1 d_Law_21 (by decide) ?_
  refine lv_isub G.1 G.2.1 d_Law_23 ?_
  refine tpi (w := nI 0) (by decide) ?_
  refine lv_icmp_gt (tgt := 1774) G.1 G.2.1 d_Law_24 (by decide) (fun c24 => ?_) (fun c24 => absurd c24 (by decide))
  refine lv_iconst (v := nI 1) G.1 G.2.1 d_Law_1774 (by decide) ?_
  refine va_forget (fun q hq => hAA _ (hS.2.2 q hq)) ?_
  refine W.widen (k := 600002) (n := 7302232) (Nat.le_of_ble_eq_true rfl) (Nat.le_of_ble_eq_true rfl) ?_
  exact lw_ret G.1 G.2.1 G.2.2.2.1 G.2.2.2.2.1 d_Law_1775
theorem q1760 : Cond.code y_Cw_halt b_Cw_halt 3 (some .int) ∈ lw_ok := lw_okmem (List.mem_of_getElem? (i := 1760) (by decide +kernel)) rfl
theorem q1758 : Cond.instanceMethod y_Cw_halt ∈ lw_ok := lw_okmem (List.mem_of_getElem? (i := 1758) (by decide +kernel)) rfl
theorem q1759 : Cond.selects y_Cw_halt.cls y_Cw_halt y_Cw_halt ∈ lw_ok := lw_okmem (List.mem_of_getElem? (i := 1759) (by decide +kernel)) rfl
theorem w_Cw_halt : CWv y_Cw_halt b_Cw_halt 3 (some .int) 1 ∧ Cond.instanceMethod y_Cw_halt ∈ lw_ok ∧ Cond.selects y_Cw_halt.cls y_Cw_halt y_Cw_halt ∈ lw_ok := ⟨⟨q1760, q329, by decide +kernel, by decide +kernel, by decide +kernel⟩, q1758, q1759⟩
theorem q1757 : Cond.methodLink "ClassWorksLaw" 75 y_Cw_halt ∈ lw_ok := lw_okmem (List.mem_of_getElem? (i := 1757) (by decide +kernel)) rfl
theorem q3821 : Cond.code y_Mo_halt b_Mo_halt 4 (some .int) ∈ lw_ok := lw_okmem (List.mem_of_getElem? (i := 3821) (by decide +kernel)) rfl
theorem q3819 : Cond.instanceMethod y_Mo_halt ∈ lw_ok := lw_okmem (List.mem_of_getElem? (i := 3819) (by decide +kernel)) rfl
theorem q3820 : Cond.selects y_Mo_halt.cls y_Mo_halt y_Mo_halt ∈ lw_ok := lw_okmem (List.mem_of_getElem? (i := 3820) (by decide +kernel)) rfl
theorem w_Mo_halt : CWv y_Mo_halt b_Mo_halt 4 (some .int) 1 ∧ Cond.instanceMethod y_Mo_halt ∈ lw_ok ∧ Cond.selects y_Mo_halt.cls y_Mo_halt y_Mo_halt ∈ lw_ok := ⟨⟨q3821, q348, by decide +kernel, by decide +kernel, by decide +kernel⟩, q3819, q3820⟩
theorem q3818 : Cond.methodLink "ClassWorksLaw" 78 y_Mo_halt ∈ lw_ok := lw_okmem (List.mem_of_getElem? (i := 3818) (by decide +kernel)) rfl
theorem d_Law_706 : decode code 706 = .ok (.aload_n 1, 1) := by decide +kernel
theorem d_Law_707 : decode code 707 = .ok (.aload_n 0, 1) := by decide +kernel
theorem d_Law_708 : decode code 708 = .ok (.iload_n 3, 1) := by decide +kernel
theorem d_Law_709 : decode code 709 = .ok (.iconst 1, 1) := by decide +kernel
theorem d_Law_710 : decode code 710 = .ok (.iadd, 1) := by decide +kernel
theorem d_Law_711 : decode code 711 = .ok (.iaload, 1) := by decide +kernel
theorem d_Law_712 : decode code 712 = .ok (.invokevirtual 75, 3) := by decide +kernel
theorem d_Law_715 : decode code 715 = .ok (.aload_n 2, 1) := by decide +kernel
theorem d_Law_716 : decode code 716 = .ok (.aload_n 0, 1) := by decide +kernel
theorem d_Law_717 : decode code 717 = .ok (.iload_n 3, 1) := by decide +kernel
theorem d_Law_718 : decode code 718 = .ok (.iconst 1, 1) := by decide +kernel
theorem d_Law_719 : decode code 719 = .ok (.iadd, 1) := by decide +kernel
theorem d_Law_720 : decode code 720 = .ok (.iaload, 1) := by decide +kernel
theorem d_Law_721 : decode code 721 = .ok (.invokevirtual 78, 3) := by decide +kernel
theorem d_Law_724 : decode code 724 = .ok (.if_icmp .eq 1044, 3) := by decide +kernel
set_option maxHeartbeats 4000000 in
set_option maxRecDepth 100000 in
theorem law_halt {p : Program} {e : Env} {s : State} {m : MethodId} {below : List Frame} {meth : Method} {c : Code} {l : Launch} {D : va_G} {g : Nat → ClassId} {sl : List SL} {b : Nat} {xs : Nat → Int32} {A : Nat → Prop} (h0 : Nat) (r_cwords : Nat) (r_creader : Nat) (r_cchecker : Nat) (r_cfinder : Nat) (r_cwriter : Nat) (r_cmachines : Nat) (r_ctape : Nat) (r_cstock : Nat) (r_csizes : Nat) (r_cmet : Nat) (r_cfound : Nat) (r_cdraft : Nat) (r_cfewestFor : Nat) (r_cfewestNext : Nat) (mm0 : Nat) (mm1 : Nat) (mm2 : Nat) (mm3 : Nat) (ww0 : Nat) (r_m0heap : Nat) (r_m0runs : Nat) (r_m0counts : Nat) (r_m0traceRow : Nat) (f_m0traceCount : Int32) (r_m0startedList : Nat) (f_m0startedCount : Int32) (f_m0present : Int32) (f_m0quantum : Int32) (f_m0stepsDone : Int32) (f_m0turnSteps : Int32) (f_m0turnMost : Int32) (f_m0turnOver : Int32) (r_m0finder : Nat) (r_m0names : Nat) (f_m0fault : Int32) (f_m0wanted : Int32) (f_m0thrown : Int32) (ww1 : Nat) (r_m1heap : Nat) (r_m1runs : Nat) (r_m1counts : Nat) (r_m1traceRow : Nat) (f_m1traceCount : Int32) (r_m1startedList : Nat) (f_m1startedCount : Int32) (f_m1present : Int32) (f_m1quantum : Int32) (f_m1stepsDone : Int32) (f_m1turnSteps : Int32) (f_m1turnMost : Int32) (f_m1turnOver : Int32) (r_m1finder : Nat) (r_m1names : Nat) (f_m1fault : Int32) (f_m1wanted : Int32) (f_m1thrown : Int32) (ww2 : Nat) (r_m2heap : Nat) (r_m2runs : Nat) (r_m2counts : Nat) (r_m2traceRow : Nat) (f_m2traceCount : Int32) (r_m2startedList : Nat) (f_m2startedCount : Int32) (f_m2present : Int32) (f_m2quantum : Int32) (f_m2stepsDone : Int32) (f_m2turnSteps : Int32) (f_m2turnMost : Int32) (f_m2turnOver : Int32) (r_m2finder : Nat) (r_m2names : Nat) (f_m2fault : Int32) (f_m2wanted : Int32) (f_m2thrown : Int32) (r_w0names : Nat) (f_w0wrongClass : Int32) (f_w0wrongMethod : Int32) (f_w0wrongAt : Int32) (r_w0rows : Nat) (r_w0above : Nat) (r_w0fields : Nat) (r_w0methods : Nat) (r_w0codes : Nat) (r_w0handlers : Nat) (r_w0extra : Nat) (r_w0orders : Nat) (r_w0classNamed : Nat) (f_w0breaks : Int32) (r_w0marks : Nat) (r_w1names : Nat) (f_w1wrongClass : Int32) (f_w1wrongMethod : Int32) (f_w1wrongAt : Int32) (r_w1rows : Nat) (r_w1above : Nat) (r_w1fields : Nat) (r_w1methods : Nat) (r_w1codes : Nat) (r_w1handlers : Nat) (r_w1extra : Nat) (r_w1orders : Nat) (r_w1classNamed : Nat) (f_w1breaks : Int32) (r_w1marks : Nat) (r_w2names : Nat) (f_w2wrongClass : Int32) (f_w2wrongMethod : Int32) (f_w2wrongAt : Int32) (r_w2rows : Nat) (r_w2above : Nat) (r_w2fields : Nat) (r_w2methods : Nat) (r_w2codes : Nat) (r_w2handlers : Nat) (r_w2extra : Nat) (r_w2orders : Nat) (r_w2classNamed : Nat) (f_w2breaks : Int32) (r_w2marks : Nat) (h0X : Nat) (fsX : List Value) (owX : Nat) (v0X : Nat) (v1X : Nat) (v2X : Nat) (v3X : Nat) (fw0X : List Value) (fw1X : List Value) (fw2X : List Value) (G : GV l p s m #[Value.ref b] meth c (⟨"ClassWorksLaw", meth.name, ""⟩ : MethodName) code 4 ret g D sl A) (hX : va_X b 6 xs s s.heap) (hbl : b < s.heap.size) (hbA : ¬ A b) (hAA : ∀ q, A q → s.heap.size ≤ q) {H : Heap} {locs : List Loc} {ls : Array Slot} (glenX : fsX.length = 131) (gk0X : fsX[44]? = some (.ref owX)) (gw0X : fw0X.length = 72) (gt0X : fw0X[0]? = some (.int (nI 0))) (gw1X : fw1X.length = 72) (gt1X : fw1X[0]? = some (.int (nI 0))) (gw2X : fw2X.length = 72) (gt2X : fw2X[0]? = some (.int (nI 0))) (hP : va_P D CL [(h0, .inr (11, [.ref r_cwords, .ref r_creader, .ref r_cchecker, .ref r_cfinder, .ref r_cwriter, .ref r_cmachines, .ref r_ctape, .int (nI 0), .int (-2), .int (nI 60000), .ref r_cstock, .ref r_csizes, .ref r_cmet, .ref r_cfound, .int (nI 0), .ref r_cdraft, .int (nI 0), .int (nI 0), .ref r_cfewestFor, .ref r_cfewestNext])), (r_cmachines, .inl (g 4, 4, .inr (.inr (.inr (.inr (va_up (va_up (va_up (va_up (fun _ => none) 0 (some mm0)) 1 (some mm1)) 2 (some mm2)) 3 (some mm3))))))), (mm0, .inr (4, [.ref ww0, .ref r_m0heap, .ref r_m0runs, .ref r_m0counts, .ref r_m0traceRow, .int f_m0traceCount, .ref r_m0startedList, .int f_m0startedCount, .int f_m0present, .int f_m0quantum, .int f_m0stepsDone, .int f_m0turnSteps, .int f_m0turnMost, .int f_m0turnOver, .ref r_m0finder, .ref r_m0names, .int f_m0fault, .int f_m0wanted, .int f_m0thrown])), (mm1, .inr (4, [.ref ww1, .ref r_m1heap, .ref r_m1runs, .ref r_m1counts, .ref r_m1traceRow, .int f_m1traceCount, .ref r_m1startedList, .int f_m1startedCount, .int f_m1present, .int f_m1quantum, .int f_m1stepsDone, .int f_m1turnSteps, .int f_m1turnMost, .int f_m1turnOver, .ref r_m1finder, .ref r_m1names, .int f_m1fault, .int f_m1wanted, .int f_m1thrown])), (mm2, .inr (4, [.ref ww2, .ref r_m2heap, .ref r_m2runs, .ref r_m2counts, .ref r_m2traceRow, .int f_m2traceCount, .ref r_m2startedList, .int f_m2startedCount, .int f_m2present, .int f_m2quantum, .int f_m2stepsDone, .int f_m2turnSteps, .int f_m2turnMost, .int f_m2turnOver, .ref r_m2finder, .ref r_m2names, .int f_m2fault, .int f_m2wanted, .int f_m2thrown])), (ww0, .inr (9, [.ref r_w0names, .int (nI 0), .int (nI 21), .int f_w0wrongClass, .int f_w0wrongMethod, .int f_w0wrongAt, .ref r_w0rows, .ref r_w0above, .ref r_w0fields, .ref r_w0methods, .ref r_w0codes, .ref r_w0handlers, .ref r_w0extra, .ref r_w0orders, .ref r_w0classNamed, .int f_w0breaks, .ref r_w0marks])), (ww1, .inr (9, [.ref r_w1names, .int (nI 0), .int (nI 21), .int f_w1wrongClass, .int f_w1wrongMethod, .int f_w1wrongAt, .ref r_w1rows, .ref r_w1above, .ref r_w1fields, .ref r_w1methods, .ref r_w1codes, .ref r_w1handlers, .ref r_w1extra, .ref r_w1orders, .ref r_w1classNamed, .int f_w1breaks, .ref r_w1marks])), (ww2, .inr (9, [.ref r_w2names, .int (nI 0), .int (nI 21), .int f_w2wrongClass, .int f_w2wrongMethod, .int f_w2wrongAt, .ref r_w2rows, .ref r_w2above, .ref r_w2fields, .ref r_w2methods, .ref r_w2codes, .ref r_w2handlers, .ref r_w2extra, .ref r_w2orders, .ref r_w2classNamed, .int f_w2breaks, .ref r_w2marks])), (h0X, .inr (14, fsX)), (owX, .inl (g 6, 4, .inr (.inr (.inr (.inr (va_up (va_up (va_up (va_up (fun _ => none) 0 (some v0X)) 1 (some v1X)) 2 (some v2X)) 3 (some v3X))))))), (v0X, .inr (13, fw0X)), (v1X, .inr (13, fw1X)), (v2X, .inr (13, fw2X))] H) (hD : va_D A [(h0, .inr (11, [.ref r_cwords, .ref r_creader, .ref r_cchecker, .ref r_cfinder, .ref r_cwriter, .ref r_cmachines, .ref r_ctape, .int (nI 0), .int (-2), .int (nI 60000), .ref r_cstock, .ref r_csizes, .ref r_cmet, .ref r_cfound, .int (nI 0), .ref r_cdraft, .int (nI 0), .int (nI 0), .ref r_cfewestFor, .ref r_cfewestNext])), (r_cmachines, .inl (g 4, 4, .inr (.inr (.inr (.inr (va_up (va_up (va_up (va_up (fun _ => none) 0 (some mm0)) 1 (some mm1)) 2 (some mm2)) 3 (some mm3))))))), (mm0, .inr (4, [.ref ww0, .ref r_m0heap, .ref r_m0runs, .ref r_m0counts, .ref r_m0traceRow, .int f_m0traceCount, .ref r_m0startedList, .int f_m0startedCount, .int f_m0present, .int f_m0quantum, .int f_m0stepsDone, .int f_m0turnSteps, .int f_m0turnMost, .int f_m0turnOver, .ref r_m0finder, .ref r_m0names, .int f_m0fault, .int f_m0wanted, .int f_m0thrown])), (mm1, .inr (4, [.ref ww1, .ref r_m1heap, .ref r_m1runs, .ref r_m1counts, .ref r_m1traceRow, .int f_m1traceCount, .ref r_m1startedList, .int f_m1startedCount, .int f_m1present, .int f_m1quantum, .int f_m1stepsDone, .int f_m1turnSteps, .int f_m1turnMost, .int f_m1turnOver, .ref r_m1finder, .ref r_m1names, .int f_m1fault, .int f_m1wanted, .int f_m1thrown])), (mm2, .inr (4, [.ref ww2, .ref r_m2heap, .ref r_m2runs, .ref r_m2counts, .ref r_m2traceRow, .int f_m2traceCount, .ref r_m2startedList, .int f_m2startedCount, .int f_m2present, .int f_m2quantum, .int f_m2stepsDone, .int f_m2turnSteps, .int f_m2turnMost, .int f_m2turnOver, .ref r_m2finder, .ref r_m2names, .int f_m2fault, .int f_m2wanted, .int f_m2thrown])), (ww0, .inr (9, [.ref r_w0names, .int (nI 0), .int (nI 21), .int f_w0wrongClass, .int f_w0wrongMethod, .int f_w0wrongAt, .ref r_w0rows, .ref r_w0above, .ref r_w0fields, .ref r_w0methods, .ref r_w0codes, .ref r_w0handlers, .ref r_w0extra, .ref r_w0orders, .ref r_w0classNamed, .int f_w0breaks, .ref r_w0marks])), (ww1, .inr (9, [.ref r_w1names, .int (nI 0), .int (nI 21), .int f_w1wrongClass, .int f_w1wrongMethod, .int f_w1wrongAt, .ref r_w1rows, .ref r_w1above, .ref r_w1fields, .ref r_w1methods, .ref r_w1codes, .ref r_w1handlers, .ref r_w1extra, .ref r_w1orders, .ref r_w1classNamed, .int f_w1breaks, .ref r_w1marks])), (ww2, .inr (9, [.ref r_w2names, .int (nI 0), .int (nI 21), .int f_w2wrongClass, .int f_w2wrongMethod, .int f_w2wrongAt, .ref r_w2rows, .ref r_w2above, .ref r_w2fields, .ref r_w2methods, .ref r_w2codes, .ref r_w2handlers, .ref r_w2extra, .ref r_w2orders, .ref r_w2classNamed, .int f_w2breaks, .ref r_w2marks])), (h0X, .inr (14, fsX)), (owX, .inl (g 6, 4, .inr (.inr (.inr (.inr (va_up (va_up (va_up (va_up (fun _ => none) 0 (some v0X)) 1 (some v1X)) 2 (some v2X)) 3 (some v3X))))))), (v0X, .inr (13, fw0X)), (v1X, .inr (13, fw1X)), (v2X, .inr (13, fw2X))]) (hS : va_S A s.heap H locs) (hl : lv_has ls 4 [(0, .ref b), (1, .ref h0), (2, .ref h0X), (3, .int (nI 0))]) : W p l e room_1 s m #[Value.ref b] below meth c H locs 702 488194 (lw_Z below #[Value.ref b] s) (F0 m 706 ls []) := by
  refine lv_aload_n G.1 G.2.1 d_Law_706 rfl (lv_at hl 1 rfl) ?_
  refine lv_aload_n G.1 G.2.1 d_Law_707 rfl (lv_at hl 0 rfl) ?_
  refine lv_iload_n G.1 G.2.1 d_Law_708 rfl (lv_at hl 3 rfl) ?_
  refine lv_iconst (v := nI 1) G.1 G.2.1 d_Law_709 (by decide) ?_
  refine lv_iadd G.1 G.2.1 d_Law_710 ?_
  refine tpi (w := nI 1) (by decide) ?_
  refine va_sld G.1 G.2.1 hX hbl hbA hS (nI_inn (n := 6) (a := 1) (by decide) (by decide)) d_Law_711 ?_
  refine tpi (w := (xs 1)) (by rw [nI_clamp (by decide)]) ?_
  refine kEi (wr := [(h0X, .inr (14, fsX)), (owX, .inl (g 6, 4, .inr (.inr (.inr (.inr (va_up (va_up (va_up (va_up (fun _ => none) 0 (some v0X)) 1 (some v1X)) 2 (some v2X)) 3 (some v3X))))))), (v0X, .inr (13, fw0X)), (v1X, .inr (13, fw1X)), (v2X, .inr (13, fw2X))]) G (kV (As := [.int (xs 1)]) (rest := []) G hP hD hS [0, 1, 2, 3, 4, 5, 6, 7] rfl rfl (c_Cw_halt l D g h0 (xs 1) r_cwords r_creader r_cchecker r_cfinder r_cwriter r_cmachines r_ctape r_cstock r_csizes r_cmet r_cfound r_cdraft r_cfewestFor r_cfewestNext mm0 mm1 mm2 mm3 ww0 r_m0heap r_m0runs r_m0counts r_m0traceRow f_m0traceCount r_m0startedList f_m0startedCount f_m0present f_m0quantum f_m0stepsDone f_m0turnSteps f_m0turnMost f_m0turnOver r_m0finder r_m0names f_m0fault f_m0wanted f_m0thrown ww1 r_m1heap r_m1runs r_m1counts r_m1traceRow f_m1traceCount r_m1startedList f_m1startedCount f_m1present f_m1quantum f_m1stepsDone f_m1turnSteps f_m1turnMost f_m1turnOver r_m1finder r_m1names f_m1fault f_m1wanted f_m1thrown ww2 r_m2heap r_m2runs r_m2counts r_m2traceRow f_m2traceCount r_m2startedList f_m2startedCount f_m2present f_m2quantum f_m2stepsDone f_m2turnSteps f_m2turnMost f_m2turnOver r_m2finder r_m2names f_m2fault f_m2wanted f_m2thrown r_w0names f_w0wrongClass f_w0wrongMethod f_w0wrongAt r_w0rows r_w0above r_w0fields r_w0methods r_w0codes r_w0handlers r_w0extra r_w0orders r_w0classNamed f_w0breaks r_w0marks r_w1names f_w1wrongClass f_w1wrongMethod f_w1wrongAt r_w1rows r_w1above r_w1fields r_w1methods r_w1codes r_w1handlers r_w1extra r_w1orders r_w1classNamed f_w1breaks r_w1marks r_w2names f_w2wrongClass f_w2wrongMethod f_w2wrongAt r_w2rows r_w2above r_w2fields r_w2methods r_w2codes r_w2handlers r_w2extra r_w2orders r_w2classNamed f_w2breaks r_w2marks H.size ) w_Cw_halt q1757 rfl rfl ⟨Nat.le_of_ble_eq_true rfl, Nat.le_of_ble_eq_true rfl⟩ (fun _ h => absurd h List.not_mem_nil) 0 (ci := 11) rfl rfl rfl hl.1 rfl (Nat.le_of_ble_eq_true rfl) rfl ⟨Nat.le_of_ble_eq_true rfl, (Nat.le_of_ble_eq_true rfl)⟩ d_Law_712) hP hD hS [0, 1, 2, 3, 4, 5, 6, 7] [8, 9, 10, 11, 12] rfl rfl rfl rfl (fun r_1 u_2 H locs hw hP hD hS hzH => ?_)
  have hw : r_1 = (-1) := hw
  have hP : va_P D CL [(h0X, .inr (14, fsX)), (owX, .inl (g 6, 4, .inr (.inr (.inr (.inr (va_up (va_up (va_up (va_up (fun _ => none) 0 (some v0X)) 1 (some v1X)) 2 (some v2X)) 3 (some v3X))))))), (v0X, .inr (13, fw0X)), (v1X, .inr (13, fw1X)), (v2X, .inr (13, fw2X))] H := hP
  have hD : va_D A [(h0X, .inr (14, fsX)), (owX, .inl (g 6, 4, .inr (.inr (.inr (.inr (va_up (va_up (va_up (va_up (fun _ => none) 0 (some v0X)) 1 (some v1X)) 2 (some v2X)) 3 (some v3X))))))), (v0X, .inr (13, fw0X)), (v1X, .inr (13, fw1X)), (v2X, .inr (13, fw2X))] := hD
  subst hw
  refine tpst (w := [.int (-1)]) rfl ?_
  refine lv_aload_n G.1 G.2.1 d_Law_715 rfl (lv_at hl 2 rfl) ?_
  refine lv_aload_n G.1 G.2.1 d_Law_716 rfl (lv_at hl 0 rfl) ?_
  refine lv_iload_n G.1 G.2.1 d_Law_717 rfl (lv_at hl 3 rfl) ?_
  refine lv_iconst (v := nI 1) G.1 G.2.1 d_Law_718 (by decide) ?_
  refine W.eq (g2 := F0 m 719 ls [.int (nI 1), .int (nI 0), .ref b, .ref h0X, .int (-1)]) rfl ?_
  refine lv_iadd G.1 G.2.1 d_Law_719 ?_
  refine tpi (w := nI 1) (by decide) ?_
  refine va_sld G.1 G.2.1 hX hbl hbA hS (nI_inn (n := 6) (a := 1) (by decide) (by decide)) d_Law_720 ?_
  refine tpi (w := (xs 1)) (by rw [nI_clamp (by decide)]) ?_
  refine kEi (wr := []) G (kV (As := [.int (xs 1)]) (rest := [.int (-1)]) G hP hD hS [0, 1, 2, 3, 4] rfl rfl (c_Mo_halt l D g h0X (xs 1) fsX owX v0X v1X v2X v3X fw0X fw1X fw2X H.size glenX gk0X gw0X gt0X gw1X gt1X gw2X gt2X) w_Mo_halt q3818 rfl rfl ⟨Nat.le_of_ble_eq_true rfl, Nat.le_of_ble_eq_true rfl⟩ (fun _ h => absurd h List.not_mem_nil) 0 (ci := 14) rfl rfl rfl hl.1 rfl (Nat.le_of_ble_eq_true rfl) rfl ⟨Nat.le_of_ble_eq_true rfl, (Nat.le_of_ble_eq_true rfl)⟩ d_Law_721) hP hD hS [0, 1, 2, 3, 4] [] rfl rfl rfl rfl (fun r_3 u_4 H locs hw hP hD hS hzH => ?_)
  have hw : r_3 = (-1) := hw
  have hP : va_P D CL [] H := hP
  have hD : va_D A [] := hD
  subst hw
  refine tpst (w := [.int (-1), .int (-1)]) rfl ?_
  refine lv_icmp_eq (tgt := 1768) G.1 G.2.1 d_Law_724 (by decide) (fun c724 => ?_) (fun c724 => absurd c724 (fun h => h rfl))
  refine lv_iinc (v := nI 6) (lv' := [(3, .int (nI 6)), (0, .ref b), (1, .ref h0), (2, .ref h0X)]) G.1 G.2.1 d_Law_1768 hl (k := 3) rfl (show (nI 0) + Int32.ofInt 6 = nI 6 from by decide) (by decide) rfl (fun ls hl => ?_)
  refine lv_goto (tgt := 18) G.1 G.2.1 d_Law_1771 (by decide) ?_
  refine lv_iload_n G.1 G.2.1 d_Law_18 rfl (lv_at hl 0 rfl) ?_
  refine lv_aload_n G.1 G.2.1 d_Law_19 rfl (lv_at hl 1 rfl) ?_
  refine va_slen G.1 G.2.1 hX hbl hbA hS d_Law_20 ?_
  refine tpi (w := nI 6) rfl ?_
  refine lv_bipush (v := nI 6) G.1 G.2.1 d_Law_21 (by decide) ?_
  refine lv_isub G.1 G.2.1 d_Law_23 ?_
  refine tpi (w := nI 0) (by decide) ?_
  refine lv_icmp_gt (tgt := 1774) G.1 G.2.1 d_Law_24 (by decide) (fun c24 => ?_) (fun c24 => absurd c24 (by decide))
  refine W.eq (g2 := F0 m 1774 ls []) rfl ?_
  refine lv_iconst (v := nI 1) G.1 G.2.1 d_Law_1774 (by decide) ?_
  refine va_forget (fun q hq => hAA _ (hS.2.2 q hq)) ?_
  refine W.widen (k := 600002) (n := 7302232) (Nat.le_of_ble_eq_true rfl) (Nat.le_of_ble_eq_true rfl) ?_
  exact lw_ret G.1 G.2.1 G.2.2.2.1 G.2.2.2.2.1 d_Law_1775
theorem q1778 : Cond.code y_Cw_step b_Cw_step 5 (some .int) ∈ lw_ok := lw_okmem (List.mem_of_getElem? (i := 1778) (by decide +kernel)) rfl
theorem q1776 : Cond.instanceMethod y_Cw_step ∈ lw_ok := lw_okmem (List.mem_of_getElem? (i := 1776) (by decide +kernel)) rfl
theorem q1777 : Cond.selects y_Cw_step.cls y_Cw_step y_Cw_step ∈ lw_ok := lw_okmem (List.mem_of_getElem? (i := 1777) (by decide +kernel)) rfl
theorem w_Cw_step : CWv y_Cw_step b_Cw_step 5 (some .int) 2 ∧ Cond.instanceMethod y_Cw_step ∈ lw_ok ∧ Cond.selects y_Cw_step.cls y_Cw_step y_Cw_step ∈ lw_ok := ⟨⟨q1778, q329, by decide +kernel, by decide +kernel, by decide +kernel⟩, q1776, q1777⟩
theorem q1775 : Cond.methodLink "ClassWorksLaw" 79 y_Cw_step ∈ lw_ok := lw_okmem (List.mem_of_getElem? (i := 1775) (by decide +kernel)) rfl
theorem q3825 : Cond.code y_Mo_step b_Mo_step 4 (some .int) ∈ lw_ok := lw_okmem (List.mem_of_getElem? (i := 3825) (by decide +kernel)) rfl
theorem q3823 : Cond.instanceMethod y_Mo_step ∈ lw_ok := lw_okmem (List.mem_of_getElem? (i := 3823) (by decide +kernel)) rfl
theorem q3824 : Cond.selects y_Mo_step.cls y_Mo_step y_Mo_step ∈ lw_ok := lw_okmem (List.mem_of_getElem? (i := 3824) (by decide +kernel)) rfl
theorem w_Mo_step : CWv y_Mo_step b_Mo_step 4 (some .int) 2 ∧ Cond.instanceMethod y_Mo_step ∈ lw_ok ∧ Cond.selects y_Mo_step.cls y_Mo_step y_Mo_step ∈ lw_ok := ⟨⟨q3825, q348, by decide +kernel, by decide +kernel, by decide +kernel⟩, q3823, q3824⟩
theorem q3822 : Cond.methodLink "ClassWorksLaw" 82 y_Mo_step ∈ lw_ok := lw_okmem (List.mem_of_getElem? (i := 3822) (by decide +kernel)) rfl
theorem d_Law_729 : decode code 729 = .ok (.aload_n 1, 1) := by decide +kernel
theorem d_Law_730 : decode code 730 = .ok (.aload_n 0, 1) := by decide +kernel
theorem d_Law_731 : decode code 731 = .ok (.iload_n 3, 1) := by decide +kernel
theorem d_Law_732 : decode code 732 = .ok (.iconst 1, 1) := by decide +kernel
theorem d_Law_733 : decode code 733 = .ok (.iadd, 1) := by decide +kernel
theorem d_Law_734 : decode code 734 = .ok (.iaload, 1) := by decide +kernel
theorem d_Law_735 : decode code 735 = .ok (.aload_n 0, 1) := by decide +kernel
theorem d_Law_736 : decode code 736 = .ok (.iload_n 3, 1) := by decide +kernel
theorem d_Law_737 : decode code 737 = .ok (.iconst 2, 1) := by decide +kernel
theorem d_Law_738 : decode code 738 = .ok (.iadd, 1) := by decide +kernel
theorem d_Law_739 : decode code 739 = .ok (.iaload, 1) := by decide +kernel
theorem d_Law_740 : decode code 740 = .ok (.invokevirtual 79, 3) := by decide +kernel
theorem d_Law_743 : decode code 743 = .ok (.aload_n 2, 1) := by decide +kernel
theorem d_Law_744 : decode code 744 = .ok (.aload_n 0, 1) := by decide +kernel
theorem d_Law_745 : decode code 745 = .ok (.iload_n 3, 1) := by decide +kernel
theorem d_Law_746 : decode code 746 = .ok (.iconst 1, 1) := by decide +kernel
theorem d_Law_747 : decode code 747 = .ok (.iadd, 1) := by decide +kernel
theorem d_Law_748 : decode code 748 = .ok (.iaload, 1) := by decide +kernel
theorem d_Law_749 : decode code 749 = .ok (.aload_n 0, 1) := by decide +kernel
theorem d_Law_750 : decode code 750 = .ok (.iload_n 3, 1) := by decide +kernel
theorem d_Law_751 : decode code 751 = .ok (.iconst 2, 1) := by decide +kernel
theorem d_Law_752 : decode code 752 = .ok (.iadd, 1) := by decide +kernel
theorem d_Law_753 : decode code 753 = .ok (.iaload, 1) := by decide +kernel
theorem d_Law_754 : decode code 754 = .ok (.invokevirtual 82, 3) := by decide +kernel
theorem d_Law_757 : decode code 757 = .ok (.if_icmp .eq 1011, 3) := by decide +kernel
set_option maxHeartbeats 4000000 in
set_option maxRecDepth 100000 in
theorem law_step {p : Program} {e : Env} {s : State} {m : MethodId} {below : List Frame} {meth : Method} {c : Code} {l : Launch} {D : va_G} {g : Nat → ClassId} {sl : List SL} {b : Nat} {xs : Nat → Int32} {A : Nat → Prop} (h0 : Nat) (r_cwords : Nat) (r_creader : Nat) (r_cchecker : Nat) (r_cfinder : Nat) (r_cwriter : Nat) (r_cmachines : Nat) (r_ctape : Nat) (r_cstock : Nat) (r_csizes : Nat) (r_cmet : Nat) (r_cfound : Nat) (r_cdraft : Nat) (r_cfewestFor : Nat) (r_cfewestNext : Nat) (mm0 : Nat) (mm1 : Nat) (mm2 : Nat) (mm3 : Nat) (ww0 : Nat) (r_m0heap : Nat) (r_m0runs : Nat) (r_m0counts : Nat) (r_m0traceRow : Nat) (f_m0traceCount : Int32) (r_m0startedList : Nat) (f_m0startedCount : Int32) (f_m0present : Int32) (f_m0quantum : Int32) (f_m0stepsDone : Int32) (f_m0turnSteps : Int32) (f_m0turnMost : Int32) (f_m0turnOver : Int32) (r_m0finder : Nat) (r_m0names : Nat) (f_m0fault : Int32) (f_m0wanted : Int32) (f_m0thrown : Int32) (ww1 : Nat) (r_m1heap : Nat) (r_m1runs : Nat) (r_m1counts : Nat) (r_m1traceRow : Nat) (f_m1traceCount : Int32) (r_m1startedList : Nat) (f_m1startedCount : Int32) (f_m1present : Int32) (f_m1quantum : Int32) (f_m1stepsDone : Int32) (f_m1turnSteps : Int32) (f_m1turnMost : Int32) (f_m1turnOver : Int32) (r_m1finder : Nat) (r_m1names : Nat) (f_m1fault : Int32) (f_m1wanted : Int32) (f_m1thrown : Int32) (ww2 : Nat) (r_m2heap : Nat) (r_m2runs : Nat) (r_m2counts : Nat) (r_m2traceRow : Nat) (f_m2traceCount : Int32) (r_m2startedList : Nat) (f_m2startedCount : Int32) (f_m2present : Int32) (f_m2quantum : Int32) (f_m2stepsDone : Int32) (f_m2turnSteps : Int32) (f_m2turnMost : Int32) (f_m2turnOver : Int32) (r_m2finder : Nat) (r_m2names : Nat) (f_m2fault : Int32) (f_m2wanted : Int32) (f_m2thrown : Int32) (r_w0names : Nat) (f_w0wrongClass : Int32) (f_w0wrongMethod : Int32) (f_w0wrongAt : Int32) (r_w0rows : Nat) (r_w0above : Nat) (r_w0fields : Nat) (r_w0methods : Nat) (r_w0codes : Nat) (r_w0handlers : Nat) (r_w0extra : Nat) (r_w0orders : Nat) (r_w0classNamed : Nat) (f_w0breaks : Int32) (r_w0marks : Nat) (r_w1names : Nat) (f_w1wrongClass : Int32) (f_w1wrongMethod : Int32) (f_w1wrongAt : Int32) (r_w1rows : Nat) (r_w1above : Nat) (r_w1fields : Nat) (r_w1methods : Nat) (r_w1codes : Nat) (r_w1handlers : Nat) (r_w1extra : Nat) (r_w1orders : Nat) (r_w1classNamed : Nat) (f_w1breaks : Int32) (r_w1marks : Nat) (r_w2names : Nat) (f_w2wrongClass : Int32) (f_w2wrongMethod : Int32) (f_w2wrongAt : Int32) (r_w2rows : Nat) (r_w2above : Nat) (r_w2fields : Nat) (r_w2methods : Nat) (r_w2codes : Nat) (r_w2handlers : Nat) (r_w2extra : Nat) (r_w2orders : Nat) (r_w2classNamed : Nat) (f_w2breaks : Int32) (r_w2marks : Nat) (h0X : Nat) (fsX : List Value) (owX : Nat) (v0X : Nat) (v1X : Nat) (v2X : Nat) (v3X : Nat) (fw0X : List Value) (fw1X : List Value) (fw2X : List Value) (G : GV l p s m #[Value.ref b] meth c (⟨"ClassWorksLaw", meth.name, ""⟩ : MethodName) code 4 ret g D sl A) (hX : va_X b 6 xs s s.heap) (hbl : b < s.heap.size) (hbA : ¬ A b) (hAA : ∀ q, A q → s.heap.size ≤ q) {H : Heap} {locs : List Loc} {ls : Array Slot} (glenX : fsX.length = 131) (gk0X : fsX[44]? = some (.ref owX)) (gw0X : fw0X.length = 72) (gt0X : fw0X[0]? = some (.int (nI 0))) (gw1X : fw1X.length = 72) (gt1X : fw1X[0]? = some (.int (nI 0))) (gw2X : fw2X.length = 72) (gt2X : fw2X[0]? = some (.int (nI 0))) (hP : va_P D CL [(h0, .inr (11, [.ref r_cwords, .ref r_creader, .ref r_cchecker, .ref r_cfinder, .ref r_cwriter, .ref r_cmachines, .ref r_ctape, .int (nI 0), .int (-2), .int (nI 60000), .ref r_cstock, .ref r_csizes, .ref r_cmet, .ref r_cfound, .int (nI 0), .ref r_cdraft, .int (nI 0), .int (nI 0), .ref r_cfewestFor, .ref r_cfewestNext])), (r_cmachines, .inl (g 4, 4, .inr (.inr (.inr (.inr (va_up (va_up (va_up (va_up (fun _ => none) 0 (some mm0)) 1 (some mm1)) 2 (some mm2)) 3 (some mm3))))))), (mm0, .inr (4, [.ref ww0, .ref r_m0heap, .ref r_m0runs, .ref r_m0counts, .ref r_m0traceRow, .int f_m0traceCount, .ref r_m0startedList, .int f_m0startedCount, .int f_m0present, .int f_m0quantum, .int f_m0stepsDone, .int f_m0turnSteps, .int f_m0turnMost, .int f_m0turnOver, .ref r_m0finder, .ref r_m0names, .int f_m0fault, .int f_m0wanted, .int f_m0thrown])), (mm1, .inr (4, [.ref ww1, .ref r_m1heap, .ref r_m1runs, .ref r_m1counts, .ref r_m1traceRow, .int f_m1traceCount, .ref r_m1startedList, .int f_m1startedCount, .int f_m1present, .int f_m1quantum, .int f_m1stepsDone, .int f_m1turnSteps, .int f_m1turnMost, .int f_m1turnOver, .ref r_m1finder, .ref r_m1names, .int f_m1fault, .int f_m1wanted, .int f_m1thrown])), (mm2, .inr (4, [.ref ww2, .ref r_m2heap, .ref r_m2runs, .ref r_m2counts, .ref r_m2traceRow, .int f_m2traceCount, .ref r_m2startedList, .int f_m2startedCount, .int f_m2present, .int f_m2quantum, .int f_m2stepsDone, .int f_m2turnSteps, .int f_m2turnMost, .int f_m2turnOver, .ref r_m2finder, .ref r_m2names, .int f_m2fault, .int f_m2wanted, .int f_m2thrown])), (ww0, .inr (9, [.ref r_w0names, .int (nI 0), .int (nI 21), .int f_w0wrongClass, .int f_w0wrongMethod, .int f_w0wrongAt, .ref r_w0rows, .ref r_w0above, .ref r_w0fields, .ref r_w0methods, .ref r_w0codes, .ref r_w0handlers, .ref r_w0extra, .ref r_w0orders, .ref r_w0classNamed, .int f_w0breaks, .ref r_w0marks])), (ww1, .inr (9, [.ref r_w1names, .int (nI 0), .int (nI 21), .int f_w1wrongClass, .int f_w1wrongMethod, .int f_w1wrongAt, .ref r_w1rows, .ref r_w1above, .ref r_w1fields, .ref r_w1methods, .ref r_w1codes, .ref r_w1handlers, .ref r_w1extra, .ref r_w1orders, .ref r_w1classNamed, .int f_w1breaks, .ref r_w1marks])), (ww2, .inr (9, [.ref r_w2names, .int (nI 0), .int (nI 21), .int f_w2wrongClass, .int f_w2wrongMethod, .int f_w2wrongAt, .ref r_w2rows, .ref r_w2above, .ref r_w2fields, .ref r_w2methods, .ref r_w2codes, .ref r_w2handlers, .ref r_w2extra, .ref r_w2orders, .ref r_w2classNamed, .int f_w2breaks, .ref r_w2marks])), (h0X, .inr (14, fsX)), (owX, .inl (g 6, 4, .inr (.inr (.inr (.inr (va_up (va_up (va_up (va_up (fun _ => none) 0 (some v0X)) 1 (some v1X)) 2 (some v2X)) 3 (some v3X))))))), (v0X, .inr (13, fw0X)), (v1X, .inr (13, fw1X)), (v2X, .inr (13, fw2X))] H) (hD : va_D A [(h0, .inr (11, [.ref r_cwords, .ref r_creader, .ref r_cchecker, .ref r_cfinder, .ref r_cwriter, .ref r_cmachines, .ref r_ctape, .int (nI 0), .int (-2), .int (nI 60000), .ref r_cstock, .ref r_csizes, .ref r_cmet, .ref r_cfound, .int (nI 0), .ref r_cdraft, .int (nI 0), .int (nI 0), .ref r_cfewestFor, .ref r_cfewestNext])), (r_cmachines, .inl (g 4, 4, .inr (.inr (.inr (.inr (va_up (va_up (va_up (va_up (fun _ => none) 0 (some mm0)) 1 (some mm1)) 2 (some mm2)) 3 (some mm3))))))), (mm0, .inr (4, [.ref ww0, .ref r_m0heap, .ref r_m0runs, .ref r_m0counts, .ref r_m0traceRow, .int f_m0traceCount, .ref r_m0startedList, .int f_m0startedCount, .int f_m0present, .int f_m0quantum, .int f_m0stepsDone, .int f_m0turnSteps, .int f_m0turnMost, .int f_m0turnOver, .ref r_m0finder, .ref r_m0names, .int f_m0fault, .int f_m0wanted, .int f_m0thrown])), (mm1, .inr (4, [.ref ww1, .ref r_m1heap, .ref r_m1runs, .ref r_m1counts, .ref r_m1traceRow, .int f_m1traceCount, .ref r_m1startedList, .int f_m1startedCount, .int f_m1present, .int f_m1quantum, .int f_m1stepsDone, .int f_m1turnSteps, .int f_m1turnMost, .int f_m1turnOver, .ref r_m1finder, .ref r_m1names, .int f_m1fault, .int f_m1wanted, .int f_m1thrown])), (mm2, .inr (4, [.ref ww2, .ref r_m2heap, .ref r_m2runs, .ref r_m2counts, .ref r_m2traceRow, .int f_m2traceCount, .ref r_m2startedList, .int f_m2startedCount, .int f_m2present, .int f_m2quantum, .int f_m2stepsDone, .int f_m2turnSteps, .int f_m2turnMost, .int f_m2turnOver, .ref r_m2finder, .ref r_m2names, .int f_m2fault, .int f_m2wanted, .int f_m2thrown])), (ww0, .inr (9, [.ref r_w0names, .int (nI 0), .int (nI 21), .int f_w0wrongClass, .int f_w0wrongMethod, .int f_w0wrongAt, .ref r_w0rows, .ref r_w0above, .ref r_w0fields, .ref r_w0methods, .ref r_w0codes, .ref r_w0handlers, .ref r_w0extra, .ref r_w0orders, .ref r_w0classNamed, .int f_w0breaks, .ref r_w0marks])), (ww1, .inr (9, [.ref r_w1names, .int (nI 0), .int (nI 21), .int f_w1wrongClass, .int f_w1wrongMethod, .int f_w1wrongAt, .ref r_w1rows, .ref r_w1above, .ref r_w1fields, .ref r_w1methods, .ref r_w1codes, .ref r_w1handlers, .ref r_w1extra, .ref r_w1orders, .ref r_w1classNamed, .int f_w1breaks, .ref r_w1marks])), (ww2, .inr (9, [.ref r_w2names, .int (nI 0), .int (nI 21), .int f_w2wrongClass, .int f_w2wrongMethod, .int f_w2wrongAt, .ref r_w2rows, .ref r_w2above, .ref r_w2fields, .ref r_w2methods, .ref r_w2codes, .ref r_w2handlers, .ref r_w2extra, .ref r_w2orders, .ref r_w2classNamed, .int f_w2breaks, .ref r_w2marks])), (h0X, .inr (14, fsX)), (owX, .inl (g 6, 4, .inr (.inr (.inr (.inr (va_up (va_up (va_up (va_up (fun _ => none) 0 (some v0X)) 1 (some v1X)) 2 (some v2X)) 3 (some v3X))))))), (v0X, .inr (13, fw0X)), (v1X, .inr (13, fw1X)), (v2X, .inr (13, fw2X))]) (hS : va_S A s.heap H locs) (hl : lv_has ls 4 [(0, .ref b), (1, .ref h0), (2, .ref h0X), (3, .int (nI 0))]) : W p l e room_1 s m #[Value.ref b] below meth c H locs 702 488194 (lw_Z below #[Value.ref b] s) (F0 m 729 ls []) := by
  refine lv_aload_n G.1 G.2.1 d_Law_729 rfl (lv_at hl 1 rfl) ?_
  refine lv_aload_n G.1 G.2.1 d_Law_730 rfl (lv_at hl 0 rfl) ?_
  refine lv_iload_n G.1 G.2.1 d_Law_731 rfl (lv_at hl 3 rfl) ?_
  refine lv_iconst (v := nI 1) G.1 G.2.1 d_Law_732 (by decide) ?_
  refine lv_iadd G.1 G.2.1 d_Law_733 ?_
  refine tpi (w := nI 1) (by decide) ?_
  refine va_sld G.1 G.2.1 hX hbl hbA hS (nI_inn (n := 6) (a := 1) (by decide) (by decide)) d_Law_734 ?_
  refine tpi (w := (xs 1)) (by rw [nI_clamp (by decide)]) ?_
  refine lv_aload_n G.1 G.2.1 d_Law_735 rfl (lv_at hl 0 rfl) ?_
  refine lv_iload_n G.1 G.2.1 d_Law_736 rfl (lv_at hl 3 rfl) ?_
  refine lv_iconst (v := nI 2) G.1 G.2.1 d_Law_737 (by decide) ?_
  refine lv_iadd G.1 G.2.1 d_Law_738 ?_
  refine tpi (w := nI 2) (by decide) ?_
  refine va_sld G.1 G.2.1 hX hbl hbA hS (nI_inn (n := 6) (a := 2) (by decide) (by decide)) d_Law_739 ?_
  refine tpi (w := (xs 2)) (by rw [nI_clamp (by decide)]) ?_
  refine W.eq (g2 := F0 m 740 ls [.int (xs 2), .int (xs 1), .ref h0]) rfl ?_
  refine kEi (wr := [(h0X, .inr (14, fsX)), (owX, .inl (g 6, 4, .inr (.inr (.inr (.inr (va_up (va_up (va_up (va_up (fun _ => none) 0 (some v0X)) 1 (some v1X)) 2 (some v2X)) 3 (some v3X))))))), (v0X, .inr (13, fw0X)), (v1X, .inr (13, fw1X)), (v2X, .inr (13, fw2X))]) G (kV (As := [.int (xs 1), .int (xs 2)]) (rest := []) G hP hD hS [0, 1, 2, 3, 4, 5, 6, 7] rfl rfl (c_Cw_step l D g h0 (xs 1) (xs 2) r_cwords r_creader r_cchecker r_cfinder r_cwriter r_cmachines r_ctape r_cstock r_csizes r_cmet r_cfound r_cdraft r_cfewestFor r_cfewestNext mm0 mm1 mm2 mm3 ww0 r_m0heap r_m0runs r_m0counts r_m0traceRow f_m0traceCount r_m0startedList f_m0startedCount f_m0present f_m0quantum f_m0stepsDone f_m0turnSteps f_m0turnMost f_m0turnOver r_m0finder r_m0names f_m0fault f_m0wanted f_m0thrown ww1 r_m1heap r_m1runs r_m1counts r_m1traceRow f_m1traceCount r_m1startedList f_m1startedCount f_m1present f_m1quantum f_m1stepsDone f_m1turnSteps f_m1turnMost f_m1turnOver r_m1finder r_m1names f_m1fault f_m1wanted f_m1thrown ww2 r_m2heap r_m2runs r_m2counts r_m2traceRow f_m2traceCount r_m2startedList f_m2startedCount f_m2present f_m2quantum f_m2stepsDone f_m2turnSteps f_m2turnMost f_m2turnOver r_m2finder r_m2names f_m2fault f_m2wanted f_m2thrown r_w0names f_w0wrongClass f_w0wrongMethod f_w0wrongAt r_w0rows r_w0above r_w0fields r_w0methods r_w0codes r_w0handlers r_w0extra r_w0orders r_w0classNamed f_w0breaks r_w0marks r_w1names f_w1wrongClass f_w1wrongMethod f_w1wrongAt r_w1rows r_w1above r_w1fields r_w1methods r_w1codes r_w1handlers r_w1extra r_w1orders r_w1classNamed f_w1breaks r_w1marks r_w2names f_w2wrongClass f_w2wrongMethod f_w2wrongAt r_w2rows r_w2above r_w2fields r_w2methods r_w2codes r_w2handlers r_w2extra r_w2orders r_w2classNamed f_w2breaks r_w2marks H.size ) w_Cw_step q1775 rfl rfl ⟨Nat.le_of_ble_eq_true rfl, Nat.le_of_ble_eq_true rfl⟩ (fun _ h => absurd h List.not_mem_nil) 0 (ci := 11) rfl rfl rfl hl.1 rfl (Nat.le_of_ble_eq_true rfl) rfl ⟨Nat.le_of_ble_eq_true rfl, (Nat.le_of_ble_eq_true rfl)⟩ d_Law_740) hP hD hS [0, 1, 2, 3, 4, 5, 6, 7] [8, 9, 10, 11, 12] rfl rfl rfl rfl (fun r_1 u_2 H locs hw hP hD hS hzH => ?_)
  have hw : r_1 = (-1) := hw
  have hP : va_P D CL [(h0X, .inr (14, fsX)), (owX, .inl (g 6, 4, .inr (.inr (.inr (.inr (va_up (va_up (va_up (va_up (fun _ => none) 0 (some v0X)) 1 (some v1X)) 2 (some v2X)) 3 (some v3X))))))), (v0X, .inr (13, fw0X)), (v1X, .inr (13, fw1X)), (v2X, .inr (13, fw2X))] H := hP
  have hD : va_D A [(h0X, .inr (14, fsX)), (owX, .inl (g 6, 4, .inr (.inr (.inr (.inr (va_up (va_up (va_up (va_up (fun _ => none) 0 (some v0X)) 1 (some v1X)) 2 (some v2X)) 3 (some v3X))))))), (v0X, .inr (13, fw0X)), (v1X, .inr (13, fw1X)), (v2X, .inr (13, fw2X))] := hD
  subst hw
  refine tpst (w := [.int (-1)]) rfl ?_
  refine lv_aload_n G.1 G.2.1 d_Law_743 rfl (lv_at hl 2 rfl) ?_
  refine lv_aload_n G.1 G.2.1 d_Law_744 rfl (lv_at hl 0 rfl) ?_
  refine lv_iload_n G.1 G.2.1 d_Law_745 rfl (lv_at hl 3 rfl) ?_
  refine lv_iconst (v := nI 1) G.1 G.2.1 d_Law_746 (by decide) ?_
  refine lv_iadd G.1 G.2.1 d_Law_747 ?_
  refine tpi (w := nI 1) (by decide) ?_
  refine va_sld G.1 G.2.1 hX hbl hbA hS (nI_inn (n := 6) (a := 1) (by decide) (by decide)) d_Law_748 ?_
  refine tpi (w := (xs 1)) (by rw [nI_clamp (by decide)]) ?_
  refine lv_aload_n G.1 G.2.1 d_Law_749 rfl (lv_at hl 0 rfl) ?_
  refine lv_iload_n G.1 G.2.1 d_Law_750 rfl (lv_at hl 3 rfl) ?_
  refine lv_iconst (v := nI 2) G.1 G.2.1 d_Law_751 (by decide) ?_
  refine lv_iadd G.1 G.2.1 d_Law_752 ?_
  refine tpi (w := nI 2) (by decide) ?_
  refine va_sld G.1 G.2.1 hX hbl hbA hS (nI_inn (n := 6) (a := 2) (by decide) (by decide)) d_Law_753 ?_
  refine tpi (w := (xs 2)) (by rw [nI_clamp (by decide)]) ?_
  refine W.eq (g2 := F0 m 754 ls [.int (xs 2), .int (xs 1), .ref h0X, .int (-1)]) rfl ?_
  refine kEi (wr := []) G (kV (As := [.int (xs 1), .int (xs 2)]) (rest := [.int (-1)]) G hP hD hS [0, 1, 2, 3, 4] rfl rfl (c_Mo_step l D g h0X (xs 1) (xs 2) fsX owX v0X v1X v2X v3X fw0X fw1X fw2X H.size glenX gk0X gw0X gt0X gw1X gt1X gw2X gt2X) w_Mo_step q3822 rfl rfl ⟨Nat.le_of_ble_eq_true rfl, Nat.le_of_ble_eq_true rfl⟩ (fun _ h => absurd h List.not_mem_nil) 0 (ci := 14) rfl rfl rfl hl.1 rfl (Nat.le_of_ble_eq_true rfl) rfl ⟨Nat.le_of_ble_eq_true rfl, (Nat.le_of_ble_eq_true rfl)⟩ d_Law_754) hP hD hS [0, 1, 2, 3, 4] [] rfl rfl rfl rfl (fun r_3 u_4 H locs hw hP hD hS hzH => ?_)
  have hw : r_3 = (-1) := hw
  have hP : va_P D CL [] H := hP
  have hD : va_D A [] := hD
  subst hw
  refine tpst (w := [.int (-1), .int (-1)]) rfl ?_
  refine lv_icmp_eq (tgt := 1768) G.1 G.2.1 d_Law_757 (by decide) (fun c757 => ?_) (fun c757 => absurd c757 (fun h => h rfl))
  refine lv_iinc (v := nI 6) (lv' := [(3, .int (nI 6)), (0, .ref b), (1, .ref h0), (2, .ref h0X)]) G.1 G.2.1 d_Law_1768 hl (k := 3) rfl (show (nI 0) + Int32.ofInt 6 = nI 6 from by decide) (by decide) rfl (fun ls hl => ?_)
  refine lv_goto (tgt := 18) G.1 G.2.1 d_Law_1771 (by decide) ?_
  refine lv_iload_n G.1 G.2.1 d_Law_18 rfl (lv_at hl 0 rfl) ?_
  refine lv_aload_n G.1 G.2.1 d_Law_19 rfl (lv_at hl 1 rfl) ?_
  refine va_slen G.1 G.2.1 hX hbl hbA hS d_Law_20 ?_
  refine tpi (w := nI 6) rfl ?_
  refine lv_bipush (v := nI 6) G.1 G.2.1 d_Law_21 (by decide) ?_
  refine lv_isub G.1 G.2.1 d_Law_23 ?_
  refine tpi (w := nI 0) (by decide) ?_
  refine lv_icmp_gt (tgt := 1774) G.1 G.2.1 d_Law_24 (by decide) (fun c24 => ?_) (fun c24 => absurd c24 (by decide))
  refine lv_iconst (v := nI 1) G.1 G.2.1 d_Law_1774 (by decide) ?_
  refine va_forget (fun q hq => hAA _ (hS.2.2 q hq)) ?_
  refine W.widen (k := 600002) (n := 7302232) (Nat.le_of_ble_eq_true rfl) (Nat.le_of_ble_eq_true rfl) ?_
  exact lw_ret G.1 G.2.1 G.2.2.2.1 G.2.2.2.2.1 d_Law_1775
theorem q2092 : Cond.code y_Cw_run b_Cw_run 5 (some .int) ∈ lw_ok := lw_okmem (List.mem_of_getElem? (i := 2092) (by decide +kernel)) rfl
theorem q2090 : Cond.instanceMethod y_Cw_run ∈ lw_ok := lw_okmem (List.mem_of_getElem? (i := 2090) (by decide +kernel)) rfl
theorem q2091 : Cond.selects y_Cw_run.cls y_Cw_run y_Cw_run ∈ lw_ok := lw_okmem (List.mem_of_getElem? (i := 2091) (by decide +kernel)) rfl
theorem w_Cw_run : CWv y_Cw_run b_Cw_run 5 (some .int) 3 ∧ Cond.instanceMethod y_Cw_run ∈ lw_ok ∧ Cond.selects y_Cw_run.cls y_Cw_run y_Cw_run ∈ lw_ok := ⟨⟨q2092, q329, by decide +kernel, by decide +kernel, by decide +kernel⟩, q2090, q2091⟩
theorem q2089 : Cond.methodLink "ClassWorksLaw" 83 y_Cw_run ∈ lw_ok := lw_okmem (List.mem_of_getElem? (i := 2089) (by decide +kernel)) rfl
theorem q4018 : Cond.code y_Mo_run b_Mo_run 8 (some .int) ∈ lw_ok := lw_okmem (List.mem_of_getElem? (i := 4018) (by decide +kernel)) rfl
theorem q4016 : Cond.instanceMethod y_Mo_run ∈ lw_ok := lw_okmem (List.mem_of_getElem? (i := 4016) (by decide +kernel)) rfl
theorem q4017 : Cond.selects y_Mo_run.cls y_Mo_run y_Mo_run ∈ lw_ok := lw_okmem (List.mem_of_getElem? (i := 4017) (by decide +kernel)) rfl
theorem w_Mo_run : CWv y_Mo_run b_Mo_run 8 (some .int) 3 ∧ Cond.instanceMethod y_Mo_run ∈ lw_ok ∧ Cond.selects y_Mo_run.cls y_Mo_run y_Mo_run ∈ lw_ok := ⟨⟨q4018, q348, by decide +kernel, by decide +kernel, by decide +kernel⟩, q4016, q4017⟩
theorem q4015 : Cond.methodLink "ClassWorksLaw" 86 y_Mo_run ∈ lw_ok := lw_okmem (List.mem_of_getElem? (i := 4015) (by decide +kernel)) rfl
theorem d_Law_762 : decode code 762 = .ok (.aload_n 1, 1) := by decide +kernel
theorem d_Law_763 : decode code 763 = .ok (.aload_n 0, 1) := by decide +kernel
theorem d_Law_764 : decode code 764 = .ok (.iload_n 3, 1) := by decide +kernel
theorem d_Law_765 : decode code 765 = .ok (.iconst 1, 1) := by decide +kernel
theorem d_Law_766 : decode code 766 = .ok (.iadd, 1) := by decide +kernel
theorem d_Law_767 : decode code 767 = .ok (.iaload, 1) := by decide +kernel
theorem d_Law_768 : decode code 768 = .ok (.aload_n 0, 1) := by decide +kernel
theorem d_Law_769 : decode code 769 = .ok (.iload_n 3, 1) := by decide +kernel
theorem d_Law_770 : decode code 770 = .ok (.iconst 2, 1) := by decide +kernel
theorem d_Law_771 : decode code 771 = .ok (.iadd, 1) := by decide +kernel
theorem d_Law_772 : decode code 772 = .ok (.iaload, 1) := by decide +kernel
theorem d_Law_773 : decode code 773 = .ok (.aload_n 0, 1) := by decide +kernel
theorem d_Law_774 : decode code 774 = .ok (.iload_n 3, 1) := by decide +kernel
theorem d_Law_775 : decode code 775 = .ok (.iconst 3, 1) := by decide +kernel
theorem d_Law_776 : decode code 776 = .ok (.iadd, 1) := by decide +kernel
theorem d_Law_777 : decode code 777 = .ok (.iaload, 1) := by decide +kernel
theorem d_Law_778 : decode code 778 = .ok (.invokevirtual 83, 3) := by decide +kernel
theorem d_Law_781 : decode code 781 = .ok (.aload_n 2, 1) := by decide +kernel
theorem d_Law_782 : decode code 782 = .ok (.aload_n 0, 1) := by decide +kernel
theorem d_Law_783 : decode code 783 = .ok (.iload_n 3, 1) := by decide +kernel
theorem d_Law_784 : decode code 784 = .ok (.iconst 1, 1) := by decide +kernel
theorem d_Law_785 : decode code 785 = .ok (.iadd, 1) := by decide +kernel
theorem d_Law_786 : decode code 786 = .ok (.iaload, 1) := by decide +kernel
theorem d_Law_787 : decode code 787 = .ok (.aload_n 0, 1) := by decide +kernel
theorem d_Law_788 : decode code 788 = .ok (.iload_n 3, 1) := by decide +kernel
theorem d_Law_789 : decode code 789 = .ok (.iconst 2, 1) := by decide +kernel
theorem d_Law_790 : decode code 790 = .ok (.iadd, 1) := by decide +kernel
theorem d_Law_791 : decode code 791 = .ok (.iaload, 1) := by decide +kernel
theorem d_Law_792 : decode code 792 = .ok (.aload_n 0, 1) := by decide +kernel
theorem d_Law_793 : decode code 793 = .ok (.iload_n 3, 1) := by decide +kernel
theorem d_Law_794 : decode code 794 = .ok (.iconst 3, 1) := by decide +kernel
theorem d_Law_795 : decode code 795 = .ok (.iadd, 1) := by decide +kernel
theorem d_Law_796 : decode code 796 = .ok (.iaload, 1) := by decide +kernel
theorem d_Law_797 : decode code 797 = .ok (.invokevirtual 86, 3) := by decide +kernel
theorem d_Law_800 : decode code 800 = .ok (.if_icmp .eq 968, 3) := by decide +kernel
set_option maxHeartbeats 4000000 in
set_option maxRecDepth 100000 in
theorem law_run {p : Program} {e : Env} {s : State} {m : MethodId} {below : List Frame} {meth : Method} {c : Code} {l : Launch} {D : va_G} {g : Nat → ClassId} {sl : List SL} {b : Nat} {xs : Nat → Int32} {A : Nat → Prop} (h0 : Nat) (r_cwords : Nat) (r_creader : Nat) (r_cchecker : Nat) (r_cfinder : Nat) (r_cwriter : Nat) (r_cmachines : Nat) (r_ctape : Nat) (r_cstock : Nat) (r_csizes : Nat) (r_cmet : Nat) (r_cfound : Nat) (r_cdraft : Nat) (r_cfewestFor : Nat) (r_cfewestNext : Nat) (mm0 : Nat) (mm1 : Nat) (mm2 : Nat) (mm3 : Nat) (ww0 : Nat) (r_m0heap : Nat) (r_m0runs : Nat) (r_m0counts : Nat) (r_m0traceRow : Nat) (f_m0traceCount : Int32) (r_m0startedList : Nat) (f_m0startedCount : Int32) (f_m0present : Int32) (f_m0quantum : Int32) (f_m0stepsDone : Int32) (f_m0turnSteps : Int32) (f_m0turnMost : Int32) (f_m0turnOver : Int32) (r_m0finder : Nat) (r_m0names : Nat) (f_m0fault : Int32) (f_m0wanted : Int32) (f_m0thrown : Int32) (ww1 : Nat) (r_m1heap : Nat) (r_m1runs : Nat) (r_m1counts : Nat) (r_m1traceRow : Nat) (f_m1traceCount : Int32) (r_m1startedList : Nat) (f_m1startedCount : Int32) (f_m1present : Int32) (f_m1quantum : Int32) (f_m1stepsDone : Int32) (f_m1turnSteps : Int32) (f_m1turnMost : Int32) (f_m1turnOver : Int32) (r_m1finder : Nat) (r_m1names : Nat) (f_m1fault : Int32) (f_m1wanted : Int32) (f_m1thrown : Int32) (ww2 : Nat) (r_m2heap : Nat) (r_m2runs : Nat) (r_m2counts : Nat) (r_m2traceRow : Nat) (f_m2traceCount : Int32) (r_m2startedList : Nat) (f_m2startedCount : Int32) (f_m2present : Int32) (f_m2quantum : Int32) (f_m2stepsDone : Int32) (f_m2turnSteps : Int32) (f_m2turnMost : Int32) (f_m2turnOver : Int32) (r_m2finder : Nat) (r_m2names : Nat) (f_m2fault : Int32) (f_m2wanted : Int32) (f_m2thrown : Int32) (r_w0names : Nat) (f_w0wrongClass : Int32) (f_w0wrongMethod : Int32) (f_w0wrongAt : Int32) (r_w0rows : Nat) (r_w0above : Nat) (r_w0fields : Nat) (r_w0methods : Nat) (r_w0codes : Nat) (r_w0handlers : Nat) (r_w0extra : Nat) (r_w0orders : Nat) (r_w0classNamed : Nat) (f_w0breaks : Int32) (r_w0marks : Nat) (r_w1names : Nat) (f_w1wrongClass : Int32) (f_w1wrongMethod : Int32) (f_w1wrongAt : Int32) (r_w1rows : Nat) (r_w1above : Nat) (r_w1fields : Nat) (r_w1methods : Nat) (r_w1codes : Nat) (r_w1handlers : Nat) (r_w1extra : Nat) (r_w1orders : Nat) (r_w1classNamed : Nat) (f_w1breaks : Int32) (r_w1marks : Nat) (r_w2names : Nat) (f_w2wrongClass : Int32) (f_w2wrongMethod : Int32) (f_w2wrongAt : Int32) (r_w2rows : Nat) (r_w2above : Nat) (r_w2fields : Nat) (r_w2methods : Nat) (r_w2codes : Nat) (r_w2handlers : Nat) (r_w2extra : Nat) (r_w2orders : Nat) (r_w2classNamed : Nat) (f_w2breaks : Int32) (r_w2marks : Nat) (h0X : Nat) (fsX : List Value) (owX : Nat) (v0X : Nat) (v1X : Nat) (v2X : Nat) (v3X : Nat) (fw0X : List Value) (fw1X : List Value) (fw2X : List Value) (G : GV l p s m #[Value.ref b] meth c (⟨"ClassWorksLaw", meth.name, ""⟩ : MethodName) code 4 ret g D sl A) (hX : va_X b 6 xs s s.heap) (hbl : b < s.heap.size) (hbA : ¬ A b) (hAA : ∀ q, A q → s.heap.size ≤ q) {H : Heap} {locs : List Loc} {ls : Array Slot} (glenX : fsX.length = 131) (gk0X : fsX[44]? = some (.ref owX)) (gw0X : fw0X.length = 72) (gt0X : fw0X[0]? = some (.int (nI 0))) (gw1X : fw1X.length = 72) (gt1X : fw1X[0]? = some (.int (nI 0))) (gw2X : fw2X.length = 72) (gt2X : fw2X[0]? = some (.int (nI 0))) (hP : va_P D CL [(h0, .inr (11, [.ref r_cwords, .ref r_creader, .ref r_cchecker, .ref r_cfinder, .ref r_cwriter, .ref r_cmachines, .ref r_ctape, .int (nI 0), .int (-2), .int (nI 60000), .ref r_cstock, .ref r_csizes, .ref r_cmet, .ref r_cfound, .int (nI 0), .ref r_cdraft, .int (nI 0), .int (nI 0), .ref r_cfewestFor, .ref r_cfewestNext])), (r_cmachines, .inl (g 4, 4, .inr (.inr (.inr (.inr (va_up (va_up (va_up (va_up (fun _ => none) 0 (some mm0)) 1 (some mm1)) 2 (some mm2)) 3 (some mm3))))))), (mm0, .inr (4, [.ref ww0, .ref r_m0heap, .ref r_m0runs, .ref r_m0counts, .ref r_m0traceRow, .int f_m0traceCount, .ref r_m0startedList, .int f_m0startedCount, .int f_m0present, .int f_m0quantum, .int f_m0stepsDone, .int f_m0turnSteps, .int f_m0turnMost, .int f_m0turnOver, .ref r_m0finder, .ref r_m0names, .int f_m0fault, .int f_m0wanted, .int f_m0thrown])), (mm1, .inr (4, [.ref ww1, .ref r_m1heap, .ref r_m1runs, .ref r_m1counts, .ref r_m1traceRow, .int f_m1traceCount, .ref r_m1startedList, .int f_m1startedCount, .int f_m1present, .int f_m1quantum, .int f_m1stepsDone, .int f_m1turnSteps, .int f_m1turnMost, .int f_m1turnOver, .ref r_m1finder, .ref r_m1names, .int f_m1fault, .int f_m1wanted, .int f_m1thrown])), (mm2, .inr (4, [.ref ww2, .ref r_m2heap, .ref r_m2runs, .ref r_m2counts, .ref r_m2traceRow, .int f_m2traceCount, .ref r_m2startedList, .int f_m2startedCount, .int f_m2present, .int f_m2quantum, .int f_m2stepsDone, .int f_m2turnSteps, .int f_m2turnMost, .int f_m2turnOver, .ref r_m2finder, .ref r_m2names, .int f_m2fault, .int f_m2wanted, .int f_m2thrown])), (ww0, .inr (9, [.ref r_w0names, .int (nI 0), .int (nI 21), .int f_w0wrongClass, .int f_w0wrongMethod, .int f_w0wrongAt, .ref r_w0rows, .ref r_w0above, .ref r_w0fields, .ref r_w0methods, .ref r_w0codes, .ref r_w0handlers, .ref r_w0extra, .ref r_w0orders, .ref r_w0classNamed, .int f_w0breaks, .ref r_w0marks])), (ww1, .inr (9, [.ref r_w1names, .int (nI 0), .int (nI 21), .int f_w1wrongClass, .int f_w1wrongMethod, .int f_w1wrongAt, .ref r_w1rows, .ref r_w1above, .ref r_w1fields, .ref r_w1methods, .ref r_w1codes, .ref r_w1handlers, .ref r_w1extra, .ref r_w1orders, .ref r_w1classNamed, .int f_w1breaks, .ref r_w1marks])), (ww2, .inr (9, [.ref r_w2names, .int (nI 0), .int (nI 21), .int f_w2wrongClass, .int f_w2wrongMethod, .int f_w2wrongAt, .ref r_w2rows, .ref r_w2above, .ref r_w2fields, .ref r_w2methods, .ref r_w2codes, .ref r_w2handlers, .ref r_w2extra, .ref r_w2orders, .ref r_w2classNamed, .int f_w2breaks, .ref r_w2marks])), (h0X, .inr (14, fsX)), (owX, .inl (g 6, 4, .inr (.inr (.inr (.inr (va_up (va_up (va_up (va_up (fun _ => none) 0 (some v0X)) 1 (some v1X)) 2 (some v2X)) 3 (some v3X))))))), (v0X, .inr (13, fw0X)), (v1X, .inr (13, fw1X)), (v2X, .inr (13, fw2X))] H) (hD : va_D A [(h0, .inr (11, [.ref r_cwords, .ref r_creader, .ref r_cchecker, .ref r_cfinder, .ref r_cwriter, .ref r_cmachines, .ref r_ctape, .int (nI 0), .int (-2), .int (nI 60000), .ref r_cstock, .ref r_csizes, .ref r_cmet, .ref r_cfound, .int (nI 0), .ref r_cdraft, .int (nI 0), .int (nI 0), .ref r_cfewestFor, .ref r_cfewestNext])), (r_cmachines, .inl (g 4, 4, .inr (.inr (.inr (.inr (va_up (va_up (va_up (va_up (fun _ => none) 0 (some mm0)) 1 (some mm1)) 2 (some mm2)) 3 (some mm3))))))), (mm0, .inr (4, [.ref ww0, .ref r_m0heap, .ref r_m0runs, .ref r_m0counts, .ref r_m0traceRow, .int f_m0traceCount, .ref r_m0startedList, .int f_m0startedCount, .int f_m0present, .int f_m0quantum, .int f_m0stepsDone, .int f_m0turnSteps, .int f_m0turnMost, .int f_m0turnOver, .ref r_m0finder, .ref r_m0names, .int f_m0fault, .int f_m0wanted, .int f_m0thrown])), (mm1, .inr (4, [.ref ww1, .ref r_m1heap, .ref r_m1runs, .ref r_m1counts, .ref r_m1traceRow, .int f_m1traceCount, .ref r_m1startedList, .int f_m1startedCount, .int f_m1present, .int f_m1quantum, .int f_m1stepsDone, .int f_m1turnSteps, .int f_m1turnMost, .int f_m1turnOver, .ref r_m1finder, .ref r_m1names, .int f_m1fault, .int f_m1wanted, .int f_m1thrown])), (mm2, .inr (4, [.ref ww2, .ref r_m2heap, .ref r_m2runs, .ref r_m2counts, .ref r_m2traceRow, .int f_m2traceCount, .ref r_m2startedList, .int f_m2startedCount, .int f_m2present, .int f_m2quantum, .int f_m2stepsDone, .int f_m2turnSteps, .int f_m2turnMost, .int f_m2turnOver, .ref r_m2finder, .ref r_m2names, .int f_m2fault, .int f_m2wanted, .int f_m2thrown])), (ww0, .inr (9, [.ref r_w0names, .int (nI 0), .int (nI 21), .int f_w0wrongClass, .int f_w0wrongMethod, .int f_w0wrongAt, .ref r_w0rows, .ref r_w0above, .ref r_w0fields, .ref r_w0methods, .ref r_w0codes, .ref r_w0handlers, .ref r_w0extra, .ref r_w0orders, .ref r_w0classNamed, .int f_w0breaks, .ref r_w0marks])), (ww1, .inr (9, [.ref r_w1names, .int (nI 0), .int (nI 21), .int f_w1wrongClass, .int f_w1wrongMethod, .int f_w1wrongAt, .ref r_w1rows, .ref r_w1above, .ref r_w1fields, .ref r_w1methods, .ref r_w1codes, .ref r_w1handlers, .ref r_w1extra, .ref r_w1orders, .ref r_w1classNamed, .int f_w1breaks, .ref r_w1marks])), (ww2, .inr (9, [.ref r_w2names, .int (nI 0), .int (nI 21), .int f_w2wrongClass, .int f_w2wrongMethod, .int f_w2wrongAt, .ref r_w2rows, .ref r_w2above, .ref r_w2fields, .ref r_w2methods, .ref r_w2codes, .ref r_w2handlers, .ref r_w2extra, .ref r_w2orders, .ref r_w2classNamed, .int f_w2breaks, .ref r_w2marks])), (h0X, .inr (14, fsX)), (owX, .inl (g 6, 4, .inr (.inr (.inr (.inr (va_up (va_up (va_up (va_up (fun _ => none) 0 (some v0X)) 1 (some v1X)) 2 (some v2X)) 3 (some v3X))))))), (v0X, .inr (13, fw0X)), (v1X, .inr (13, fw1X)), (v2X, .inr (13, fw2X))]) (hS : va_S A s.heap H locs) (hl : lv_has ls 4 [(0, .ref b), (1, .ref h0), (2, .ref h0X), (3, .int (nI 0))]) : W p l e room_1 s m #[Value.ref b] below meth c H locs 702 488194 (lw_Z below #[Value.ref b] s) (F0 m 762 ls []) := by
  refine lv_aload_n G.1 G.2.1 d_Law_762 rfl (lv_at hl 1 rfl) ?_
  refine lv_aload_n G.1 G.2.1 d_Law_763 rfl (lv_at hl 0 rfl) ?_
  refine lv_iload_n G.1 G.2.1 d_Law_764 rfl (lv_at hl 3 rfl) ?_
  refine lv_iconst (v := nI 1) G.1 G.2.1 d_Law_765 (by decide) ?_
  refine lv_iadd G.1 G.2.1 d_Law_766 ?_
  refine tpi (w := nI 1) (by decide) ?_
  refine va_sld G.1 G.2.1 hX hbl hbA hS (nI_inn (n := 6) (a := 1) (by decide) (by decide)) d_Law_767 ?_
  refine tpi (w := (xs 1)) (by rw [nI_clamp (by decide)]) ?_
  refine lv_aload_n G.1 G.2.1 d_Law_768 rfl (lv_at hl 0 rfl) ?_
  refine lv_iload_n G.1 G.2.1 d_Law_769 rfl (lv_at hl 3 rfl) ?_
  refine lv_iconst (v := nI 2) G.1 G.2.1 d_Law_770 (by decide) ?_
  refine lv_iadd G.1 G.2.1 d_Law_771 ?_
  refine tpi (w := nI 2) (by decide) ?_
  refine va_sld G.1 G.2.1 hX hbl hbA hS (nI_inn (n := 6) (a := 2) (by decide) (by decide)) d_Law_772 ?_
  refine tpi (w := (xs 2)) (by rw [nI_clamp (by decide)]) ?_
  refine W.eq (g2 := F0 m 773 ls [.int (xs 2), .int (xs 1), .ref h0]) rfl ?_
  refine lv_aload_n G.1 G.2.1 d_Law_773 rfl (lv_at hl 0 rfl) ?_
  refine lv_iload_n G.1 G.2.1 d_Law_774 rfl (lv_at hl 3 rfl) ?_
  refine lv_iconst (v := nI 3) G.1 G.2.1 d_Law_775 (by decide) ?_
  refine lv_iadd G.1 G.2.1 d_Law_776 ?_
  refine tpi (w := nI 3) (by decide) ?_
  refine va_sld G.1 G.2.1 hX hbl hbA hS (nI_inn (n := 6) (a := 3) (by decide) (by decide)) d_Law_777 ?_
  refine tpi (w := (xs 3)) (by rw [nI_clamp (by decide)]) ?_
  refine kEi (wr := [(h0X, .inr (14, fsX)), (owX, .inl (g 6, 4, .inr (.inr (.inr (.inr (va_up (va_up (va_up (va_up (fun _ => none) 0 (some v0X)) 1 (some v1X)) 2 (some v2X)) 3 (some v3X))))))), (v0X, .inr (13, fw0X)), (v1X, .inr (13, fw1X)), (v2X, .inr (13, fw2X))]) G (kV (As := [.int (xs 1), .int (xs 2), .int (xs 3)]) (rest := []) G hP hD hS [0, 1, 2, 3, 4, 5, 6, 7] rfl rfl (c_Cw_run l D g h0 (xs 1) (xs 2) (xs 3) r_cwords r_creader r_cchecker r_cfinder r_cwriter r_cmachines r_ctape r_cstock r_csizes r_cmet r_cfound r_cdraft r_cfewestFor r_cfewestNext mm0 mm1 mm2 mm3 ww0 r_m0heap r_m0runs r_m0counts r_m0traceRow f_m0traceCount r_m0startedList f_m0startedCount f_m0present f_m0quantum f_m0stepsDone f_m0turnSteps f_m0turnMost f_m0turnOver r_m0finder r_m0names f_m0fault f_m0wanted f_m0thrown ww1 r_m1heap r_m1runs r_m1counts r_m1traceRow f_m1traceCount r_m1startedList f_m1startedCount f_m1present f_m1quantum f_m1stepsDone f_m1turnSteps f_m1turnMost f_m1turnOver r_m1finder r_m1names f_m1fault f_m1wanted f_m1thrown ww2 r_m2heap r_m2runs r_m2counts r_m2traceRow f_m2traceCount r_m2startedList f_m2startedCount f_m2present f_m2quantum f_m2stepsDone f_m2turnSteps f_m2turnMost f_m2turnOver r_m2finder r_m2names f_m2fault f_m2wanted f_m2thrown r_w0names f_w0wrongClass f_w0wrongMethod f_w0wrongAt r_w0rows r_w0above r_w0fields r_w0methods r_w0codes r_w0handlers r_w0extra r_w0orders r_w0classNamed f_w0breaks r_w0marks r_w1names f_w1wrongClass f_w1wrongMethod f_w1wrongAt r_w1rows r_w1above r_w1fields r_w1methods r_w1codes r_w1handlers r_w1extra r_w1orders r_w1classNamed f_w1breaks r_w1marks r_w2names f_w2wrongClass f_w2wrongMethod f_w2wrongAt r_w2rows r_w2above r_w2fields r_w2methods r_w2codes r_w2handlers r_w2extra r_w2orders r_w2classNamed f_w2breaks r_w2marks H.size ) w_Cw_run q2089 rfl rfl ⟨Nat.le_of_ble_eq_true rfl, Nat.le_of_ble_eq_true rfl⟩ (fun _ h => absurd h List.not_mem_nil) 0 (ci := 11) rfl rfl rfl hl.1 rfl (Nat.le_of_ble_eq_true rfl) rfl ⟨Nat.le_of_ble_eq_true rfl, (Nat.le_of_ble_eq_true rfl)⟩ d_Law_778) hP hD hS [0, 1, 2, 3, 4, 5, 6, 7] [8, 9, 10, 11, 12] rfl rfl rfl rfl (fun r_1 u_2 H locs hw hP hD hS hzH => ?_)
  have hw : r_1 = (-1) := hw
  have hP : va_P D CL [(h0X, .inr (14, fsX)), (owX, .inl (g 6, 4, .inr (.inr (.inr (.inr (va_up (va_up (va_up (va_up (fun _ => none) 0 (some v0X)) 1 (some v1X)) 2 (some v2X)) 3 (some v3X))))))), (v0X, .inr (13, fw0X)), (v1X, .inr (13, fw1X)), (v2X, .inr (13, fw2X))] H := hP
  have hD : va_D A [(h0X, .inr (14, fsX)), (owX, .inl (g 6, 4, .inr (.inr (.inr (.inr (va_up (va_up (va_up (va_up (fun _ => none) 0 (some v0X)) 1 (some v1X)) 2 (some v2X)) 3 (some v3X))))))), (v0X, .inr (13, fw0X)), (v1X, .inr (13, fw1X)), (v2X, .inr (13, fw2X))] := hD
  subst hw
  refine tpst (w := [.int (-1)]) rfl ?_
  refine lv_aload_n G.1 G.2.1 d_Law_781 rfl (lv_at hl 2 rfl) ?_
  refine lv_aload_n G.1 G.2.1 d_Law_782 rfl (lv_at hl 0 rfl) ?_
  refine lv_iload_n G.1 G.2.1 d_Law_783 rfl (lv_at hl 3 rfl) ?_
  refine lv_iconst (v := nI 1) G.1 G.2.1 d_Law_784 (by decide) ?_
  refine lv_iadd G.1 G.2.1 d_Law_785 ?_
  refine tpi (w := nI 1) (by decide) ?_
  refine va_sld G.1 G.2.1 hX hbl hbA hS (nI_inn (n := 6) (a := 1) (by decide) (by decide)) d_Law_786 ?_
  refine tpi (w := (xs 1)) (by rw [nI_clamp (by decide)]) ?_
  refine W.eq (g2 := F0 m 787 ls [.int (xs 1), .ref h0X, .int (-1)]) rfl ?_
  refine lv_aload_n G.1 G.2.1 d_Law_787 rfl (lv_at hl 0 rfl) ?_
  refine lv_iload_n G.1 G.2.1 d_Law_788 rfl (lv_at hl 3 rfl) ?_
  refine lv_iconst (v := nI 2) G.1 G.2.1 d_Law_789 (by decide) ?_
  refine lv_iadd G.1 G.2.1 d_Law_790 ?_
  refine tpi (w := nI 2) (by decide) ?_
  refine va_sld G.1 G.2.1 hX hbl hbA hS (nI_inn (n := 6) (a := 2) (by decide) (by decide)) d_Law_791 ?_
  refine tpi (w := (xs 2)) (by rw [nI_clamp (by decide)]) ?_
  refine lv_aload_n G.1 G.2.1 d_Law_792 rfl (lv_at hl 0 rfl) ?_
  refine lv_iload_n G.1 G.2.1 d_Law_793 rfl (lv_at hl 3 rfl) ?_
  refine lv_iconst (v := nI 3) G.1 G.2.1 d_Law_794 (by decide) ?_
  refine lv_iadd G.1 G.2.1 d_Law_795 ?_
  refine tpi (w := nI 3) (by decide) ?_
  refine va_sld G.1 G.2.1 hX hbl hbA hS (nI_inn (n := 6) (a := 3) (by decide) (by decide)) d_Law_796 ?_
  refine tpi (w := (xs 3)) (by rw [nI_clamp (by decide)]) ?_
  refine kEi (wr := []) G (kV (As := [.int (xs 1), .int (xs 2), .int (xs 3)]) (rest := [.int (-1)]) G hP hD hS [0, 1, 2, 3, 4] rfl rfl (c_Mo_run l D g h0X (xs 1) (xs 2) (xs 3) fsX owX v0X v1X v2X v3X fw0X fw1X fw2X H.size glenX gk0X gw0X gt0X gw1X gt1X gw2X gt2X) w_Mo_run q4015 rfl rfl ⟨Nat.le_of_ble_eq_true rfl, Nat.le_of_ble_eq_true rfl⟩ (fun _ h => absurd h List.not_mem_nil) 0 (ci := 14) rfl rfl rfl hl.1 rfl (Nat.le_of_ble_eq_true rfl) rfl ⟨Nat.le_of_ble_eq_true rfl, (Nat.le_of_ble_eq_true rfl)⟩ d_Law_797) hP hD hS [0, 1, 2, 3, 4] [] rfl rfl rfl rfl (fun r_3 u_4 H locs hw hP hD hS hzH => ?_)
  have hw : r_3 = (-1) := hw
  have hP : va_P D CL [] H := hP
  have hD : va_D A [] := hD
  subst hw
  refine tpst (w := [.int (-1), .int (-1)]) rfl ?_
  refine lv_icmp_eq (tgt := 1768) G.1 G.2.1 d_Law_800 (by decide) (fun c800 => ?_) (fun c800 => absurd c800 (fun h => h rfl))
  refine W.eq (g2 := F0 m 1768 ls []) rfl ?_
  refine lv_iinc (v := nI 6) (lv' := [(3, .int (nI 6)), (0, .ref b), (1, .ref h0), (2, .ref h0X)]) G.1 G.2.1 d_Law_1768 hl (k := 3) rfl (show (nI 0) + Int32.ofInt 6 = nI 6 from by decide) (by decide) rfl (fun ls hl => ?_)
  refine lv_goto (tgt := 18) G.1 G.2.1 d_Law_1771 (by decide) ?_
  refine lv_iload_n G.1 G.2.1 d_Law_18 rfl (lv_at hl 0 rfl) ?_
  refine lv_aload_n G.1 G.2.1 d_Law_19 rfl (lv_at hl 1 rfl) ?_
  refine va_slen G.1 G.2.1 hX hbl hbA hS d_Law_20 ?_
  refine tpi (w := nI 6) rfl ?_
  refine lv_bipush (v := nI 6) G.1 G.2.1 d_Law_21 (by decide) ?_
  refine lv_isub G.1 G.2.1 d_Law_23 ?_
  refine tpi (w := nI 0) (by decide) ?_
  refine lv_icmp_gt (tgt := 1774) G.1 G.2.1 d_Law_24 (by decide) (fun c24 => ?_) (fun c24 => absurd c24 (by decide))
  refine lv_iconst (v := nI 1) G.1 G.2.1 d_Law_1774 (by decide) ?_
  refine va_forget (fun q hq => hAA _ (hS.2.2 q hq)) ?_
  refine W.widen (k := 600002) (n := 7302232) (Nat.le_of_ble_eq_true rfl) (Nat.le_of_ble_eq_true rfl) ?_
  exact lw_ret G.1 G.2.1 G.2.2.2.1 G.2.2.2.2.1 d_Law_1775
theorem q2108 : Cond.code y_Cw_started b_Cw_started 4 (some .int) ∈ lw_ok := lw_okmem (List.mem_of_getElem? (i := 2108) (by decide +kernel)) rfl
theorem q2106 : Cond.instanceMethod y_Cw_started ∈ lw_ok := lw_okmem (List.mem_of_getElem? (i := 2106) (by decide +kernel)) rfl
theorem q2107 : Cond.selects y_Cw_started.cls y_Cw_started y_Cw_started ∈ lw_ok := lw_okmem (List.mem_of_getElem? (i := 2107) (by decide +kernel)) rfl
theorem w_Cw_started : CWv y_Cw_started b_Cw_started 4 (some .int) 2 ∧ Cond.instanceMethod y_Cw_started ∈ lw_ok ∧ Cond.selects y_Cw_started.cls y_Cw_started y_Cw_started ∈ lw_ok := ⟨⟨q2108, q329, by decide +kernel, by decide +kernel, by decide +kernel⟩, q2106, q2107⟩
theorem q2105 : Cond.methodLink "ClassWorksLaw" 87 y_Cw_started ∈ lw_ok := lw_okmem (List.mem_of_getElem? (i := 2105) (by decide +kernel)) rfl
theorem q4022 : Cond.code y_Mo_started b_Mo_started 3 (some .int) ∈ lw_ok := lw_okmem (List.mem_of_getElem? (i := 4022) (by decide +kernel)) rfl
theorem q4020 : Cond.instanceMethod y_Mo_started ∈ lw_ok := lw_okmem (List.mem_of_getElem? (i := 4020) (by decide +kernel)) rfl
theorem q4021 : Cond.selects y_Mo_started.cls y_Mo_started y_Mo_started ∈ lw_ok := lw_okmem (List.mem_of_getElem? (i := 4021) (by decide +kernel)) rfl
theorem w_Mo_started : CWv y_Mo_started b_Mo_started 3 (some .int) 2 ∧ Cond.instanceMethod y_Mo_started ∈ lw_ok ∧ Cond.selects y_Mo_started.cls y_Mo_started y_Mo_started ∈ lw_ok := ⟨⟨q4022, q348, by decide +kernel, by decide +kernel, by decide +kernel⟩, q4020, q4021⟩
theorem q4019 : Cond.methodLink "ClassWorksLaw" 90 y_Mo_started ∈ lw_ok := lw_okmem (List.mem_of_getElem? (i := 4019) (by decide +kernel)) rfl
theorem d_Law_805 : decode code 805 = .ok (.aload_n 1, 1) := by decide +kernel
theorem d_Law_806 : decode code 806 = .ok (.aload_n 0, 1) := by decide +kernel
theorem d_Law_807 : decode code 807 = .ok (.iload_n 3, 1) := by decide +kernel
theorem d_Law_808 : decode code 808 = .ok (.iconst 1, 1) := by decide +kernel
theorem d_Law_809 : decode code 809 = .ok (.iadd, 1) := by decide +kernel
theorem d_Law_810 : decode code 810 = .ok (.iaload, 1) := by decide +kernel
theorem d_Law_811 : decode code 811 = .ok (.aload_n 0, 1) := by decide +kernel
theorem d_Law_812 : decode code 812 = .ok (.iload_n 3, 1) := by decide +kernel
theorem d_Law_813 : decode code 813 = .ok (.iconst 2, 1) := by decide +kernel
theorem d_Law_814 : decode code 814 = .ok (.iadd, 1) := by decide +kernel
theorem d_Law_815 : decode code 815 = .ok (.iaload, 1) := by decide +kernel
theorem d_Law_816 : decode code 816 = .ok (.invokevirtual 87, 3) := by decide +kernel
theorem d_Law_819 : decode code 819 = .ok (.aload_n 2, 1) := by decide +kernel
theorem d_Law_820 : decode code 820 = .ok (.aload_n 0, 1) := by decide +kernel
theorem d_Law_821 : decode code 821 = .ok (.iload_n 3, 1) := by decide +kernel
theorem d_Law_822 : decode code 822 = .ok (.iconst 1, 1) := by decide +kernel
theorem d_Law_823 : decode code 823 = .ok (.iadd, 1) := by decide +kernel
theorem d_Law_824 : decode code 824 = .ok (.iaload, 1) := by decide +kernel
theorem d_Law_825 : decode code 825 = .ok (.aload_n 0, 1) := by decide +kernel
theorem d_Law_826 : decode code 826 = .ok (.iload_n 3, 1) := by decide +kernel
theorem d_Law_827 : decode code 827 = .ok (.iconst 2, 1) := by decide +kernel
theorem d_Law_828 : decode code 828 = .ok (.iadd, 1) := by decide +kernel
theorem d_Law_829 : decode code 829 = .ok (.iaload, 1) := by decide +kernel
theorem d_Law_830 : decode code 830 = .ok (.invokevirtual 90, 3) := by decide +kernel
theorem d_Law_833 : decode code 833 = .ok (.if_icmp .eq 935, 3) := by decide +kernel
set_option maxHeartbeats 4000000 in
set_option maxRecDepth 100000 in
theorem law_started {p : Program} {e : Env} {s : State} {m : MethodId} {below : List Frame} {meth : Method} {c : Code} {l : Launch} {D : va_G} {g : Nat → ClassId} {sl : List SL} {b : Nat} {xs : Nat → Int32} {A : Nat → Prop} (h0 : Nat) (r_cwords : Nat) (r_creader : Nat) (r_cchecker : Nat) (r_cfinder : Nat) (r_cwriter : Nat) (r_cmachines : Nat) (r_ctape : Nat) (r_cstock : Nat) (r_csizes : Nat) (r_cmet : Nat) (r_cfound : Nat) (r_cdraft : Nat) (r_cfewestFor : Nat) (r_cfewestNext : Nat) (mm0 : Nat) (mm1 : Nat) (mm2 : Nat) (mm3 : Nat) (ww0 : Nat) (r_m0heap : Nat) (r_m0runs : Nat) (r_m0counts : Nat) (r_m0traceRow : Nat) (f_m0traceCount : Int32) (r_m0startedList : Nat) (f_m0startedCount : Int32) (f_m0present : Int32) (f_m0quantum : Int32) (f_m0stepsDone : Int32) (f_m0turnSteps : Int32) (f_m0turnMost : Int32) (f_m0turnOver : Int32) (r_m0finder : Nat) (r_m0names : Nat) (f_m0fault : Int32) (f_m0wanted : Int32) (f_m0thrown : Int32) (ww1 : Nat) (r_m1heap : Nat) (r_m1runs : Nat) (r_m1counts : Nat) (r_m1traceRow : Nat) (f_m1traceCount : Int32) (r_m1startedList : Nat) (f_m1startedCount : Int32) (f_m1present : Int32) (f_m1quantum : Int32) (f_m1stepsDone : Int32) (f_m1turnSteps : Int32) (f_m1turnMost : Int32) (f_m1turnOver : Int32) (r_m1finder : Nat) (r_m1names : Nat) (f_m1fault : Int32) (f_m1wanted : Int32) (f_m1thrown : Int32) (ww2 : Nat) (r_m2heap : Nat) (r_m2runs : Nat) (r_m2counts : Nat) (r_m2traceRow : Nat) (f_m2traceCount : Int32) (r_m2startedList : Nat) (f_m2startedCount : Int32) (f_m2present : Int32) (f_m2quantum : Int32) (f_m2stepsDone : Int32) (f_m2turnSteps : Int32) (f_m2turnMost : Int32) (f_m2turnOver : Int32) (r_m2finder : Nat) (r_m2names : Nat) (f_m2fault : Int32) (f_m2wanted : Int32) (f_m2thrown : Int32) (r_w0names : Nat) (f_w0wrongClass : Int32) (f_w0wrongMethod : Int32) (f_w0wrongAt : Int32) (r_w0rows : Nat) (r_w0above : Nat) (r_w0fields : Nat) (r_w0methods : Nat) (r_w0codes : Nat) (r_w0handlers : Nat) (r_w0extra : Nat) (r_w0orders : Nat) (r_w0classNamed : Nat) (f_w0breaks : Int32) (r_w0marks : Nat) (r_w1names : Nat) (f_w1wrongClass : Int32) (f_w1wrongMethod : Int32) (f_w1wrongAt : Int32) (r_w1rows : Nat) (r_w1above : Nat) (r_w1fields : Nat) (r_w1methods : Nat) (r_w1codes : Nat) (r_w1handlers : Nat) (r_w1extra : Nat) (r_w1orders : Nat) (r_w1classNamed : Nat) (f_w1breaks : Int32) (r_w1marks : Nat) (r_w2names : Nat) (f_w2wrongClass : Int32) (f_w2wrongMethod : Int32) (f_w2wrongAt : Int32) (r_w2rows : Nat) (r_w2above : Nat) (r_w2fields : Nat) (r_w2methods : Nat) (r_w2codes : Nat) (r_w2handlers : Nat) (r_w2extra : Nat) (r_w2orders : Nat) (r_w2classNamed : Nat) (f_w2breaks : Int32) (r_w2marks : Nat) (h0X : Nat) (fsX : List Value) (owX : Nat) (v0X : Nat) (v1X : Nat) (v2X : Nat) (v3X : Nat) (fw0X : List Value) (fw1X : List Value) (fw2X : List Value) (G : GV l p s m #[Value.ref b] meth c (⟨"ClassWorksLaw", meth.name, ""⟩ : MethodName) code 4 ret g D sl A) (hX : va_X b 6 xs s s.heap) (hbl : b < s.heap.size) (hbA : ¬ A b) (hAA : ∀ q, A q → s.heap.size ≤ q) {H : Heap} {locs : List Loc} {ls : Array Slot} (glenX : fsX.length = 131) (gk0X : fsX[44]? = some (.ref owX)) (gw0X : fw0X.length = 72) (gt0X : fw0X[0]? = some (.int (nI 0))) (gw1X : fw1X.length = 72) (gt1X : fw1X[0]? = some (.int (nI 0))) (gw2X : fw2X.length = 72) (gt2X : fw2X[0]? = some (.int (nI 0))) (hP : va_P D CL [(h0, .inr (11, [.ref r_cwords, .ref r_creader, .ref r_cchecker, .ref r_cfinder, .ref r_cwriter, .ref r_cmachines, .ref r_ctape, .int (nI 0), .int (-2), .int (nI 60000), .ref r_cstock, .ref r_csizes, .ref r_cmet, .ref r_cfound, .int (nI 0), .ref r_cdraft, .int (nI 0), .int (nI 0), .ref r_cfewestFor, .ref r_cfewestNext])), (r_cmachines, .inl (g 4, 4, .inr (.inr (.inr (.inr (va_up (va_up (va_up (va_up (fun _ => none) 0 (some mm0)) 1 (some mm1)) 2 (some mm2)) 3 (some mm3))))))), (mm0, .inr (4, [.ref ww0, .ref r_m0heap, .ref r_m0runs, .ref r_m0counts, .ref r_m0traceRow, .int f_m0traceCount, .ref r_m0startedList, .int f_m0startedCount, .int f_m0present, .int f_m0quantum, .int f_m0stepsDone, .int f_m0turnSteps, .int f_m0turnMost, .int f_m0turnOver, .ref r_m0finder, .ref r_m0names, .int f_m0fault, .int f_m0wanted, .int f_m0thrown])), (mm1, .inr (4, [.ref ww1, .ref r_m1heap, .ref r_m1runs, .ref r_m1counts, .ref r_m1traceRow, .int f_m1traceCount, .ref r_m1startedList, .int f_m1startedCount, .int f_m1present, .int f_m1quantum, .int f_m1stepsDone, .int f_m1turnSteps, .int f_m1turnMost, .int f_m1turnOver, .ref r_m1finder, .ref r_m1names, .int f_m1fault, .int f_m1wanted, .int f_m1thrown])), (mm2, .inr (4, [.ref ww2, .ref r_m2heap, .ref r_m2runs, .ref r_m2counts, .ref r_m2traceRow, .int f_m2traceCount, .ref r_m2startedList, .int f_m2startedCount, .int f_m2present, .int f_m2quantum, .int f_m2stepsDone, .int f_m2turnSteps, .int f_m2turnMost, .int f_m2turnOver, .ref r_m2finder, .ref r_m2names, .int f_m2fault, .int f_m2wanted, .int f_m2thrown])), (ww0, .inr (9, [.ref r_w0names, .int (nI 0), .int (nI 21), .int f_w0wrongClass, .int f_w0wrongMethod, .int f_w0wrongAt, .ref r_w0rows, .ref r_w0above, .ref r_w0fields, .ref r_w0methods, .ref r_w0codes, .ref r_w0handlers, .ref r_w0extra, .ref r_w0orders, .ref r_w0classNamed, .int f_w0breaks, .ref r_w0marks])), (ww1, .inr (9, [.ref r_w1names, .int (nI 0), .int (nI 21), .int f_w1wrongClass, .int f_w1wrongMethod, .int f_w1wrongAt, .ref r_w1rows, .ref r_w1above, .ref r_w1fields, .ref r_w1methods, .ref r_w1codes, .ref r_w1handlers, .ref r_w1extra, .ref r_w1orders, .ref r_w1classNamed, .int f_w1breaks, .ref r_w1marks])), (ww2, .inr (9, [.ref r_w2names, .int (nI 0), .int (nI 21), .int f_w2wrongClass, .int f_w2wrongMethod, .int f_w2wrongAt, .ref r_w2rows, .ref r_w2above, .ref r_w2fields, .ref r_w2methods, .ref r_w2codes, .ref r_w2handlers, .ref r_w2extra, .ref r_w2orders, .ref r_w2classNamed, .int f_w2breaks, .ref r_w2marks])), (h0X, .inr (14, fsX)), (owX, .inl (g 6, 4, .inr (.inr (.inr (.inr (va_up (va_up (va_up (va_up (fun _ => none) 0 (some v0X)) 1 (some v1X)) 2 (some v2X)) 3 (some v3X))))))), (v0X, .inr (13, fw0X)), (v1X, .inr (13, fw1X)), (v2X, .inr (13, fw2X))] H) (hD : va_D A [(h0, .inr (11, [.ref r_cwords, .ref r_creader, .ref r_cchecker, .ref r_cfinder, .ref r_cwriter, .ref r_cmachines, .ref r_ctape, .int (nI 0), .int (-2), .int (nI 60000), .ref r_cstock, .ref r_csizes, .ref r_cmet, .ref r_cfound, .int (nI 0), .ref r_cdraft, .int (nI 0), .int (nI 0), .ref r_cfewestFor, .ref r_cfewestNext])), (r_cmachines, .inl (g 4, 4, .inr (.inr (.inr (.inr (va_up (va_up (va_up (va_up (fun _ => none) 0 (some mm0)) 1 (some mm1)) 2 (some mm2)) 3 (some mm3))))))), (mm0, .inr (4, [.ref ww0, .ref r_m0heap, .ref r_m0runs, .ref r_m0counts, .ref r_m0traceRow, .int f_m0traceCount, .ref r_m0startedList, .int f_m0startedCount, .int f_m0present, .int f_m0quantum, .int f_m0stepsDone, .int f_m0turnSteps, .int f_m0turnMost, .int f_m0turnOver, .ref r_m0finder, .ref r_m0names, .int f_m0fault, .int f_m0wanted, .int f_m0thrown])), (mm1, .inr (4, [.ref ww1, .ref r_m1heap, .ref r_m1runs, .ref r_m1counts, .ref r_m1traceRow, .int f_m1traceCount, .ref r_m1startedList, .int f_m1startedCount, .int f_m1present, .int f_m1quantum, .int f_m1stepsDone, .int f_m1turnSteps, .int f_m1turnMost, .int f_m1turnOver, .ref r_m1finder, .ref r_m1names, .int f_m1fault, .int f_m1wanted, .int f_m1thrown])), (mm2, .inr (4, [.ref ww2, .ref r_m2heap, .ref r_m2runs, .ref r_m2counts, .ref r_m2traceRow, .int f_m2traceCount, .ref r_m2startedList, .int f_m2startedCount, .int f_m2present, .int f_m2quantum, .int f_m2stepsDone, .int f_m2turnSteps, .int f_m2turnMost, .int f_m2turnOver, .ref r_m2finder, .ref r_m2names, .int f_m2fault, .int f_m2wanted, .int f_m2thrown])), (ww0, .inr (9, [.ref r_w0names, .int (nI 0), .int (nI 21), .int f_w0wrongClass, .int f_w0wrongMethod, .int f_w0wrongAt, .ref r_w0rows, .ref r_w0above, .ref r_w0fields, .ref r_w0methods, .ref r_w0codes, .ref r_w0handlers, .ref r_w0extra, .ref r_w0orders, .ref r_w0classNamed, .int f_w0breaks, .ref r_w0marks])), (ww1, .inr (9, [.ref r_w1names, .int (nI 0), .int (nI 21), .int f_w1wrongClass, .int f_w1wrongMethod, .int f_w1wrongAt, .ref r_w1rows, .ref r_w1above, .ref r_w1fields, .ref r_w1methods, .ref r_w1codes, .ref r_w1handlers, .ref r_w1extra, .ref r_w1orders, .ref r_w1classNamed, .int f_w1breaks, .ref r_w1marks])), (ww2, .inr (9, [.ref r_w2names, .int (nI 0), .int (nI 21), .int f_w2wrongClass, .int f_w2wrongMethod, .int f_w2wrongAt, .ref r_w2rows, .ref r_w2above, .ref r_w2fields, .ref r_w2methods, .ref r_w2codes, .ref r_w2handlers, .ref r_w2extra, .ref r_w2orders, .ref r_w2classNamed, .int f_w2breaks, .ref r_w2marks])), (h0X, .inr (14, fsX)), (owX, .inl (g 6, 4, .inr (.inr (.inr (.inr (va_up (va_up (va_up (va_up (fun _ => none) 0 (some v0X)) 1 (some v1X)) 2 (some v2X)) 3 (some v3X))))))), (v0X, .inr (13, fw0X)), (v1X, .inr (13, fw1X)), (v2X, .inr (13, fw2X))]) (hS : va_S A s.heap H locs) (hl : lv_has ls 4 [(0, .ref b), (1, .ref h0), (2, .ref h0X), (3, .int (nI 0))]) : W p l e room_1 s m #[Value.ref b] below meth c H locs 702 488194 (lw_Z below #[Value.ref b] s) (F0 m 805 ls []) := by
  refine lv_aload_n G.1 G.2.1 d_Law_805 rfl (lv_at hl 1 rfl) ?_
  refine lv_aload_n G.1 G.2.1 d_Law_806 rfl (lv_at hl 0 rfl) ?_
  refine lv_iload_n G.1 G.2.1 d_Law_807 rfl (lv_at hl 3 rfl) ?_
  refine lv_iconst (v := nI 1) G.1 G.2.1 d_Law_808 (by decide) ?_
  refine lv_iadd G.1 G.2.1 d_Law_809 ?_
  refine tpi (w := nI 1) (by decide) ?_
  refine va_sld G.1 G.2.1 hX hbl hbA hS (nI_inn (n := 6) (a := 1) (by decide) (by decide)) d_Law_810 ?_
  refine tpi (w := (xs 1)) (by rw [nI_clamp (by decide)]) ?_
  refine lv_aload_n G.1 G.2.1 d_Law_811 rfl (lv_at hl 0 rfl) ?_
  refine lv_iload_n G.1 G.2.1 d_Law_812 rfl (lv_at hl 3 rfl) ?_
  refine lv_iconst (v := nI 2) G.1 G.2.1 d_Law_813 (by decide) ?_
  refine lv_iadd G.1 G.2.1 d_Law_814 ?_
  refine tpi (w := nI 2) (by decide) ?_
  refine va_sld G.1 G.2.1 hX hbl hbA hS (nI_inn (n := 6) (a := 2) (by decide) (by decide)) d_Law_815 ?_
  refine tpi (w := (xs 2)) (by rw [nI_clamp (by decide)]) ?_
  refine W.eq (g2 := F0 m 816 ls [.int (xs 2), .int (xs 1), .ref h0]) rfl ?_
  refine kEi (wr := [(h0X, .inr (14, fsX)), (owX, .inl (g 6, 4, .inr (.inr (.inr (.inr (va_up (va_up (va_up (va_up (fun _ => none) 0 (some v0X)) 1 (some v1X)) 2 (some v2X)) 3 (some v3X))))))), (v0X, .inr (13, fw0X)), (v1X, .inr (13, fw1X)), (v2X, .inr (13, fw2X))]) G (kV (As := [.int (xs 1), .int (xs 2)]) (rest := []) G hP hD hS [0, 1, 2, 3, 4, 5, 6, 7] rfl rfl (c_Cw_started l D g h0 (xs 1) (xs 2) r_cwords r_creader r_cchecker r_cfinder r_cwriter r_cmachines r_ctape r_cstock r_csizes r_cmet r_cfound r_cdraft r_cfewestFor r_cfewestNext mm0 mm1 mm2 mm3 ww0 r_m0heap r_m0runs r_m0counts r_m0traceRow f_m0traceCount r_m0startedList f_m0startedCount f_m0present f_m0quantum f_m0stepsDone f_m0turnSteps f_m0turnMost f_m0turnOver r_m0finder r_m0names f_m0fault f_m0wanted f_m0thrown ww1 r_m1heap r_m1runs r_m1counts r_m1traceRow f_m1traceCount r_m1startedList f_m1startedCount f_m1present f_m1quantum f_m1stepsDone f_m1turnSteps f_m1turnMost f_m1turnOver r_m1finder r_m1names f_m1fault f_m1wanted f_m1thrown ww2 r_m2heap r_m2runs r_m2counts r_m2traceRow f_m2traceCount r_m2startedList f_m2startedCount f_m2present f_m2quantum f_m2stepsDone f_m2turnSteps f_m2turnMost f_m2turnOver r_m2finder r_m2names f_m2fault f_m2wanted f_m2thrown r_w0names f_w0wrongClass f_w0wrongMethod f_w0wrongAt r_w0rows r_w0above r_w0fields r_w0methods r_w0codes r_w0handlers r_w0extra r_w0orders r_w0classNamed f_w0breaks r_w0marks r_w1names f_w1wrongClass f_w1wrongMethod f_w1wrongAt r_w1rows r_w1above r_w1fields r_w1methods r_w1codes r_w1handlers r_w1extra r_w1orders r_w1classNamed f_w1breaks r_w1marks r_w2names f_w2wrongClass f_w2wrongMethod f_w2wrongAt r_w2rows r_w2above r_w2fields r_w2methods r_w2codes r_w2handlers r_w2extra r_w2orders r_w2classNamed f_w2breaks r_w2marks H.size ) w_Cw_started q2105 rfl rfl ⟨Nat.le_of_ble_eq_true rfl, Nat.le_of_ble_eq_true rfl⟩ (fun _ h => absurd h List.not_mem_nil) 0 (ci := 11) rfl rfl rfl hl.1 rfl (Nat.le_of_ble_eq_true rfl) rfl ⟨Nat.le_of_ble_eq_true rfl, (Nat.le_of_ble_eq_true rfl)⟩ d_Law_816) hP hD hS [0, 1, 2, 3, 4, 5, 6, 7] [8, 9, 10, 11, 12] rfl rfl rfl rfl (fun r_1 u_2 H locs hw hP hD hS hzH => ?_)
  have hw : r_1 = (-1) := hw
  have hP : va_P D CL [(h0X, .inr (14, fsX)), (owX, .inl (g 6, 4, .inr (.inr (.inr (.inr (va_up (va_up (va_up (va_up (fun _ => none) 0 (some v0X)) 1 (some v1X)) 2 (some v2X)) 3 (some v3X))))))), (v0X, .inr (13, fw0X)), (v1X, .inr (13, fw1X)), (v2X, .inr (13, fw2X))] H := hP
  have hD : va_D A [(h0X, .inr (14, fsX)), (owX, .inl (g 6, 4, .inr (.inr (.inr (.inr (va_up (va_up (va_up (va_up (fun _ => none) 0 (some v0X)) 1 (some v1X)) 2 (some v2X)) 3 (some v3X))))))), (v0X, .inr (13, fw0X)), (v1X, .inr (13, fw1X)), (v2X, .inr (13, fw2X))] := hD
  subst hw
  refine tpst (w := [.int (-1)]) rfl ?_
  refine lv_aload_n G.1 G.2.1 d_Law_819 rfl (lv_at hl 2 rfl) ?_
  refine lv_aload_n G.1 G.2.1 d_Law_820 rfl (lv_at hl 0 rfl) ?_
  refine lv_iload_n G.1 G.2.1 d_Law_821 rfl (lv_at hl 3 rfl) ?_
  refine lv_iconst (v := nI 1) G.1 G.2.1 d_Law_822 (by decide) ?_
  refine lv_iadd G.1 G.2.1 d_Law_823 ?_
  refine tpi (w := nI 1) (by decide) ?_
  refine va_sld G.1 G.2.1 hX hbl hbA hS (nI_inn (n := 6) (a := 1) (by decide) (by decide)) d_Law_824 ?_
  refine tpi (w := (xs 1)) (by rw [nI_clamp (by decide)]) ?_
  refine lv_aload_n G.1 G.2.1 d_Law_825 rfl (lv_at hl 0 rfl) ?_
  refine lv_iload_n G.1 G.2.1 d_Law_826 rfl (lv_at hl 3 rfl) ?_
  refine lv_iconst (v := nI 2) G.1 G.2.1 d_Law_827 (by decide) ?_
  refine lv_iadd G.1 G.2.1 d_Law_828 ?_
  refine tpi (w := nI 2) (by decide) ?_
  refine va_sld G.1 G.2.1 hX hbl hbA hS (nI_inn (n := 6) (a := 2) (by decide) (by decide)) d_Law_829 ?_
  refine tpi (w := (xs 2)) (by rw [nI_clamp (by decide)]) ?_
  refine W.eq (g2 := F0 m 830 ls [.int (xs 2), .int (xs 1), .ref h0X, .int (-1)]) rfl ?_
  refine kEi (wr := []) G (kV (As := [.int (xs 1), .int (xs 2)]) (rest := [.int (-1)]) G hP hD hS [0, 1, 2, 3, 4] rfl rfl (c_Mo_started l D g h0X (xs 1) (xs 2) fsX owX v0X v1X v2X v3X fw0X fw1X fw2X H.size glenX gk0X gw0X gt0X gw1X gt1X gw2X gt2X) w_Mo_started q4019 rfl rfl ⟨Nat.le_of_ble_eq_true rfl, Nat.le_of_ble_eq_true rfl⟩ (fun _ h => absurd h List.not_mem_nil) 0 (ci := 14) rfl rfl rfl hl.1 rfl (Nat.le_of_ble_eq_true rfl) rfl ⟨Nat.le_of_ble_eq_true rfl, (Nat.le_of_ble_eq_true rfl)⟩ d_Law_830) hP hD hS [0, 1, 2, 3, 4] [] rfl rfl rfl rfl (fun r_3 u_4 H locs hw hP hD hS hzH => ?_)
  have hw : r_3 = (-1) := hw
  have hP : va_P D CL [] H := hP
  have hD : va_D A [] := hD
  subst hw
  refine tpst (w := [.int (-1), .int (-1)]) rfl ?_
  refine lv_icmp_eq (tgt := 1768) G.1 G.2.1 d_Law_833 (by decide) (fun c833 => ?_) (fun c833 => absurd c833 (fun h => h rfl))
  refine lv_iinc (v := nI 6) (lv' := [(3, .int (nI 6)), (0, .ref b), (1, .ref h0), (2, .ref h0X)]) G.1 G.2.1 d_Law_1768 hl (k := 3) rfl (show (nI 0) + Int32.ofInt 6 = nI 6 from by decide) (by decide) rfl (fun ls hl => ?_)
  refine lv_goto (tgt := 18) G.1 G.2.1 d_Law_1771 (by decide) ?_
  refine lv_iload_n G.1 G.2.1 d_Law_18 rfl (lv_at hl 0 rfl) ?_
  refine lv_aload_n G.1 G.2.1 d_Law_19 rfl (lv_at hl 1 rfl) ?_
  refine va_slen G.1 G.2.1 hX hbl hbA hS d_Law_20 ?_
  refine tpi (w := nI 6) rfl ?_
  refine lv_bipush (v := nI 6) G.1 G.2.1 d_Law_21 (by decide) ?_
  refine lv_isub G.1 G.2.1 d_Law_23 ?_
  refine tpi (w := nI 0) (by decide) ?_
  refine lv_icmp_gt (tgt := 1774) G.1 G.2.1 d_Law_24 (by decide) (fun c24 => ?_) (fun c24 => absurd c24 (by decide))
  refine lv_iconst (v := nI 1) G.1 G.2.1 d_Law_1774 (by decide) ?_
  refine va_forget (fun q hq => hAA _ (hS.2.2 q hq)) ?_
  refine W.widen (k := 600002) (n := 7302232) (Nat.le_of_ble_eq_true rfl) (Nat.le_of_ble_eq_true rfl) ?_
  exact lw_ret G.1 G.2.1 G.2.2.2.1 G.2.2.2.2.1 d_Law_1775
theorem q2112 : Cond.code y_Cw_value b_Cw_value 9 (some .int) ∈ lw_ok := lw_okmem (List.mem_of_getElem? (i := 2112) (by decide +kernel)) rfl
theorem q2110 : Cond.instanceMethod y_Cw_value ∈ lw_ok := lw_okmem (List.mem_of_getElem? (i := 2110) (by decide +kernel)) rfl
theorem q2111 : Cond.selects y_Cw_value.cls y_Cw_value y_Cw_value ∈ lw_ok := lw_okmem (List.mem_of_getElem? (i := 2111) (by decide +kernel)) rfl
theorem w_Cw_value : CWv y_Cw_value b_Cw_value 9 (some .int) 4 ∧ Cond.instanceMethod y_Cw_value ∈ lw_ok ∧ Cond.selects y_Cw_value.cls y_Cw_value y_Cw_value ∈ lw_ok := ⟨⟨q2112, q329, by decide +kernel, by decide +kernel, by decide +kernel⟩, q2110, q2111⟩
theorem q2109 : Cond.methodLink "ClassWorksLaw" 91 y_Cw_value ∈ lw_ok := lw_okmem (List.mem_of_getElem? (i := 2109) (by decide +kernel)) rfl
theorem q4026 : Cond.code y_Mo_value b_Mo_value 9 (some .int) ∈ lw_ok := lw_okmem (List.mem_of_getElem? (i := 4026) (by decide +kernel)) rfl
theorem q4024 : Cond.instanceMethod y_Mo_value ∈ lw_ok := lw_okmem (List.mem_of_getElem? (i := 4024) (by decide +kernel)) rfl
theorem q4025 : Cond.selects y_Mo_value.cls y_Mo_value y_Mo_value ∈ lw_ok := lw_okmem (List.mem_of_getElem? (i := 4025) (by decide +kernel)) rfl
theorem w_Mo_value : CWv y_Mo_value b_Mo_value 9 (some .int) 4 ∧ Cond.instanceMethod y_Mo_value ∈ lw_ok ∧ Cond.selects y_Mo_value.cls y_Mo_value y_Mo_value ∈ lw_ok := ⟨⟨q4026, q348, by decide +kernel, by decide +kernel, by decide +kernel⟩, q4024, q4025⟩
theorem q4023 : Cond.methodLink "ClassWorksLaw" 95 y_Mo_value ∈ lw_ok := lw_okmem (List.mem_of_getElem? (i := 4023) (by decide +kernel)) rfl
theorem d_Law_838 : decode code 838 = .ok (.aload_n 1, 1) := by decide +kernel
theorem d_Law_839 : decode code 839 = .ok (.aload_n 0, 1) := by decide +kernel
theorem d_Law_840 : decode code 840 = .ok (.iload_n 3, 1) := by decide +kernel
theorem d_Law_841 : decode code 841 = .ok (.iconst 1, 1) := by decide +kernel
theorem d_Law_842 : decode code 842 = .ok (.iadd, 1) := by decide +kernel
theorem d_Law_843 : decode code 843 = .ok (.iaload, 1) := by decide +kernel
theorem d_Law_844 : decode code 844 = .ok (.aload_n 0, 1) := by decide +kernel
theorem d_Law_845 : decode code 845 = .ok (.iload_n 3, 1) := by decide +kernel
theorem d_Law_846 : decode code 846 = .ok (.iconst 2, 1) := by decide +kernel
theorem d_Law_847 : decode code 847 = .ok (.iadd, 1) := by decide +kernel
theorem d_Law_848 : decode code 848 = .ok (.iaload, 1) := by decide +kernel
theorem d_Law_849 : decode code 849 = .ok (.aload_n 0, 1) := by decide +kernel
theorem d_Law_850 : decode code 850 = .ok (.iload_n 3, 1) := by decide +kernel
theorem d_Law_851 : decode code 851 = .ok (.iconst 3, 1) := by decide +kernel
theorem d_Law_852 : decode code 852 = .ok (.iadd, 1) := by decide +kernel
theorem d_Law_853 : decode code 853 = .ok (.iaload, 1) := by decide +kernel
theorem d_Law_854 : decode code 854 = .ok (.ifCond .eq 7, 3) := by decide +kernel
theorem d_Law_857 : decode code 857 = .ok (.iconst 1, 1) := by decide +kernel
theorem d_Law_858 : decode code 858 = .ok (.goto 4, 3) := by decide +kernel
theorem d_Law_861 : decode code 861 = .ok (.iconst 0, 1) := by decide +kernel
theorem d_Law_862 : decode code 862 = .ok (.aload_n 0, 1) := by decide +kernel
theorem d_Law_863 : decode code 863 = .ok (.iload_n 3, 1) := by decide +kernel
theorem d_Law_864 : decode code 864 = .ok (.iconst 4, 1) := by decide +kernel
theorem d_Law_865 : decode code 865 = .ok (.iadd, 1) := by decide +kernel
theorem d_Law_866 : decode code 866 = .ok (.iaload, 1) := by decide +kernel
theorem d_Law_867 : decode code 867 = .ok (.invokevirtual 91, 3) := by decide +kernel
theorem d_Law_870 : decode code 870 = .ok (.aload_n 2, 1) := by decide +kernel
theorem d_Law_871 : decode code 871 = .ok (.aload_n 0, 1) := by decide +kernel
theorem d_Law_872 : decode code 872 = .ok (.iload_n 3, 1) := by decide +kernel
theorem d_Law_873 : decode code 873 = .ok (.iconst 1, 1) := by decide +kernel
theorem d_Law_874 : decode code 874 = .ok (.iadd, 1) := by decide +kernel
theorem d_Law_875 : decode code 875 = .ok (.iaload, 1) := by decide +kernel
theorem d_Law_876 : decode code 876 = .ok (.aload_n 0, 1) := by decide +kernel
theorem d_Law_877 : decode code 877 = .ok (.iload_n 3, 1) := by decide +kernel
theorem d_Law_878 : decode code 878 = .ok (.iconst 2, 1) := by decide +kernel
theorem d_Law_879 : decode code 879 = .ok (.iadd, 1) := by decide +kernel
theorem d_Law_880 : decode code 880 = .ok (.iaload, 1) := by decide +kernel
theorem d_Law_881 : decode code 881 = .ok (.aload_n 0, 1) := by decide +kernel
theorem d_Law_882 : decode code 882 = .ok (.iload_n 3, 1) := by decide +kernel
theorem d_Law_883 : decode code 883 = .ok (.iconst 3, 1) := by decide +kernel
theorem d_Law_884 : decode code 884 = .ok (.iadd, 1) := by decide +kernel
theorem d_Law_885 : decode code 885 = .ok (.iaload, 1) := by decide +kernel
theorem d_Law_886 : decode code 886 = .ok (.ifCond .eq 7, 3) := by decide +kernel
theorem d_Law_889 : decode code 889 = .ok (.iconst 1, 1) := by decide +kernel
theorem d_Law_890 : decode code 890 = .ok (.goto 4, 3) := by decide +kernel
theorem d_Law_893 : decode code 893 = .ok (.iconst 0, 1) := by decide +kernel
theorem d_Law_894 : decode code 894 = .ok (.aload_n 0, 1) := by decide +kernel
theorem d_Law_895 : decode code 895 = .ok (.iload_n 3, 1) := by decide +kernel
theorem d_Law_896 : decode code 896 = .ok (.iconst 4, 1) := by decide +kernel
theorem d_Law_897 : decode code 897 = .ok (.iadd, 1) := by decide +kernel
theorem d_Law_898 : decode code 898 = .ok (.iaload, 1) := by decide +kernel
theorem d_Law_899 : decode code 899 = .ok (.invokevirtual 95, 3) := by decide +kernel
theorem d_Law_902 : decode code 902 = .ok (.if_icmp .eq 866, 3) := by decide +kernel
set_option maxHeartbeats 4000000 in
set_option maxRecDepth 100000 in
theorem law_value {p : Program} {e : Env} {s : State} {m : MethodId} {below : List Frame} {meth : Method} {c : Code} {l : Launch} {D : va_G} {g : Nat → ClassId} {sl : List SL} {b : Nat} {xs : Nat → Int32} {A : Nat → Prop} (h0 : Nat) (r_cwords : Nat) (r_creader : Nat) (r_cchecker : Nat) (r_cfinder : Nat) (r_cwriter : Nat) (r_cmachines : Nat) (r_ctape : Nat) (r_cstock : Nat) (r_csizes : Nat) (r_cmet : Nat) (r_cfound : Nat) (r_cdraft : Nat) (r_cfewestFor : Nat) (r_cfewestNext : Nat) (mm0 : Nat) (mm1 : Nat) (mm2 : Nat) (mm3 : Nat) (ww0 : Nat) (r_m0heap : Nat) (r_m0runs : Nat) (r_m0counts : Nat) (r_m0traceRow : Nat) (f_m0traceCount : Int32) (r_m0startedList : Nat) (f_m0startedCount : Int32) (f_m0present : Int32) (f_m0quantum : Int32) (f_m0stepsDone : Int32) (f_m0turnSteps : Int32) (f_m0turnMost : Int32) (f_m0turnOver : Int32) (r_m0finder : Nat) (r_m0names : Nat) (f_m0fault : Int32) (f_m0wanted : Int32) (f_m0thrown : Int32) (ww1 : Nat) (r_m1heap : Nat) (r_m1runs : Nat) (r_m1counts : Nat) (r_m1traceRow : Nat) (f_m1traceCount : Int32) (r_m1startedList : Nat) (f_m1startedCount : Int32) (f_m1present : Int32) (f_m1quantum : Int32) (f_m1stepsDone : Int32) (f_m1turnSteps : Int32) (f_m1turnMost : Int32) (f_m1turnOver : Int32) (r_m1finder : Nat) (r_m1names : Nat) (f_m1fault : Int32) (f_m1wanted : Int32) (f_m1thrown : Int32) (ww2 : Nat) (r_m2heap : Nat) (r_m2runs : Nat) (r_m2counts : Nat) (r_m2traceRow : Nat) (f_m2traceCount : Int32) (r_m2startedList : Nat) (f_m2startedCount : Int32) (f_m2present : Int32) (f_m2quantum : Int32) (f_m2stepsDone : Int32) (f_m2turnSteps : Int32) (f_m2turnMost : Int32) (f_m2turnOver : Int32) (r_m2finder : Nat) (r_m2names : Nat) (f_m2fault : Int32) (f_m2wanted : Int32) (f_m2thrown : Int32) (r_w0names : Nat) (f_w0wrongClass : Int32) (f_w0wrongMethod : Int32) (f_w0wrongAt : Int32) (r_w0rows : Nat) (r_w0above : Nat) (r_w0fields : Nat) (r_w0methods : Nat) (r_w0codes : Nat) (r_w0handlers : Nat) (r_w0extra : Nat) (r_w0orders : Nat) (r_w0classNamed : Nat) (f_w0breaks : Int32) (r_w0marks : Nat) (r_w1names : Nat) (f_w1wrongClass : Int32) (f_w1wrongMethod : Int32) (f_w1wrongAt : Int32) (r_w1rows : Nat) (r_w1above : Nat) (r_w1fields : Nat) (r_w1methods : Nat) (r_w1codes : Nat) (r_w1handlers : Nat) (r_w1extra : Nat) (r_w1orders : Nat) (r_w1classNamed : Nat) (f_w1breaks : Int32) (r_w1marks : Nat) (r_w2names : Nat) (f_w2wrongClass : Int32) (f_w2wrongMethod : Int32) (f_w2wrongAt : Int32) (r_w2rows : Nat) (r_w2above : Nat) (r_w2fields : Nat) (r_w2methods : Nat) (r_w2codes : Nat) (r_w2handlers : Nat) (r_w2extra : Nat) (r_w2orders : Nat) (r_w2classNamed : Nat) (f_w2breaks : Int32) (r_w2marks : Nat) (h0X : Nat) (fsX : List Value) (owX : Nat) (v0X : Nat) (v1X : Nat) (v2X : Nat) (v3X : Nat) (fw0X : List Value) (fw1X : List Value) (fw2X : List Value) (G : GV l p s m #[Value.ref b] meth c (⟨"ClassWorksLaw", meth.name, ""⟩ : MethodName) code 4 ret g D sl A) (hX : va_X b 6 xs s s.heap) (hbl : b < s.heap.size) (hbA : ¬ A b) (hAA : ∀ q, A q → s.heap.size ≤ q) {H : Heap} {locs : List Loc} {ls : Array Slot} (glenX : fsX.length = 131) (gk0X : fsX[44]? = some (.ref owX)) (gw0X : fw0X.length = 72) (gt0X : fw0X[0]? = some (.int (nI 0))) (gw1X : fw1X.length = 72) (gt1X : fw1X[0]? = some (.int (nI 0))) (gw2X : fw2X.length = 72) (gt2X : fw2X[0]? = some (.int (nI 0))) (hP : va_P D CL [(h0, .inr (11, [.ref r_cwords, .ref r_creader, .ref r_cchecker, .ref r_cfinder, .ref r_cwriter, .ref r_cmachines, .ref r_ctape, .int (nI 0), .int (-2), .int (nI 60000), .ref r_cstock, .ref r_csizes, .ref r_cmet, .ref r_cfound, .int (nI 0), .ref r_cdraft, .int (nI 0), .int (nI 0), .ref r_cfewestFor, .ref r_cfewestNext])), (r_cmachines, .inl (g 4, 4, .inr (.inr (.inr (.inr (va_up (va_up (va_up (va_up (fun _ => none) 0 (some mm0)) 1 (some mm1)) 2 (some mm2)) 3 (some mm3))))))), (mm0, .inr (4, [.ref ww0, .ref r_m0heap, .ref r_m0runs, .ref r_m0counts, .ref r_m0traceRow, .int f_m0traceCount, .ref r_m0startedList, .int f_m0startedCount, .int f_m0present, .int f_m0quantum, .int f_m0stepsDone, .int f_m0turnSteps, .int f_m0turnMost, .int f_m0turnOver, .ref r_m0finder, .ref r_m0names, .int f_m0fault, .int f_m0wanted, .int f_m0thrown])), (mm1, .inr (4, [.ref ww1, .ref r_m1heap, .ref r_m1runs, .ref r_m1counts, .ref r_m1traceRow, .int f_m1traceCount, .ref r_m1startedList, .int f_m1startedCount, .int f_m1present, .int f_m1quantum, .int f_m1stepsDone, .int f_m1turnSteps, .int f_m1turnMost, .int f_m1turnOver, .ref r_m1finder, .ref r_m1names, .int f_m1fault, .int f_m1wanted, .int f_m1thrown])), (mm2, .inr (4, [.ref ww2, .ref r_m2heap, .ref r_m2runs, .ref r_m2counts, .ref r_m2traceRow, .int f_m2traceCount, .ref r_m2startedList, .int f_m2startedCount, .int f_m2present, .int f_m2quantum, .int f_m2stepsDone, .int f_m2turnSteps, .int f_m2turnMost, .int f_m2turnOver, .ref r_m2finder, .ref r_m2names, .int f_m2fault, .int f_m2wanted, .int f_m2thrown])), (ww0, .inr (9, [.ref r_w0names, .int (nI 0), .int (nI 21), .int f_w0wrongClass, .int f_w0wrongMethod, .int f_w0wrongAt, .ref r_w0rows, .ref r_w0above, .ref r_w0fields, .ref r_w0methods, .ref r_w0codes, .ref r_w0handlers, .ref r_w0extra, .ref r_w0orders, .ref r_w0classNamed, .int f_w0breaks, .ref r_w0marks])), (ww1, .inr (9, [.ref r_w1names, .int (nI 0), .int (nI 21), .int f_w1wrongClass, .int f_w1wrongMethod, .int f_w1wrongAt, .ref r_w1rows, .ref r_w1above, .ref r_w1fields, .ref r_w1methods, .ref r_w1codes, .ref r_w1handlers, .ref r_w1extra, .ref r_w1orders, .ref r_w1classNamed, .int f_w1breaks, .ref r_w1marks])), (ww2, .inr (9, [.ref r_w2names, .int (nI 0), .int (nI 21), .int f_w2wrongClass, .int f_w2wrongMethod, .int f_w2wrongAt, .ref r_w2rows, .ref r_w2above, .ref r_w2fields, .ref r_w2methods, .ref r_w2codes, .ref r_w2handlers, .ref r_w2extra, .ref r_w2orders, .ref r_w2classNamed, .int f_w2breaks, .ref r_w2marks])), (h0X, .inr (14, fsX)), (owX, .inl (g 6, 4, .inr (.inr (.inr (.inr (va_up (va_up (va_up (va_up (fun _ => none) 0 (some v0X)) 1 (some v1X)) 2 (some v2X)) 3 (some v3X))))))), (v0X, .inr (13, fw0X)), (v1X, .inr (13, fw1X)), (v2X, .inr (13, fw2X))] H) (hD : va_D A [(h0, .inr (11, [.ref r_cwords, .ref r_creader, .ref r_cchecker, .ref r_cfinder, .ref r_cwriter, .ref r_cmachines, .ref r_ctape, .int (nI 0), .int (-2), .int (nI 60000), .ref r_cstock, .ref r_csizes, .ref r_cmet, .ref r_cfound, .int (nI 0), .ref r_cdraft, .int (nI 0), .int (nI 0), .ref r_cfewestFor, .ref r_cfewestNext])), (r_cmachines, .inl (g 4, 4, .inr (.inr (.inr (.inr (va_up (va_up (va_up (va_up (fun _ => none) 0 (some mm0)) 1 (some mm1)) 2 (some mm2)) 3 (some mm3))))))), (mm0, .inr (4, [.ref ww0, .ref r_m0heap, .ref r_m0runs, .ref r_m0counts, .ref r_m0traceRow, .int f_m0traceCount, .ref r_m0startedList, .int f_m0startedCount, .int f_m0present, .int f_m0quantum, .int f_m0stepsDone, .int f_m0turnSteps, .int f_m0turnMost, .int f_m0turnOver, .ref r_m0finder, .ref r_m0names, .int f_m0fault, .int f_m0wanted, .int f_m0thrown])), (mm1, .inr (4, [.ref ww1, .ref r_m1heap, .ref r_m1runs, .ref r_m1counts, .ref r_m1traceRow, .int f_m1traceCount, .ref r_m1startedList, .int f_m1startedCount, .int f_m1present, .int f_m1quantum, .int f_m1stepsDone, .int f_m1turnSteps, .int f_m1turnMost, .int f_m1turnOver, .ref r_m1finder, .ref r_m1names, .int f_m1fault, .int f_m1wanted, .int f_m1thrown])), (mm2, .inr (4, [.ref ww2, .ref r_m2heap, .ref r_m2runs, .ref r_m2counts, .ref r_m2traceRow, .int f_m2traceCount, .ref r_m2startedList, .int f_m2startedCount, .int f_m2present, .int f_m2quantum, .int f_m2stepsDone, .int f_m2turnSteps, .int f_m2turnMost, .int f_m2turnOver, .ref r_m2finder, .ref r_m2names, .int f_m2fault, .int f_m2wanted, .int f_m2thrown])), (ww0, .inr (9, [.ref r_w0names, .int (nI 0), .int (nI 21), .int f_w0wrongClass, .int f_w0wrongMethod, .int f_w0wrongAt, .ref r_w0rows, .ref r_w0above, .ref r_w0fields, .ref r_w0methods, .ref r_w0codes, .ref r_w0handlers, .ref r_w0extra, .ref r_w0orders, .ref r_w0classNamed, .int f_w0breaks, .ref r_w0marks])), (ww1, .inr (9, [.ref r_w1names, .int (nI 0), .int (nI 21), .int f_w1wrongClass, .int f_w1wrongMethod, .int f_w1wrongAt, .ref r_w1rows, .ref r_w1above, .ref r_w1fields, .ref r_w1methods, .ref r_w1codes, .ref r_w1handlers, .ref r_w1extra, .ref r_w1orders, .ref r_w1classNamed, .int f_w1breaks, .ref r_w1marks])), (ww2, .inr (9, [.ref r_w2names, .int (nI 0), .int (nI 21), .int f_w2wrongClass, .int f_w2wrongMethod, .int f_w2wrongAt, .ref r_w2rows, .ref r_w2above, .ref r_w2fields, .ref r_w2methods, .ref r_w2codes, .ref r_w2handlers, .ref r_w2extra, .ref r_w2orders, .ref r_w2classNamed, .int f_w2breaks, .ref r_w2marks])), (h0X, .inr (14, fsX)), (owX, .inl (g 6, 4, .inr (.inr (.inr (.inr (va_up (va_up (va_up (va_up (fun _ => none) 0 (some v0X)) 1 (some v1X)) 2 (some v2X)) 3 (some v3X))))))), (v0X, .inr (13, fw0X)), (v1X, .inr (13, fw1X)), (v2X, .inr (13, fw2X))]) (hS : va_S A s.heap H locs) (hl : lv_has ls 4 [(0, .ref b), (1, .ref h0), (2, .ref h0X), (3, .int (nI 0))]) : W p l e room_1 s m #[Value.ref b] below meth c H locs 702 488194 (lw_Z below #[Value.ref b] s) (F0 m 838 ls []) := by
  refine lv_aload_n G.1 G.2.1 d_Law_838 rfl (lv_at hl 1 rfl) ?_
  refine lv_aload_n G.1 G.2.1 d_Law_839 rfl (lv_at hl 0 rfl) ?_
  refine lv_iload_n G.1 G.2.1 d_Law_840 rfl (lv_at hl 3 rfl) ?_
  refine lv_iconst (v := nI 1) G.1 G.2.1 d_Law_841 (by decide) ?_
  refine lv_iadd G.1 G.2.1 d_Law_842 ?_
  refine tpi (w := nI 1) (by decide) ?_
  refine va_sld G.1 G.2.1 hX hbl hbA hS (nI_inn (n := 6) (a := 1) (by decide) (by decide)) d_Law_843 ?_
  refine tpi (w := (xs 1)) (by rw [nI_clamp (by decide)]) ?_
  refine lv_aload_n G.1 G.2.1 d_Law_844 rfl (lv_at hl 0 rfl) ?_
  refine lv_iload_n G.1 G.2.1 d_Law_845 rfl (lv_at hl 3 rfl) ?_
  refine lv_iconst (v := nI 2) G.1 G.2.1 d_Law_846 (by decide) ?_
  refine lv_iadd G.1 G.2.1 d_Law_847 ?_
  refine tpi (w := nI 2) (by decide) ?_
  refine va_sld G.1 G.2.1 hX hbl hbA hS (nI_inn (n := 6) (a := 2) (by decide) (by decide)) d_Law_848 ?_
  refine tpi (w := (xs 2)) (by rw [nI_clamp (by decide)]) ?_
  refine W.eq (g2 := F0 m 849 ls [.int (xs 2), .int (xs 1), .ref h0]) rfl ?_
  refine lv_aload_n G.1 G.2.1 d_Law_849 rfl (lv_at hl 0 rfl) ?_
  refine lv_iload_n G.1 G.2.1 d_Law_850 rfl (lv_at hl 3 rfl) ?_
  refine lv_iconst (v := nI 3) G.1 G.2.1 d_Law_851 (by decide) ?_
  refine lv_iadd G.1 G.2.1 d_Law_852 ?_
  refine tpi (w := nI 3) (by decide) ?_
  refine va_sld G.1 G.2.1 hX hbl hbA hS (nI_inn (n := 6) (a := 3) (by decide) (by decide)) d_Law_853 ?_
  refine tpi (w := (xs 3)) (by rw [nI_clamp (by decide)]) ?_
  refine lv_if_eq (tgt := 861) G.1 G.2.1 d_Law_854 (by decide) (fun c854 => ?_) (fun c854 => ?_)
  · skip
    refine lv_iconst (v := nI 0) G.1 G.2.1 d_Law_861 (by decide) ?_
    refine lv_aload_n G.1 G.2.1 d_Law_862 rfl (lv_at hl 0 rfl) ?_
    refine lv_iload_n G.1 G.2.1 d_Law_863 rfl (lv_at hl 3 rfl) ?_
    refine lv_iconst (v := nI 4) G.1 G.2.1 d_Law_864 (by decide) ?_
    refine lv_iadd G.1 G.2.1 d_Law_865 ?_
    refine tpi (w := nI 4) (by decide) ?_
    refine va_sld G.1 G.2.1 hX hbl hbA hS (nI_inn (n := 6) (a := 4) (by decide) (by decide)) d_Law_866 ?_
    refine tpi (w := (xs 4)) (by rw [nI_clamp (by decide)]) ?_
    refine W.eq (g2 := F0 m 867 ls [.int (xs 4), .int (nI 0), .int (xs 2), .int (xs 1), .ref h0]) rfl ?_
    refine kEi (wr := [(h0X, .inr (14, fsX)), (owX, .inl (g 6, 4, .inr (.inr (.inr (.inr (va_up (va_up (va_up (va_up (fun _ => none) 0 (some v0X)) 1 (some v1X)) 2 (some v2X)) 3 (some v3X))))))), (v0X, .inr (13, fw0X)), (v1X, .inr (13, fw1X)), (v2X, .inr (13, fw2X))]) G (kV (As := [.int (xs 1), .int (xs 2), .int (nI 0), .int (xs 4)]) (rest := []) G hP hD hS [0, 1, 2, 3, 4, 5, 6, 7] rfl rfl (c_Cw_value l D g h0 (xs 1) (xs 2) (nI 0) (xs 4) r_cwords r_creader r_cchecker r_cfinder r_cwriter r_cmachines r_ctape r_cstock r_csizes r_cmet r_cfound r_cdraft r_cfewestFor r_cfewestNext mm0 mm1 mm2 mm3 ww0 r_m0heap r_m0runs r_m0counts r_m0traceRow f_m0traceCount r_m0startedList f_m0startedCount f_m0present f_m0quantum f_m0stepsDone f_m0turnSteps f_m0turnMost f_m0turnOver r_m0finder r_m0names f_m0fault f_m0wanted f_m0thrown ww1 r_m1heap r_m1runs r_m1counts r_m1traceRow f_m1traceCount r_m1startedList f_m1startedCount f_m1present f_m1quantum f_m1stepsDone f_m1turnSteps f_m1turnMost f_m1turnOver r_m1finder r_m1names f_m1fault f_m1wanted f_m1thrown ww2 r_m2heap r_m2runs r_m2counts r_m2traceRow f_m2traceCount r_m2startedList f_m2startedCount f_m2present f_m2quantum f_m2stepsDone f_m2turnSteps f_m2turnMost f_m2turnOver r_m2finder r_m2names f_m2fault f_m2wanted f_m2thrown r_w0names f_w0wrongClass f_w0wrongMethod f_w0wrongAt r_w0rows r_w0above r_w0fields r_w0methods r_w0codes r_w0handlers r_w0extra r_w0orders r_w0classNamed f_w0breaks r_w0marks r_w1names f_w1wrongClass f_w1wrongMethod f_w1wrongAt r_w1rows r_w1above r_w1fields r_w1methods r_w1codes r_w1handlers r_w1extra r_w1orders r_w1classNamed f_w1breaks r_w1marks r_w2names f_w2wrongClass f_w2wrongMethod f_w2wrongAt r_w2rows r_w2above r_w2fields r_w2methods r_w2codes r_w2handlers r_w2extra r_w2orders r_w2classNamed f_w2breaks r_w2marks H.size ) w_Cw_value q2109 rfl rfl ⟨Nat.le_of_ble_eq_true rfl, Nat.le_of_ble_eq_true rfl⟩ (fun _ h => absurd h List.not_mem_nil) 0 (ci := 11) rfl rfl rfl hl.1 rfl (Nat.le_of_ble_eq_true rfl) rfl ⟨Nat.le_of_ble_eq_true rfl, (Nat.le_of_ble_eq_true rfl)⟩ d_Law_867) hP hD hS [0, 1, 2, 3, 4, 5, 6, 7] [8, 9, 10, 11, 12] rfl rfl rfl rfl (fun r_1 u_2 H locs hw hP hD hS hzH => ?_)
    have hw : r_1 = (-1) := hw
    have hP : va_P D CL [(h0X, .inr (14, fsX)), (owX, .inl (g 6, 4, .inr (.inr (.inr (.inr (va_up (va_up (va_up (va_up (fun _ => none) 0 (some v0X)) 1 (some v1X)) 2 (some v2X)) 3 (some v3X))))))), (v0X, .inr (13, fw0X)), (v1X, .inr (13, fw1X)), (v2X, .inr (13, fw2X))] H := hP
    have hD : va_D A [(h0X, .inr (14, fsX)), (owX, .inl (g 6, 4, .inr (.inr (.inr (.inr (va_up (va_up (va_up (va_up (fun _ => none) 0 (some v0X)) 1 (some v1X)) 2 (some v2X)) 3 (some v3X))))))), (v0X, .inr (13, fw0X)), (v1X, .inr (13, fw1X)), (v2X, .inr (13, fw2X))] := hD
    subst hw
    refine tpst (w := [.int (-1)]) rfl ?_
    refine lv_aload_n G.1 G.2.1 d_Law_870 rfl (lv_at hl 2 rfl) ?_
    refine lv_aload_n G.1 G.2.1 d_Law_871 rfl (lv_at hl 0 rfl) ?_
    refine lv_iload_n G.1 G.2.1 d_Law_872 rfl (lv_at hl 3 rfl) ?_
    refine lv_iconst (v := nI 1) G.1 G.2.1 d_Law_873 (by decide) ?_
    refine lv_iadd G.1 G.2.1 d_Law_874 ?_
    refine tpi (w := nI 1) (by decide) ?_
    refine va_sld G.1 G.2.1 hX hbl hbA hS (nI_inn (n := 6) (a := 1) (by decide) (by decide)) d_Law_875 ?_
    refine tpi (w := (xs 1)) (by rw [nI_clamp (by decide)]) ?_
    refine lv_aload_n G.1 G.2.1 d_Law_876 rfl (lv_at hl 0 rfl) ?_
    refine lv_iload_n G.1 G.2.1 d_Law_877 rfl (lv_at hl 3 rfl) ?_
    refine lv_iconst (v := nI 2) G.1 G.2.1 d_Law_878 (by decide) ?_
    refine lv_iadd G.1 G.2.1 d_Law_879 ?_
    refine tpi (w := nI 2) (by decide) ?_
    refine va_sld G.1 G.2.1 hX hbl hbA hS (nI_inn (n := 6) (a := 2) (by decide) (by decide)) d_Law_880 ?_
    refine tpi (w := (xs 2)) (by rw [nI_clamp (by decide)]) ?_
    refine W.eq (g2 := F0 m 881 ls [.int (xs 2), .int (xs 1), .ref h0X, .int (-1)]) rfl ?_
    refine lv_aload_n G.1 G.2.1 d_Law_881 rfl (lv_at hl 0 rfl) ?_
    refine lv_iload_n G.1 G.2.1 d_Law_882 rfl (lv_at hl 3 rfl) ?_
    refine lv_iconst (v := nI 3) G.1 G.2.1 d_Law_883 (by decide) ?_
    refine lv_iadd G.1 G.2.1 d_Law_884 ?_
    refine tpi (w := nI 3) (by decide) ?_
    refine va_sld G.1 G.2.1 hX hbl hbA hS (nI_inn (n := 6) (a := 3) (by decide) (by decide)) d_Law_885 ?_
    refine tpi (w := (xs 3)) (by rw [nI_clamp (by decide)]) ?_
    refine lv_if_eq (tgt := 893) G.1 G.2.1 d_Law_886 (by decide) (fun c886 => ?_) (fun c886 => ?_)
    · skip
      refine lv_iconst (v := nI 0) G.1 G.2.1 d_Law_893 (by decide) ?_
      refine lv_aload_n G.1 G.2.1 d_Law_894 rfl (lv_at hl 0 rfl) ?_
      refine lv_iload_n G.1 G.2.1 d_Law_895 rfl (lv_at hl 3 rfl) ?_
      refine lv_iconst (v := nI 4) G.1 G.2.1 d_Law_896 (by decide) ?_
      refine lv_iadd G.1 G.2.1 d_Law_897 ?_
      refine tpi (w := nI 4) (by decide) ?_
      refine va_sld G.1 G.2.1 hX hbl hbA hS (nI_inn (n := 6) (a := 4) (by decide) (by decide)) d_Law_898 ?_
      refine tpi (w := (xs 4)) (by rw [nI_clamp (by decide)]) ?_
      refine W.eq (g2 := F0 m 899 ls [.int (xs 4), .int (nI 0), .int (xs 2), .int (xs 1), .ref h0X, .int (-1)]) rfl ?_
      refine kEi (wr := []) G (kV (As := [.int (xs 1), .int (xs 2), .int (nI 0), .int (xs 4)]) (rest := [.int (-1)]) G hP hD hS [0, 1, 2, 3, 4] rfl rfl (c_Mo_value l D g h0X (xs 1) (xs 2) (nI 0) (xs 4) fsX owX v0X v1X v2X v3X fw0X fw1X fw2X H.size glenX gk0X gw0X gt0X gw1X gt1X gw2X gt2X) w_Mo_value q4023 rfl rfl ⟨Nat.le_of_ble_eq_true rfl, Nat.le_of_ble_eq_true rfl⟩ (fun _ h => absurd h List.not_mem_nil) 0 (ci := 14) rfl rfl rfl hl.1 rfl (Nat.le_of_ble_eq_true rfl) rfl ⟨Nat.le_of_ble_eq_true rfl, (Nat.le_of_ble_eq_true rfl)⟩ d_Law_899) hP hD hS [0, 1, 2, 3, 4] [] rfl rfl rfl rfl (fun r_3 u_4 H locs hw hP hD hS hzH => ?_)
      have hw : r_3 = (-1) := hw
      have hP : va_P D CL [] H := hP
      have hD : va_D A [] := hD
      subst hw
      refine tpst (w := [.int (-1), .int (-1)]) rfl ?_
      refine lv_icmp_eq (tgt := 1768) G.1 G.2.1 d_Law_902 (by decide) (fun c902 => ?_) (fun c902 => absurd c902 (fun h => h rfl))
      refine lv_iinc (v := nI 6) (lv' := [(3, .int (nI 6)), (0, .ref b), (1, .ref h0), (2, .ref h0X)]) G.1 G.2.1 d_Law_1768 hl (k := 3) rfl (show (nI 0) + Int32.ofInt 6 = nI 6 from by decide) (by decide) rfl (fun ls hl => ?_)
      refine lv_goto (tgt := 18) G.1 G.2.1 d_Law_1771 (by decide) ?_
      refine lv_iload_n G.1 G.2.1 d_Law_18 rfl (lv_at hl 0 rfl) ?_
      refine lv_aload_n G.1 G.2.1 d_Law_19 rfl (lv_at hl 1 rfl) ?_
      refine va_slen G.1 G.2.1 hX hbl hbA hS d_Law_20 ?_
      refine tpi (w := nI 6) rfl ?_
      refine lv_bipush (v := nI 6) G.1 G.2.1 d_Law_21 (by decide) ?_
      refine lv_isub G.1 G.2.1 d_Law_23 ?_
      refine tpi (w := nI 0) (by decide) ?_
      refine lv_icmp_gt (tgt := 1774) G.1 G.2.1 d_Law_24 (by decide) (fun c24 => ?_) (fun c24 => absurd c24 (by decide))
      refine lv_iconst (v := nI 1) G.1 G.2.1 d_Law_1774 (by decide) ?_
      refine va_forget (fun q hq => hAA _ (hS.2.2 q hq)) ?_
      refine W.widen (k := 600002) (n := 7302232) (Nat.le_of_ble_eq_true rfl) (Nat.le_of_ble_eq_true rfl) ?_
      exact lw_ret G.1 G.2.1 G.2.2.2.1 G.2.2.2.2.1 d_Law_1775
    · skip
      refine lv_iconst (v := nI 1) G.1 G.2.1 d_Law_889 (by decide) ?_
      refine lv_goto (tgt := 894) G.1 G.2.1 d_Law_890 (by decide) ?_
      refine lv_aload_n G.1 G.2.1 d_Law_894 rfl (lv_at hl 0 rfl) ?_
      refine lv_iload_n G.1 G.2.1 d_Law_895 rfl (lv_at hl 3 rfl) ?_
      refine lv_iconst (v := nI 4) G.1 G.2.1 d_Law_896 (by decide) ?_
      refine lv_iadd G.1 G.2.1 d_Law_897 ?_
      refine tpi (w := nI 4) (by decide) ?_
      refine W.eq (g2 := F0 m 898 ls [.int (nI 4), .ref b, .int (nI 1), .int (xs 2), .int (xs 1), .ref h0X, .int (-1)]) rfl ?_
      refine va_sld G.1 G.2.1 hX hbl hbA hS (nI_inn (n := 6) (a := 4) (by decide) (by decide)) d_Law_898 ?_
      refine tpi (w := (xs 4)) (by rw [nI_clamp (by decide)]) ?_
      refine kEi (wr := []) G (kV (As := [.int (xs 1), .int (xs 2), .int (nI 1), .int (xs 4)]) (rest := [.int (-1)]) G hP hD hS [0, 1, 2, 3, 4] rfl rfl (c_Mo_value l D g h0X (xs 1) (xs 2) (nI 1) (xs 4) fsX owX v0X v1X v2X v3X fw0X fw1X fw2X H.size glenX gk0X gw0X gt0X gw1X gt1X gw2X gt2X) w_Mo_value q4023 rfl rfl ⟨Nat.le_of_ble_eq_true rfl, Nat.le_of_ble_eq_true rfl⟩ (fun _ h => absurd h List.not_mem_nil) 0 (ci := 14) rfl rfl rfl hl.1 rfl (Nat.le_of_ble_eq_true rfl) rfl ⟨Nat.le_of_ble_eq_true rfl, (Nat.le_of_ble_eq_true rfl)⟩ d_Law_899) hP hD hS [0, 1, 2, 3, 4] [] rfl rfl rfl rfl (fun r_5 u_6 H locs hw hP hD hS hzH => ?_)
      have hw : r_5 = (-1) := hw
      have hP : va_P D CL [] H := hP
      have hD : va_D A [] := hD
      subst hw
      refine tpst (w := [.int (-1), .int (-1)]) rfl ?_
      refine lv_icmp_eq (tgt := 1768) G.1 G.2.1 d_Law_902 (by decide) (fun c902 => ?_) (fun c902 => absurd c902 (fun h => h rfl))
      refine lv_iinc (v := nI 6) (lv' := [(3, .int (nI 6)), (0, .ref b), (1, .ref h0), (2, .ref h0X)]) G.1 G.2.1 d_Law_1768 hl (k := 3) rfl (show (nI 0) + Int32.ofInt 6 = nI 6 from by decide) (by decide) rfl (fun ls hl => ?_)
      refine lv_goto (tgt := 18) G.1 G.2.1 d_Law_1771 (by decide) ?_
      refine lv_iload_n G.1 G.2.1 d_Law_18 rfl (lv_at hl 0 rfl) ?_
      refine lv_aload_n G.1 G.2.1 d_Law_19 rfl (lv_at hl 1 rfl) ?_
      refine va_slen G.1 G.2.1 hX hbl hbA hS d_Law_20 ?_
      refine tpi (w := nI 6) rfl ?_
      refine lv_bipush (v := nI 6) G.1 G.2.1 d_Law_21 (by decide) ?_
      refine lv_isub G.1 G.2.1 d_Law_23 ?_
      refine tpi (w := nI 0) (by decide) ?_
      refine lv_icmp_gt (tgt := 1774) G.1 G.2.1 d_Law_24 (by decide) (fun c24 => ?_) (fun c24 => absurd c24 (by decide))
      refine lv_iconst (v := nI 1) G.1 G.2.1 d_Law_1774 (by decide) ?_
      refine W.eq (g2 := F0 m 1775 ls [.int (nI 1)]) rfl ?_
      refine va_forget (fun q hq => hAA _ (hS.2.2 q hq)) ?_
      refine W.widen (k := 600002) (n := 7302232) (Nat.le_of_ble_eq_true rfl) (Nat.le_of_ble_eq_true rfl) ?_
      exact lw_ret G.1 G.2.1 G.2.2.2.1 G.2.2.2.2.1 d_Law_1775
  · skip
    refine lv_iconst (v := nI 1) G.1 G.2.1 d_Law_857 (by decide) ?_
    refine lv_goto (tgt := 862) G.1 G.2.1 d_Law_858 (by decide) ?_
    refine lv_aload_n G.1 G.2.1 d_Law_862 rfl (lv_at hl 0 rfl) ?_
    refine lv_iload_n G.1 G.2.1 d_Law_863 rfl (lv_at hl 3 rfl) ?_
    refine lv_iconst (v := nI 4) G.1 G.2.1 d_Law_864 (by decide) ?_
    refine lv_iadd G.1 G.2.1 d_Law_865 ?_
    refine tpi (w := nI 4) (by decide) ?_
    refine W.eq (g2 := F0 m 866 ls [.int (nI 4), .ref b, .int (nI 1), .int (xs 2), .int (xs 1), .ref h0]) rfl ?_
    refine va_sld G.1 G.2.1 hX hbl hbA hS (nI_inn (n := 6) (a := 4) (by decide) (by decide)) d_Law_866 ?_
    refine tpi (w := (xs 4)) (by rw [nI_clamp (by decide)]) ?_
    refine kEi (wr := [(h0X, .inr (14, fsX)), (owX, .inl (g 6, 4, .inr (.inr (.inr (.inr (va_up (va_up (va_up (va_up (fun _ => none) 0 (some v0X)) 1 (some v1X)) 2 (some v2X)) 3 (some v3X))))))), (v0X, .inr (13, fw0X)), (v1X, .inr (13, fw1X)), (v2X, .inr (13, fw2X))]) G (kV (As := [.int (xs 1), .int (xs 2), .int (nI 1), .int (xs 4)]) (rest := []) G hP hD hS [0, 1, 2, 3, 4, 5, 6, 7] rfl rfl (c_Cw_value l D g h0 (xs 1) (xs 2) (nI 1) (xs 4) r_cwords r_creader r_cchecker r_cfinder r_cwriter r_cmachines r_ctape r_cstock r_csizes r_cmet r_cfound r_cdraft r_cfewestFor r_cfewestNext mm0 mm1 mm2 mm3 ww0 r_m0heap r_m0runs r_m0counts r_m0traceRow f_m0traceCount r_m0startedList f_m0startedCount f_m0present f_m0quantum f_m0stepsDone f_m0turnSteps f_m0turnMost f_m0turnOver r_m0finder r_m0names f_m0fault f_m0wanted f_m0thrown ww1 r_m1heap r_m1runs r_m1counts r_m1traceRow f_m1traceCount r_m1startedList f_m1startedCount f_m1present f_m1quantum f_m1stepsDone f_m1turnSteps f_m1turnMost f_m1turnOver r_m1finder r_m1names f_m1fault f_m1wanted f_m1thrown ww2 r_m2heap r_m2runs r_m2counts r_m2traceRow f_m2traceCount r_m2startedList f_m2startedCount f_m2present f_m2quantum f_m2stepsDone f_m2turnSteps f_m2turnMost f_m2turnOver r_m2finder r_m2names f_m2fault f_m2wanted f_m2thrown r_w0names f_w0wrongClass f_w0wrongMethod f_w0wrongAt r_w0rows r_w0above r_w0fields r_w0methods r_w0codes r_w0handlers r_w0extra r_w0orders r_w0classNamed f_w0breaks r_w0marks r_w1names f_w1wrongClass f_w1wrongMethod f_w1wrongAt r_w1rows r_w1above r_w1fields r_w1methods r_w1codes r_w1handlers r_w1extra r_w1orders r_w1classNamed f_w1breaks r_w1marks r_w2names f_w2wrongClass f_w2wrongMethod f_w2wrongAt r_w2rows r_w2above r_w2fields r_w2methods r_w2codes r_w2handlers r_w2extra r_w2orders r_w2classNamed f_w2breaks r_w2marks H.size ) w_Cw_value q2109 rfl rfl ⟨Nat.le_of_ble_eq_true rfl, Nat.le_of_ble_eq_true rfl⟩ (fun _ h => absurd h List.not_mem_nil) 0 (ci := 11) rfl rfl rfl hl.1 rfl (Nat.le_of_ble_eq_true rfl) rfl ⟨Nat.le_of_ble_eq_true rfl, (Nat.le_of_ble_eq_true rfl)⟩ d_Law_867) hP hD hS [0, 1, 2, 3, 4, 5, 6, 7] [8, 9, 10, 11, 12] rfl rfl rfl rfl (fun r_7 u_8 H locs hw hP hD hS hzH => ?_)
    have hw : r_7 = (-1) := hw
    have hP : va_P D CL [(h0X, .inr (14, fsX)), (owX, .inl (g 6, 4, .inr (.inr (.inr (.inr (va_up (va_up (va_up (va_up (fun _ => none) 0 (some v0X)) 1 (some v1X)) 2 (some v2X)) 3 (some v3X))))))), (v0X, .inr (13, fw0X)), (v1X, .inr (13, fw1X)), (v2X, .inr (13, fw2X))] H := hP
    have hD : va_D A [(h0X, .inr (14, fsX)), (owX, .inl (g 6, 4, .inr (.inr (.inr (.inr (va_up (va_up (va_up (va_up (fun _ => none) 0 (some v0X)) 1 (some v1X)) 2 (some v2X)) 3 (some v3X))))))), (v0X, .inr (13, fw0X)), (v1X, .inr (13, fw1X)), (v2X, .inr (13, fw2X))] := hD
    subst hw
    refine tpst (w := [.int (-1)]) rfl ?_
    refine lv_aload_n G.1 G.2.1 d_Law_870 rfl (lv_at hl 2 rfl) ?_
    refine lv_aload_n G.1 G.2.1 d_Law_871 rfl (lv_at hl 0 rfl) ?_
    refine lv_iload_n G.1 G.2.1 d_Law_872 rfl (lv_at hl 3 rfl) ?_
    refine lv_iconst (v := nI 1) G.1 G.2.1 d_Law_873 (by decide) ?_
    refine lv_iadd G.1 G.2.1 d_Law_874 ?_
    refine tpi (w := nI 1) (by decide) ?_
    refine va_sld G.1 G.2.1 hX hbl hbA hS (nI_inn (n := 6) (a := 1) (by decide) (by decide)) d_Law_875 ?_
    refine tpi (w := (xs 1)) (by rw [nI_clamp (by decide)]) ?_
    refine lv_aload_n G.1 G.2.1 d_Law_876 rfl (lv_at hl 0 rfl) ?_
    refine lv_iload_n G.1 G.2.1 d_Law_877 rfl (lv_at hl 3 rfl) ?_
    refine lv_iconst (v := nI 2) G.1 G.2.1 d_Law_878 (by decide) ?_
    refine lv_iadd G.1 G.2.1 d_Law_879 ?_
    refine tpi (w := nI 2) (by decide) ?_
    refine W.eq (g2 := F0 m 880 ls [.int (nI 2), .ref b, .int (xs 1), .ref h0X, .int (-1)]) rfl ?_
    refine va_sld G.1 G.2.1 hX hbl hbA hS (nI_inn (n := 6) (a := 2) (by decide) (by decide)) d_Law_880 ?_
    refine tpi (w := (xs 2)) (by rw [nI_clamp (by decide)]) ?_
    refine lv_aload_n G.1 G.2.1 d_Law_881 rfl (lv_at hl 0 rfl) ?_
    refine lv_iload_n G.1 G.2.1 d_Law_882 rfl (lv_at hl 3 rfl) ?_
    refine lv_iconst (v := nI 3) G.1 G.2.1 d_Law_883 (by decide) ?_
    refine lv_iadd G.1 G.2.1 d_Law_884 ?_
    refine tpi (w := nI 3) (by decide) ?_
    refine va_sld G.1 G.2.1 hX hbl hbA hS (nI_inn (n := 6) (a := 3) (by decide) (by decide)) d_Law_885 ?_
    refine tpi (w := (xs 3)) (by rw [nI_clamp (by decide)]) ?_
    refine lv_if_eq (tgt := 893) G.1 G.2.1 d_Law_886 (by decide) (fun c886 => ?_) (fun c886 => ?_)
    · skip
      refine lv_iconst (v := nI 0) G.1 G.2.1 d_Law_893 (by decide) ?_
      refine lv_aload_n G.1 G.2.1 d_Law_894 rfl (lv_at hl 0 rfl) ?_
      refine lv_iload_n G.1 G.2.1 d_Law_895 rfl (lv_at hl 3 rfl) ?_
      refine lv_iconst (v := nI 4) G.1 G.2.1 d_Law_896 (by decide) ?_
      refine lv_iadd G.1 G.2.1 d_Law_897 ?_
      refine tpi (w := nI 4) (by decide) ?_
      refine W.eq (g2 := F0 m 898 ls [.int (nI 4), .ref b, .int (nI 0), .int (xs 2), .int (xs 1), .ref h0X, .int (-1)]) rfl ?_
      refine va_sld G.1 G.2.1 hX hbl hbA hS (nI_inn (n := 6) (a := 4) (by decide) (by decide)) d_Law_898 ?_
      refine tpi (w := (xs 4)) (by rw [nI_clamp (by decide)]) ?_
      refine kEi (wr := []) G (kV (As := [.int (xs 1), .int (xs 2), .int (nI 0), .int (xs 4)]) (rest := [.int (-1)]) G hP hD hS [0, 1, 2, 3, 4] rfl rfl (c_Mo_value l D g h0X (xs 1) (xs 2) (nI 0) (xs 4) fsX owX v0X v1X v2X v3X fw0X fw1X fw2X H.size glenX gk0X gw0X gt0X gw1X gt1X gw2X gt2X) w_Mo_value q4023 rfl rfl ⟨Nat.le_of_ble_eq_true rfl, Nat.le_of_ble_eq_true rfl⟩ (fun _ h => absurd h List.not_mem_nil) 0 (ci := 14) rfl rfl rfl hl.1 rfl (Nat.le_of_ble_eq_true rfl) rfl ⟨Nat.le_of_ble_eq_true rfl, (Nat.le_of_ble_eq_true rfl)⟩ d_Law_899) hP hD hS [0, 1, 2, 3, 4] [] rfl rfl rfl rfl (fun r_9 u_10 H locs hw hP hD hS hzH => ?_)
      have hw : r_9 = (-1) := hw
      have hP : va_P D CL [] H := hP
      have hD : va_D A [] := hD
      subst hw
      refine tpst (w := [.int (-1), .int (-1)]) rfl ?_
      refine lv_icmp_eq (tgt := 1768) G.1 G.2.1 d_Law_902 (by decide) (fun c902 => ?_) (fun c902 => absurd c902 (fun h => h rfl))
      refine lv_iinc (v := nI 6) (lv' := [(3, .int (nI 6)), (0, .ref b), (1, .ref h0), (2, .ref h0X)]) G.1 G.2.1 d_Law_1768 hl (k := 3) rfl (show (nI 0) + Int32.ofInt 6 = nI 6 from by decide) (by decide) rfl (fun ls hl => ?_)
      refine lv_goto (tgt := 18) G.1 G.2.1 d_Law_1771 (by decide) ?_
      refine lv_iload_n G.1 G.2.1 d_Law_18 rfl (lv_at hl 0 rfl) ?_
      refine lv_aload_n G.1 G.2.1 d_Law_19 rfl (lv_at hl 1 rfl) ?_
      refine va_slen G.1 G.2.1 hX hbl hbA hS d_Law_20 ?_
      refine tpi (w := nI 6) rfl ?_
      refine lv_bipush (v := nI 6) G.1 G.2.1 d_Law_21 (by decide) ?_
      refine lv_isub G.1 G.2.1 d_Law_23 ?_
      refine tpi (w := nI 0) (by decide) ?_
      refine lv_icmp_gt (tgt := 1774) G.1 G.2.1 d_Law_24 (by decide) (fun c24 => ?_) (fun c24 => absurd c24 (by decide))
      refine lv_iconst (v := nI 1) G.1 G.2.1 d_Law_1774 (by decide) ?_
      refine W.eq (g2 := F0 m 1775 ls [.int (nI 1)]) rfl ?_
      refine va_forget (fun q hq => hAA _ (hS.2.2 q hq)) ?_
      refine W.widen (k := 600002) (n := 7302232) (Nat.le_of_ble_eq_true rfl) (Nat.le_of_ble_eq_true rfl) ?_
      exact lw_ret G.1 G.2.1 G.2.2.2.1 G.2.2.2.2.1 d_Law_1775
    · skip
      refine lv_iconst (v := nI 1) G.1 G.2.1 d_Law_889 (by decide) ?_
      refine lv_goto (tgt := 894) G.1 G.2.1 d_Law_890 (by decide) ?_
      refine lv_aload_n G.1 G.2.1 d_Law_894 rfl (lv_at hl 0 rfl) ?_
      refine lv_iload_n G.1 G.2.1 d_Law_895 rfl (lv_at hl 3 rfl) ?_
      refine lv_iconst (v := nI 4) G.1 G.2.1 d_Law_896 (by decide) ?_
      refine W.eq (g2 := F0 m 897 ls [.int (nI 4), .int (nI 0), .ref b, .int (nI 1), .int (xs 2), .int (xs 1), .ref h0X, .int (-1)]) rfl ?_
      refine lv_iadd G.1 G.2.1 d_Law_897 ?_
      refine tpi (w := nI 4) (by decide) ?_
      refine va_sld G.1 G.2.1 hX hbl hbA hS (nI_inn (n := 6) (a := 4) (by decide) (by decide)) d_Law_898 ?_
      refine tpi (w := (xs 4)) (by rw [nI_clamp (by decide)]) ?_
      refine kEi (wr := []) G (kV (As := [.int (xs 1), .int (xs 2), .int (nI 1), .int (xs 4)]) (rest := [.int (-1)]) G hP hD hS [0, 1, 2, 3, 4] rfl rfl (c_Mo_value l D g h0X (xs 1) (xs 2) (nI 1) (xs 4) fsX owX v0X v1X v2X v3X fw0X fw1X fw2X H.size glenX gk0X gw0X gt0X gw1X gt1X gw2X gt2X) w_Mo_value q4023 rfl rfl ⟨Nat.le_of_ble_eq_true rfl, Nat.le_of_ble_eq_true rfl⟩ (fun _ h => absurd h List.not_mem_nil) 0 (ci := 14) rfl rfl rfl hl.1 rfl (Nat.le_of_ble_eq_true rfl) rfl ⟨Nat.le_of_ble_eq_true rfl, (Nat.le_of_ble_eq_true rfl)⟩ d_Law_899) hP hD hS [0, 1, 2, 3, 4] [] rfl rfl rfl rfl (fun r_11 u_12 H locs hw hP hD hS hzH => ?_)
      have hw : r_11 = (-1) := hw
      have hP : va_P D CL [] H := hP
      have hD : va_D A [] := hD
      subst hw
      refine tpst (w := [.int (-1), .int (-1)]) rfl ?_
      refine lv_icmp_eq (tgt := 1768) G.1 G.2.1 d_Law_902 (by decide) (fun c902 => ?_) (fun c902 => absurd c902 (fun h => h rfl))
      refine lv_iinc (v := nI 6) (lv' := [(3, .int (nI 6)), (0, .ref b), (1, .ref h0), (2, .ref h0X)]) G.1 G.2.1 d_Law_1768 hl (k := 3) rfl (show (nI 0) + Int32.ofInt 6 = nI 6 from by decide) (by decide) rfl (fun ls hl => ?_)
      refine lv_goto (tgt := 18) G.1 G.2.1 d_Law_1771 (by decide) ?_
      refine lv_iload_n G.1 G.2.1 d_Law_18 rfl (lv_at hl 0 rfl) ?_
      refine lv_aload_n G.1 G.2.1 d_Law_19 rfl (lv_at hl 1 rfl) ?_
      refine va_slen G.1 G.2.1 hX hbl hbA hS d_Law_20 ?_
      refine tpi (w := nI 6) rfl ?_
      refine lv_bipush (v := nI 6) G.1 G.2.1 d_Law_21 (by decide) ?_
      refine lv_isub G.1 G.2.1 d_Law_23 ?_
      refine tpi (w := nI 0) (by decide) ?_
      refine lv_icmp_gt (tgt := 1774) G.1 G.2.1 d_Law_24 (by decide) (fun c24 => ?_) (fun c24 => absurd c24 (by decide))
      refine W.eq (g2 := F0 m 1774 ls []) rfl ?_
      refine lv_iconst (v := nI 1) G.1 G.2.1 d_Law_1774 (by decide) ?_
      refine va_forget (fun q hq => hAA _ (hS.2.2 q hq)) ?_
      refine W.widen (k := 600002) (n := 7302232) (Nat.le_of_ble_eq_true rfl) (Nat.le_of_ble_eq_true rfl) ?_
      exact lw_ret G.1 G.2.1 G.2.2.2.1 G.2.2.2.2.1 d_Law_1775
theorem q2127 : Cond.code y_Cw_fixed b_Cw_fixed 6 (some .int) ∈ lw_ok := lw_okmem (List.mem_of_getElem? (i := 2127) (by decide +kernel)) rfl
theorem q2125 : Cond.instanceMethod y_Cw_fixed ∈ lw_ok := lw_okmem (List.mem_of_getElem? (i := 2125) (by decide +kernel)) rfl
theorem q2126 : Cond.selects y_Cw_fixed.cls y_Cw_fixed y_Cw_fixed ∈ lw_ok := lw_okmem (List.mem_of_getElem? (i := 2126) (by decide +kernel)) rfl
theorem w_Cw_fixed : CWv y_Cw_fixed b_Cw_fixed 6 (some .int) 3 ∧ Cond.instanceMethod y_Cw_fixed ∈ lw_ok ∧ Cond.selects y_Cw_fixed.cls y_Cw_fixed y_Cw_fixed ∈ lw_ok := ⟨⟨q2127, q329, by decide +kernel, by decide +kernel, by decide +kernel⟩, q2125, q2126⟩
theorem q2124 : Cond.methodLink "ClassWorksLaw" 96 y_Cw_fixed ∈ lw_ok := lw_okmem (List.mem_of_getElem? (i := 2124) (by decide +kernel)) rfl
theorem q4033 : Cond.code y_Mo_fixed b_Mo_fixed 6 (some .int) ∈ lw_ok := lw_okmem (List.mem_of_getElem? (i := 4033) (by decide +kernel)) rfl
theorem q4031 : Cond.instanceMethod y_Mo_fixed ∈ lw_ok := lw_okmem (List.mem_of_getElem? (i := 4031) (by decide +kernel)) rfl
theorem q4032 : Cond.selects y_Mo_fixed.cls y_Mo_fixed y_Mo_fixed ∈ lw_ok := lw_okmem (List.mem_of_getElem? (i := 4032) (by decide +kernel)) rfl
theorem w_Mo_fixed : CWv y_Mo_fixed b_Mo_fixed 6 (some .int) 3 ∧ Cond.instanceMethod y_Mo_fixed ∈ lw_ok ∧ Cond.selects y_Mo_fixed.cls y_Mo_fixed y_Mo_fixed ∈ lw_ok := ⟨⟨q4033, q348, by decide +kernel, by decide +kernel, by decide +kernel⟩, q4031, q4032⟩
theorem q4030 : Cond.methodLink "ClassWorksLaw" 99 y_Mo_fixed ∈ lw_ok := lw_okmem (List.mem_of_getElem? (i := 4030) (by decide +kernel)) rfl
theorem d_Law_907 : decode code 907 = .ok (.aload_n 1, 1) := by decide +kernel
theorem d_Law_908 : decode code 908 = .ok (.aload_n 0, 1) := by decide +kernel
theorem d_Law_909 : decode code 909 = .ok (.iload_n 3, 1) := by decide +kernel
theorem d_Law_910 : decode code 910 = .ok (.iconst 1, 1) := by decide +kernel
theorem d_Law_911 : decode code 911 = .ok (.iadd, 1) := by decide +kernel
theorem d_Law_912 : decode code 912 = .ok (.iaload, 1) := by decide +kernel
theorem d_Law_913 : decode code 913 = .ok (.aload_n 0, 1) := by decide +kernel
theorem d_Law_914 : decode code 914 = .ok (.iload_n 3, 1) := by decide +kernel
theorem d_Law_915 : decode code 915 = .ok (.iconst 2, 1) := by decide +kernel
theorem d_Law_916 : decode code 916 = .ok (.iadd, 1) := by decide +kernel
theorem d_Law_917 : decode code 917 = .ok (.iaload, 1) := by decide +kernel
theorem d_Law_918 : decode code 918 = .ok (.aload_n 0, 1) := by decide +kernel
theorem d_Law_919 : decode code 919 = .ok (.iload_n 3, 1) := by decide +kernel
theorem d_Law_920 : decode code 920 = .ok (.iconst 3, 1) := by decide +kernel
theorem d_Law_921 : decode code 921 = .ok (.iadd, 1) := by decide +kernel
theorem d_Law_922 : decode code 922 = .ok (.iaload, 1) := by decide +kernel
theorem d_Law_923 : decode code 923 = .ok (.invokevirtual 96, 3) := by decide +kernel
theorem d_Law_926 : decode code 926 = .ok (.aload_n 2, 1) := by decide +kernel
theorem d_Law_927 : decode code 927 = .ok (.aload_n 0, 1) := by decide +kernel
theorem d_Law_928 : decode code 928 = .ok (.iload_n 3, 1) := by decide +kernel
theorem d_Law_929 : decode code 929 = .ok (.iconst 1, 1) := by decide +kernel
theorem d_Law_930 : decode code 930 = .ok (.iadd, 1) := by decide +kernel
theorem d_Law_931 : decode code 931 = .ok (.iaload, 1) := by decide +kernel
theorem d_Law_932 : decode code 932 = .ok (.aload_n 0, 1) := by decide +kernel
theorem d_Law_933 : decode code 933 = .ok (.iload_n 3, 1) := by decide +kernel
theorem d_Law_934 : decode code 934 = .ok (.iconst 2, 1) := by decide +kernel
theorem d_Law_935 : decode code 935 = .ok (.iadd, 1) := by decide +kernel
theorem d_Law_936 : decode code 936 = .ok (.iaload, 1) := by decide +kernel
theorem d_Law_937 : decode code 937 = .ok (.aload_n 0, 1) := by decide +kernel
theorem d_Law_938 : decode code 938 = .ok (.iload_n 3, 1) := by decide +kernel
theorem d_Law_939 : decode code 939 = .ok (.iconst 3, 1) := by decide +kernel
theorem d_Law_940 : decode code 940 = .ok (.iadd, 1) := by decide +kernel
theorem d_Law_941 : decode code 941 = .ok (.iaload, 1) := by decide +kernel
theorem d_Law_942 : decode code 942 = .ok (.invokevirtual 99, 3) := by decide +kernel
theorem d_Law_945 : decode code 945 = .ok (.if_icmp .eq 823, 3) := by decide +kernel
set_option maxHeartbeats 4000000 in
set_option maxRecDepth 100000 in
theorem law_fixed {p : Program} {e : Env} {s : State} {m : MethodId} {below : List Frame} {meth : Method} {c : Code} {l : Launch} {D : va_G} {g : Nat → ClassId} {sl : List SL} {b : Nat} {xs : Nat → Int32} {A : Nat → Prop} (h0 : Nat) (r_cwords : Nat) (r_creader : Nat) (r_cchecker : Nat) (r_cfinder : Nat) (r_cwriter : Nat) (r_cmachines : Nat) (r_ctape : Nat) (r_cstock : Nat) (r_csizes : Nat) (r_cmet : Nat) (r_cfound : Nat) (r_cdraft : Nat) (r_cfewestFor : Nat) (r_cfewestNext : Nat) (mm0 : Nat) (mm1 : Nat) (mm2 : Nat) (mm3 : Nat) (ww0 : Nat) (r_m0heap : Nat) (r_m0runs : Nat) (r_m0counts : Nat) (r_m0traceRow : Nat) (f_m0traceCount : Int32) (r_m0startedList : Nat) (f_m0startedCount : Int32) (f_m0present : Int32) (f_m0quantum : Int32) (f_m0stepsDone : Int32) (f_m0turnSteps : Int32) (f_m0turnMost : Int32) (f_m0turnOver : Int32) (r_m0finder : Nat) (r_m0names : Nat) (f_m0fault : Int32) (f_m0wanted : Int32) (f_m0thrown : Int32) (ww1 : Nat) (r_m1heap : Nat) (r_m1runs : Nat) (r_m1counts : Nat) (r_m1traceRow : Nat) (f_m1traceCount : Int32) (r_m1startedList : Nat) (f_m1startedCount : Int32) (f_m1present : Int32) (f_m1quantum : Int32) (f_m1stepsDone : Int32) (f_m1turnSteps : Int32) (f_m1turnMost : Int32) (f_m1turnOver : Int32) (r_m1finder : Nat) (r_m1names : Nat) (f_m1fault : Int32) (f_m1wanted : Int32) (f_m1thrown : Int32) (ww2 : Nat) (r_m2heap : Nat) (r_m2runs : Nat) (r_m2counts : Nat) (r_m2traceRow : Nat) (f_m2traceCount : Int32) (r_m2startedList : Nat) (f_m2startedCount : Int32) (f_m2present : Int32) (f_m2quantum : Int32) (f_m2stepsDone : Int32) (f_m2turnSteps : Int32) (f_m2turnMost : Int32) (f_m2turnOver : Int32) (r_m2finder : Nat) (r_m2names : Nat) (f_m2fault : Int32) (f_m2wanted : Int32) (f_m2thrown : Int32) (r_w0names : Nat) (f_w0wrongClass : Int32) (f_w0wrongMethod : Int32) (f_w0wrongAt : Int32) (r_w0rows : Nat) (r_w0above : Nat) (r_w0fields : Nat) (r_w0methods : Nat) (r_w0codes : Nat) (r_w0handlers : Nat) (r_w0extra : Nat) (r_w0orders : Nat) (r_w0classNamed : Nat) (f_w0breaks : Int32) (r_w0marks : Nat) (r_w1names : Nat) (f_w1wrongClass : Int32) (f_w1wrongMethod : Int32) (f_w1wrongAt : Int32) (r_w1rows : Nat) (r_w1above : Nat) (r_w1fields : Nat) (r_w1methods : Nat) (r_w1codes : Nat) (r_w1handlers : Nat) (r_w1extra : Nat) (r_w1orders : Nat) (r_w1classNamed : Nat) (f_w1breaks : Int32) (r_w1marks : Nat) (r_w2names : Nat) (f_w2wrongClass : Int32) (f_w2wrongMethod : Int32) (f_w2wrongAt : Int32) (r_w2rows : Nat) (r_w2above : Nat) (r_w2fields : Nat) (r_w2methods : Nat) (r_w2codes : Nat) (r_w2handlers : Nat) (r_w2extra : Nat) (r_w2orders : Nat) (r_w2classNamed : Nat) (f_w2breaks : Int32) (r_w2marks : Nat) (h0X : Nat) (fsX : List Value) (owX : Nat) (v0X : Nat) (v1X : Nat) (v2X : Nat) (v3X : Nat) (fw0X : List Value) (fw1X : List Value) (fw2X : List Value) (G : GV l p s m #[Value.ref b] meth c (⟨"ClassWorksLaw", meth.name, ""⟩ : MethodName) code 4 ret g D sl A) (hX : va_X b 6 xs s s.heap) (hbl : b < s.heap.size) (hbA : ¬ A b) (hAA : ∀ q, A q → s.heap.size ≤ q) {H : Heap} {locs : List Loc} {ls : Array Slot} (glenX : fsX.length = 131) (gk0X : fsX[44]? = some (.ref owX)) (gw0X : fw0X.length = 72) (gt0X : fw0X[0]? = some (.int (nI 0))) (gw1X : fw1X.length = 72) (gt1X : fw1X[0]? = some (.int (nI 0))) (gw2X : fw2X.length = 72) (gt2X : fw2X[0]? = some (.int (nI 0))) (hP : va_P D CL [(h0, .inr (11, [.ref r_cwords, .ref r_creader, .ref r_cchecker, .ref r_cfinder, .ref r_cwriter, .ref r_cmachines, .ref r_ctape, .int (nI 0), .int (-2), .int (nI 60000), .ref r_cstock, .ref r_csizes, .ref r_cmet, .ref r_cfound, .int (nI 0), .ref r_cdraft, .int (nI 0), .int (nI 0), .ref r_cfewestFor, .ref r_cfewestNext])), (r_cmachines, .inl (g 4, 4, .inr (.inr (.inr (.inr (va_up (va_up (va_up (va_up (fun _ => none) 0 (some mm0)) 1 (some mm1)) 2 (some mm2)) 3 (some mm3))))))), (mm0, .inr (4, [.ref ww0, .ref r_m0heap, .ref r_m0runs, .ref r_m0counts, .ref r_m0traceRow, .int f_m0traceCount, .ref r_m0startedList, .int f_m0startedCount, .int f_m0present, .int f_m0quantum, .int f_m0stepsDone, .int f_m0turnSteps, .int f_m0turnMost, .int f_m0turnOver, .ref r_m0finder, .ref r_m0names, .int f_m0fault, .int f_m0wanted, .int f_m0thrown])), (mm1, .inr (4, [.ref ww1, .ref r_m1heap, .ref r_m1runs, .ref r_m1counts, .ref r_m1traceRow, .int f_m1traceCount, .ref r_m1startedList, .int f_m1startedCount, .int f_m1present, .int f_m1quantum, .int f_m1stepsDone, .int f_m1turnSteps, .int f_m1turnMost, .int f_m1turnOver, .ref r_m1finder, .ref r_m1names, .int f_m1fault, .int f_m1wanted, .int f_m1thrown])), (mm2, .inr (4, [.ref ww2, .ref r_m2heap, .ref r_m2runs, .ref r_m2counts, .ref r_m2traceRow, .int f_m2traceCount, .ref r_m2startedList, .int f_m2startedCount, .int f_m2present, .int f_m2quantum, .int f_m2stepsDone, .int f_m2turnSteps, .int f_m2turnMost, .int f_m2turnOver, .ref r_m2finder, .ref r_m2names, .int f_m2fault, .int f_m2wanted, .int f_m2thrown])), (ww0, .inr (9, [.ref r_w0names, .int (nI 0), .int (nI 21), .int f_w0wrongClass, .int f_w0wrongMethod, .int f_w0wrongAt, .ref r_w0rows, .ref r_w0above, .ref r_w0fields, .ref r_w0methods, .ref r_w0codes, .ref r_w0handlers, .ref r_w0extra, .ref r_w0orders, .ref r_w0classNamed, .int f_w0breaks, .ref r_w0marks])), (ww1, .inr (9, [.ref r_w1names, .int (nI 0), .int (nI 21), .int f_w1wrongClass, .int f_w1wrongMethod, .int f_w1wrongAt, .ref r_w1rows, .ref r_w1above, .ref r_w1fields, .ref r_w1methods, .ref r_w1codes, .ref r_w1handlers, .ref r_w1extra, .ref r_w1orders, .ref r_w1classNamed, .int f_w1breaks, .ref r_w1marks])), (ww2, .inr (9, [.ref r_w2names, .int (nI 0), .int (nI 21), .int f_w2wrongClass, .int f_w2wrongMethod, .int f_w2wrongAt, .ref r_w2rows, .ref r_w2above, .ref r_w2fields, .ref r_w2methods, .ref r_w2codes, .ref r_w2handlers, .ref r_w2extra, .ref r_w2orders, .ref r_w2classNamed, .int f_w2breaks, .ref r_w2marks])), (h0X, .inr (14, fsX)), (owX, .inl (g 6, 4, .inr (.inr (.inr (.inr (va_up (va_up (va_up (va_up (fun _ => none) 0 (some v0X)) 1 (some v1X)) 2 (some v2X)) 3 (some v3X))))))), (v0X, .inr (13, fw0X)), (v1X, .inr (13, fw1X)), (v2X, .inr (13, fw2X))] H) (hD : va_D A [(h0, .inr (11, [.ref r_cwords, .ref r_creader, .ref r_cchecker, .ref r_cfinder, .ref r_cwriter, .ref r_cmachines, .ref r_ctape, .int (nI 0), .int (-2), .int (nI 60000), .ref r_cstock, .ref r_csizes, .ref r_cmet, .ref r_cfound, .int (nI 0), .ref r_cdraft, .int (nI 0), .int (nI 0), .ref r_cfewestFor, .ref r_cfewestNext])), (r_cmachines, .inl (g 4, 4, .inr (.inr (.inr (.inr (va_up (va_up (va_up (va_up (fun _ => none) 0 (some mm0)) 1 (some mm1)) 2 (some mm2)) 3 (some mm3))))))), (mm0, .inr (4, [.ref ww0, .ref r_m0heap, .ref r_m0runs, .ref r_m0counts, .ref r_m0traceRow, .int f_m0traceCount, .ref r_m0startedList, .int f_m0startedCount, .int f_m0present, .int f_m0quantum, .int f_m0stepsDone, .int f_m0turnSteps, .int f_m0turnMost, .int f_m0turnOver, .ref r_m0finder, .ref r_m0names, .int f_m0fault, .int f_m0wanted, .int f_m0thrown])), (mm1, .inr (4, [.ref ww1, .ref r_m1heap, .ref r_m1runs, .ref r_m1counts, .ref r_m1traceRow, .int f_m1traceCount, .ref r_m1startedList, .int f_m1startedCount, .int f_m1present, .int f_m1quantum, .int f_m1stepsDone, .int f_m1turnSteps, .int f_m1turnMost, .int f_m1turnOver, .ref r_m1finder, .ref r_m1names, .int f_m1fault, .int f_m1wanted, .int f_m1thrown])), (mm2, .inr (4, [.ref ww2, .ref r_m2heap, .ref r_m2runs, .ref r_m2counts, .ref r_m2traceRow, .int f_m2traceCount, .ref r_m2startedList, .int f_m2startedCount, .int f_m2present, .int f_m2quantum, .int f_m2stepsDone, .int f_m2turnSteps, .int f_m2turnMost, .int f_m2turnOver, .ref r_m2finder, .ref r_m2names, .int f_m2fault, .int f_m2wanted, .int f_m2thrown])), (ww0, .inr (9, [.ref r_w0names, .int (nI 0), .int (nI 21), .int f_w0wrongClass, .int f_w0wrongMethod, .int f_w0wrongAt, .ref r_w0rows, .ref r_w0above, .ref r_w0fields, .ref r_w0methods, .ref r_w0codes, .ref r_w0handlers, .ref r_w0extra, .ref r_w0orders, .ref r_w0classNamed, .int f_w0breaks, .ref r_w0marks])), (ww1, .inr (9, [.ref r_w1names, .int (nI 0), .int (nI 21), .int f_w1wrongClass, .int f_w1wrongMethod, .int f_w1wrongAt, .ref r_w1rows, .ref r_w1above, .ref r_w1fields, .ref r_w1methods, .ref r_w1codes, .ref r_w1handlers, .ref r_w1extra, .ref r_w1orders, .ref r_w1classNamed, .int f_w1breaks, .ref r_w1marks])), (ww2, .inr (9, [.ref r_w2names, .int (nI 0), .int (nI 21), .int f_w2wrongClass, .int f_w2wrongMethod, .int f_w2wrongAt, .ref r_w2rows, .ref r_w2above, .ref r_w2fields, .ref r_w2methods, .ref r_w2codes, .ref r_w2handlers, .ref r_w2extra, .ref r_w2orders, .ref r_w2classNamed, .int f_w2breaks, .ref r_w2marks])), (h0X, .inr (14, fsX)), (owX, .inl (g 6, 4, .inr (.inr (.inr (.inr (va_up (va_up (va_up (va_up (fun _ => none) 0 (some v0X)) 1 (some v1X)) 2 (some v2X)) 3 (some v3X))))))), (v0X, .inr (13, fw0X)), (v1X, .inr (13, fw1X)), (v2X, .inr (13, fw2X))]) (hS : va_S A s.heap H locs) (hl : lv_has ls 4 [(0, .ref b), (1, .ref h0), (2, .ref h0X), (3, .int (nI 0))]) : W p l e room_1 s m #[Value.ref b] below meth c H locs 702 488194 (lw_Z below #[Value.ref b] s) (F0 m 907 ls []) := by
  refine lv_aload_n G.1 G.2.1 d_Law_907 rfl (lv_at hl 1 rfl) ?_
  refine lv_aload_n G.1 G.2.1 d_Law_908 rfl (lv_at hl 0 rfl) ?_
  refine lv_iload_n G.1 G.2.1 d_Law_909 rfl (lv_at hl 3 rfl) ?_
  refine lv_iconst (v := nI 1) G.1 G.2.1 d_Law_910 (by decide) ?_
  refine lv_iadd G.1 G.2.1 d_Law_911 ?_
  refine tpi (w := nI 1) (by decide) ?_
  refine va_sld G.1 G.2.1 hX hbl hbA hS (nI_inn (n := 6) (a := 1) (by decide) (by decide)) d_Law_912 ?_
  refine tpi (w := (xs 1)) (by rw [nI_clamp (by decide)]) ?_
  refine lv_aload_n G.1 G.2.1 d_Law_913 rfl (lv_at hl 0 rfl) ?_
  refine lv_iload_n G.1 G.2.1 d_Law_914 rfl (lv_at hl 3 rfl) ?_
  refine lv_iconst (v := nI 2) G.1 G.2.1 d_Law_915 (by decide) ?_
  refine lv_iadd G.1 G.2.1 d_Law_916 ?_
  refine tpi (w := nI 2) (by decide) ?_
  refine va_sld G.1 G.2.1 hX hbl hbA hS (nI_inn (n := 6) (a := 2) (by decide) (by decide)) d_Law_917 ?_
  refine tpi (w := (xs 2)) (by rw [nI_clamp (by decide)]) ?_
  refine W.eq (g2 := F0 m 918 ls [.int (xs 2), .int (xs 1), .ref h0]) rfl ?_
  refine lv_aload_n G.1 G.2.1 d_Law_918 rfl (lv_at hl 0 rfl) ?_
  refine lv_iload_n G.1 G.2.1 d_Law_919 rfl (lv_at hl 3 rfl) ?_
  refine lv_iconst (v := nI 3) G.1 G.2.1 d_Law_920 (by decide) ?_
  refine lv_iadd G.1 G.2.1 d_Law_921 ?_
  refine tpi (w := nI 3) (by decide) ?_
  refine va_sld G.1 G.2.1 hX hbl hbA hS (nI_inn (n := 6) (a := 3) (by decide) (by decide)) d_Law_922 ?_
  refine tpi (w := (xs 3)) (by rw [nI_clamp (by decide)]) ?_
  refine kEi (wr := [(h0X, .inr (14, fsX)), (owX, .inl (g 6, 4, .inr (.inr (.inr (.inr (va_up (va_up (va_up (va_up (fun _ => none) 0 (some v0X)) 1 (some v1X)) 2 (some v2X)) 3 (some v3X))))))), (v0X, .inr (13, fw0X)), (v1X, .inr (13, fw1X)), (v2X, .inr (13, fw2X))]) G (kV (As := [.int (xs 1), .int (xs 2), .int (xs 3)]) (rest := []) G hP hD hS [0, 1, 2, 3, 4, 5, 6, 7] rfl rfl (c_Cw_fixed l D g h0 (xs 1) (xs 2) (xs 3) r_cwords r_creader r_cchecker r_cfinder r_cwriter r_cmachines r_ctape r_cstock r_csizes r_cmet r_cfound r_cdraft r_cfewestFor r_cfewestNext mm0 mm1 mm2 mm3 ww0 r_m0heap r_m0runs r_m0counts r_m0traceRow f_m0traceCount r_m0startedList f_m0startedCount f_m0present f_m0quantum f_m0stepsDone f_m0turnSteps f_m0turnMost f_m0turnOver r_m0finder r_m0names f_m0fault f_m0wanted f_m0thrown ww1 r_m1heap r_m1runs r_m1counts r_m1traceRow f_m1traceCount r_m1startedList f_m1startedCount f_m1present f_m1quantum f_m1stepsDone f_m1turnSteps f_m1turnMost f_m1turnOver r_m1finder r_m1names f_m1fault f_m1wanted f_m1thrown ww2 r_m2heap r_m2runs r_m2counts r_m2traceRow f_m2traceCount r_m2startedList f_m2startedCount f_m2present f_m2quantum f_m2stepsDone f_m2turnSteps f_m2turnMost f_m2turnOver r_m2finder r_m2names f_m2fault f_m2wanted f_m2thrown r_w0names f_w0wrongClass f_w0wrongMethod f_w0wrongAt r_w0rows r_w0above r_w0fields r_w0methods r_w0codes r_w0handlers r_w0extra r_w0orders r_w0classNamed f_w0breaks r_w0marks r_w1names f_w1wrongClass f_w1wrongMethod f_w1wrongAt r_w1rows r_w1above r_w1fields r_w1methods r_w1codes r_w1handlers r_w1extra r_w1orders r_w1classNamed f_w1breaks r_w1marks r_w2names f_w2wrongClass f_w2wrongMethod f_w2wrongAt r_w2rows r_w2above r_w2fields r_w2methods r_w2codes r_w2handlers r_w2extra r_w2orders r_w2classNamed f_w2breaks r_w2marks H.size ) w_Cw_fixed q2124 rfl rfl ⟨Nat.le_of_ble_eq_true rfl, Nat.le_of_ble_eq_true rfl⟩ (fun _ h => absurd h List.not_mem_nil) 0 (ci := 11) rfl rfl rfl hl.1 rfl (Nat.le_of_ble_eq_true rfl) rfl ⟨Nat.le_of_ble_eq_true rfl, (Nat.le_of_ble_eq_true rfl)⟩ d_Law_923) hP hD hS [0, 1, 2, 3, 4, 5, 6, 7] [8, 9, 10, 11, 12] rfl rfl rfl rfl (fun r_1 u_2 H locs hw hP hD hS hzH => ?_)
  have hw : r_1 = (-1) := hw
  have hP : va_P D CL [(h0X, .inr (14, fsX)), (owX, .inl (g 6, 4, .inr (.inr (.inr (.inr (va_up (va_up (va_up (va_up (fun _ => none) 0 (some v0X)) 1 (some v1X)) 2 (some v2X)) 3 (some v3X))))))), (v0X, .inr (13, fw0X)), (v1X, .inr (13, fw1X)), (v2X, .inr (13, fw2X))] H := hP
  have hD : va_D A [(h0X, .inr (14, fsX)), (owX, .inl (g 6, 4, .inr (.inr (.inr (.inr (va_up (va_up (va_up (va_up (fun _ => none) 0 (some v0X)) 1 (some v1X)) 2 (some v2X)) 3 (some v3X))))))), (v0X, .inr (13, fw0X)), (v1X, .inr (13, fw1X)), (v2X, .inr (13, fw2X))] := hD
  subst hw
  refine tpst (w := [.int (-1)]) rfl ?_
  refine lv_aload_n G.1 G.2.1 d_Law_926 rfl (lv_at hl 2 rfl) ?_
  refine lv_aload_n G.1 G.2.1 d_Law_927 rfl (lv_at hl 0 rfl) ?_
  refine lv_iload_n G.1 G.2.1 d_Law_928 rfl (lv_at hl 3 rfl) ?_
  refine lv_iconst (v := nI 1) G.1 G.2.1 d_Law_929 (by decide) ?_
  refine lv_iadd G.1 G.2.1 d_Law_930 ?_
  refine tpi (w := nI 1) (by decide) ?_
  refine va_sld G.1 G.2.1 hX hbl hbA hS (nI_inn (n := 6) (a := 1) (by decide) (by decide)) d_Law_931 ?_
  refine tpi (w := (xs 1)) (by rw [nI_clamp (by decide)]) ?_
  refine W.eq (g2 := F0 m 932 ls [.int (xs 1), .ref h0X, .int (-1)]) rfl ?_
  refine lv_aload_n G.1 G.2.1 d_Law_932 rfl (lv_at hl 0 rfl) ?_
  refine lv_iload_n G.1 G.2.1 d_Law_933 rfl (lv_at hl 3 rfl) ?_
  refine lv_iconst (v := nI 2) G.1 G.2.1 d_Law_934 (by decide) ?_
  refine lv_iadd G.1 G.2.1 d_Law_935 ?_
  refine tpi (w := nI 2) (by decide) ?_
  refine va_sld G.1 G.2.1 hX hbl hbA hS (nI_inn (n := 6) (a := 2) (by decide) (by decide)) d_Law_936 ?_
  refine tpi (w := (xs 2)) (by rw [nI_clamp (by decide)]) ?_
  refine lv_aload_n G.1 G.2.1 d_Law_937 rfl (lv_at hl 0 rfl) ?_
  refine lv_iload_n G.1 G.2.1 d_Law_938 rfl (lv_at hl 3 rfl) ?_
  refine lv_iconst (v := nI 3) G.1 G.2.1 d_Law_939 (by decide) ?_
  refine lv_iadd G.1 G.2.1 d_Law_940 ?_
  refine tpi (w := nI 3) (by decide) ?_
  refine va_sld G.1 G.2.1 hX hbl hbA hS (nI_inn (n := 6) (a := 3) (by decide) (by decide)) d_Law_941 ?_
  refine tpi (w := (xs 3)) (by rw [nI_clamp (by decide)]) ?_
  refine kEi (wr := []) G (kV (As := [.int (xs 1), .int (xs 2), .int (xs 3)]) (rest := [.int (-1)]) G hP hD hS [0, 1, 2, 3, 4] rfl rfl (c_Mo_fixed l D g h0X (xs 1) (xs 2) (xs 3) fsX owX v0X v1X v2X v3X fw0X fw1X fw2X H.size glenX gk0X gw0X gt0X gw1X gt1X gw2X gt2X) w_Mo_fixed q4030 rfl rfl ⟨Nat.le_of_ble_eq_true rfl, Nat.le_of_ble_eq_true rfl⟩ (fun _ h => absurd h List.not_mem_nil) 0 (ci := 14) rfl rfl rfl hl.1 rfl (Nat.le_of_ble_eq_true rfl) rfl ⟨Nat.le_of_ble_eq_true rfl, (Nat.le_of_ble_eq_true rfl)⟩ d_Law_942) hP hD hS [0, 1, 2, 3, 4] [] rfl rfl rfl rfl (fun r_3 u_4 H locs hw hP hD hS hzH => ?_)
  have hw : r_3 = (-1) := hw
  have hP : va_P D CL [] H := hP
  have hD : va_D A [] := hD
  subst hw
  refine tpst (w := [.int (-1), .int (-1)]) rfl ?_
  refine lv_icmp_eq (tgt := 1768) G.1 G.2.1 d_Law_945 (by decide) (fun c945 => ?_) (fun c945 => absurd c945 (fun h => h rfl))
  refine W.eq (g2 := F0 m 1768 ls []) rfl ?_
  refine lv_iinc (v := nI 6) (lv' := [(3, .int (nI 6)), (0, .ref b), (1, .ref h0), (2, .ref h0X)]) G.1 G.2.1 d_Law_1768 hl (k := 3) rfl (show (nI 0) + Int32.ofInt 6 = nI 6 from by decide) (by decide) rfl (fun ls hl => ?_)
  refine lv_goto (tgt := 18) G.1 G.2.1 d_Law_1771 (by decide) ?_
  refine lv_iload_n G.1 G.2.1 d_Law_18 rfl (lv_at hl 0 rfl) ?_
  refine lv_aload_n G.1 G.2.1 d_Law_19 rfl (lv_at hl 1 rfl) ?_
  refine va_slen G.1 G.2.1 hX hbl hbA hS d_Law_20 ?_
  refine tpi (w := nI 6) rfl ?_
  refine lv_bipush (v := nI 6) G.1 G.2.1 d_Law_21 (by decide) ?_
  refine lv_isub G.1 G.2.1 d_Law_23 ?_
  refine tpi (w := nI 0) (by decide) ?_
  refine lv_icmp_gt (tgt := 1774) G.1 G.2.1 d_Law_24 (by decide) (fun c24 => ?_) (fun c24 => absurd c24 (by decide))
  refine lv_iconst (v := nI 1) G.1 G.2.1 d_Law_1774 (by decide) ?_
  refine va_forget (fun q hq => hAA _ (hS.2.2 q hq)) ?_
  refine W.widen (k := 600002) (n := 7302232) (Nat.le_of_ble_eq_true rfl) (Nat.le_of_ble_eq_true rfl) ?_
  exact lw_ret G.1 G.2.1 G.2.2.2.1 G.2.2.2.2.1 d_Law_1775
theorem q2131 : Cond.code y_Cw_object b_Cw_object 7 (some .int) ∈ lw_ok := lw_okmem (List.mem_of_getElem? (i := 2131) (by decide +kernel)) rfl
theorem q2129 : Cond.instanceMethod y_Cw_object ∈ lw_ok := lw_okmem (List.mem_of_getElem? (i := 2129) (by decide +kernel)) rfl
theorem q2130 : Cond.selects y_Cw_object.cls y_Cw_object y_Cw_object ∈ lw_ok := lw_okmem (List.mem_of_getElem? (i := 2130) (by decide +kernel)) rfl
theorem w_Cw_object : CWv y_Cw_object b_Cw_object 7 (some .int) 3 ∧ Cond.instanceMethod y_Cw_object ∈ lw_ok ∧ Cond.selects y_Cw_object.cls y_Cw_object y_Cw_object ∈ lw_ok := ⟨⟨q2131, q329, by decide +kernel, by decide +kernel, by decide +kernel⟩, q2129, q2130⟩
theorem q2128 : Cond.methodLink "ClassWorksLaw" 100 y_Cw_object ∈ lw_ok := lw_okmem (List.mem_of_getElem? (i := 2128) (by decide +kernel)) rfl
theorem q4037 : Cond.code y_Mo_object b_Mo_object 5 (some .int) ∈ lw_ok := lw_okmem (List.mem_of_getElem? (i := 4037) (by decide +kernel)) rfl
theorem q4035 : Cond.instanceMethod y_Mo_object ∈ lw_ok := lw_okmem (List.mem_of_getElem? (i := 4035) (by decide +kernel)) rfl
theorem q4036 : Cond.selects y_Mo_object.cls y_Mo_object y_Mo_object ∈ lw_ok := lw_okmem (List.mem_of_getElem? (i := 4036) (by decide +kernel)) rfl
theorem w_Mo_object : CWv y_Mo_object b_Mo_object 5 (some .int) 3 ∧ Cond.instanceMethod y_Mo_object ∈ lw_ok ∧ Cond.selects y_Mo_object.cls y_Mo_object y_Mo_object ∈ lw_ok := ⟨⟨q4037, q348, by decide +kernel, by decide +kernel, by decide +kernel⟩, q4035, q4036⟩
theorem q4034 : Cond.methodLink "ClassWorksLaw" 103 y_Mo_object ∈ lw_ok := lw_okmem (List.mem_of_getElem? (i := 4034) (by decide +kernel)) rfl
theorem d_Law_950 : decode code 950 = .ok (.aload_n 1, 1) := by decide +kernel
theorem d_Law_951 : decode code 951 = .ok (.aload_n 0, 1) := by decide +kernel
theorem d_Law_952 : decode code 952 = .ok (.iload_n 3, 1) := by decide +kernel
theorem d_Law_953 : decode code 953 = .ok (.iconst 1, 1) := by decide +kernel
theorem d_Law_954 : decode code 954 = .ok (.iadd, 1) := by decide +kernel
theorem d_Law_955 : decode code 955 = .ok (.iaload, 1) := by decide +kernel
theorem d_Law_956 : decode code 956 = .ok (.aload_n 0, 1) := by decide +kernel
theorem d_Law_957 : decode code 957 = .ok (.iload_n 3, 1) := by decide +kernel
theorem d_Law_958 : decode code 958 = .ok (.iconst 2, 1) := by decide +kernel
theorem d_Law_959 : decode code 959 = .ok (.iadd, 1) := by decide +kernel
theorem d_Law_960 : decode code 960 = .ok (.iaload, 1) := by decide +kernel
theorem d_Law_961 : decode code 961 = .ok (.aload_n 0, 1) := by decide +kernel
theorem d_Law_962 : decode code 962 = .ok (.iload_n 3, 1) := by decide +kernel
theorem d_Law_963 : decode code 963 = .ok (.iconst 3, 1) := by decide +kernel
theorem d_Law_964 : decode code 964 = .ok (.iadd, 1) := by decide +kernel
theorem d_Law_965 : decode code 965 = .ok (.iaload, 1) := by decide +kernel
theorem d_Law_966 : decode code 966 = .ok (.invokevirtual 100, 3) := by decide +kernel
theorem d_Law_969 : decode code 969 = .ok (.aload_n 2, 1) := by decide +kernel
theorem d_Law_970 : decode code 970 = .ok (.aload_n 0, 1) := by decide +kernel
theorem d_Law_971 : decode code 971 = .ok (.iload_n 3, 1) := by decide +kernel
theorem d_Law_972 : decode code 972 = .ok (.iconst 1, 1) := by decide +kernel
theorem d_Law_973 : decode code 973 = .ok (.iadd, 1) := by decide +kernel
theorem d_Law_974 : decode code 974 = .ok (.iaload, 1) := by decide +kernel
theorem d_Law_975 : decode code 975 = .ok (.aload_n 0, 1) := by decide +kernel
theorem d_Law_976 : decode code 976 = .ok (.iload_n 3, 1) := by decide +kernel
theorem d_Law_977 : decode code 977 = .ok (.iconst 2, 1) := by decide +kernel
theorem d_Law_978 : decode code 978 = .ok (.iadd, 1) := by decide +kernel
theorem d_Law_979 : decode code 979 = .ok (.iaload, 1) := by decide +kernel
theorem d_Law_980 : decode code 980 = .ok (.aload_n 0, 1) := by decide +kernel
theorem d_Law_981 : decode code 981 = .ok (.iload_n 3, 1) := by decide +kernel
theorem d_Law_982 : decode code 982 = .ok (.iconst 3, 1) := by decide +kernel
theorem d_Law_983 : decode code 983 = .ok (.iadd, 1) := by decide +kernel
theorem d_Law_984 : decode code 984 = .ok (.iaload, 1) := by decide +kernel
theorem d_Law_985 : decode code 985 = .ok (.invokevirtual 103, 3) := by decide +kernel
theorem d_Law_988 : decode code 988 = .ok (.if_icmp .eq 780, 3) := by decide +kernel
set_option maxHeartbeats 4000000 in
set_option maxRecDepth 100000 in
theorem law_object {p : Program} {e : Env} {s : State} {m : MethodId} {below : List Frame} {meth : Method} {c : Code} {l : Launch} {D : va_G} {g : Nat → ClassId} {sl : List SL} {b : Nat} {xs : Nat → Int32} {A : Nat → Prop} (h0 : Nat) (r_cwords : Nat) (r_creader : Nat) (r_cchecker : Nat) (r_cfinder : Nat) (r_cwriter : Nat) (r_cmachines : Nat) (r_ctape : Nat) (r_cstock : Nat) (r_csizes : Nat) (r_cmet : Nat) (r_cfound : Nat) (r_cdraft : Nat) (r_cfewestFor : Nat) (r_cfewestNext : Nat) (mm0 : Nat) (mm1 : Nat) (mm2 : Nat) (mm3 : Nat) (ww0 : Nat) (r_m0heap : Nat) (r_m0runs : Nat) (r_m0counts : Nat) (r_m0traceRow : Nat) (f_m0traceCount : Int32) (r_m0startedList : Nat) (f_m0startedCount : Int32) (f_m0present : Int32) (f_m0quantum : Int32) (f_m0stepsDone : Int32) (f_m0turnSteps : Int32) (f_m0turnMost : Int32) (f_m0turnOver : Int32) (r_m0finder : Nat) (r_m0names : Nat) (f_m0fault : Int32) (f_m0wanted : Int32) (f_m0thrown : Int32) (ww1 : Nat) (r_m1heap : Nat) (r_m1runs : Nat) (r_m1counts : Nat) (r_m1traceRow : Nat) (f_m1traceCount : Int32) (r_m1startedList : Nat) (f_m1startedCount : Int32) (f_m1present : Int32) (f_m1quantum : Int32) (f_m1stepsDone : Int32) (f_m1turnSteps : Int32) (f_m1turnMost : Int32) (f_m1turnOver : Int32) (r_m1finder : Nat) (r_m1names : Nat) (f_m1fault : Int32) (f_m1wanted : Int32) (f_m1thrown : Int32) (ww2 : Nat) (r_m2heap : Nat) (r_m2runs : Nat) (r_m2counts : Nat) (r_m2traceRow : Nat) (f_m2traceCount : Int32) (r_m2startedList : Nat) (f_m2startedCount : Int32) (f_m2present : Int32) (f_m2quantum : Int32) (f_m2stepsDone : Int32) (f_m2turnSteps : Int32) (f_m2turnMost : Int32) (f_m2turnOver : Int32) (r_m2finder : Nat) (r_m2names : Nat) (f_m2fault : Int32) (f_m2wanted : Int32) (f_m2thrown : Int32) (r_w0names : Nat) (f_w0wrongClass : Int32) (f_w0wrongMethod : Int32) (f_w0wrongAt : Int32) (r_w0rows : Nat) (r_w0above : Nat) (r_w0fields : Nat) (r_w0methods : Nat) (r_w0codes : Nat) (r_w0handlers : Nat) (r_w0extra : Nat) (r_w0orders : Nat) (r_w0classNamed : Nat) (f_w0breaks : Int32) (r_w0marks : Nat) (r_w1names : Nat) (f_w1wrongClass : Int32) (f_w1wrongMethod : Int32) (f_w1wrongAt : Int32) (r_w1rows : Nat) (r_w1above : Nat) (r_w1fields : Nat) (r_w1methods : Nat) (r_w1codes : Nat) (r_w1handlers : Nat) (r_w1extra : Nat) (r_w1orders : Nat) (r_w1classNamed : Nat) (f_w1breaks : Int32) (r_w1marks : Nat) (r_w2names : Nat) (f_w2wrongClass : Int32) (f_w2wrongMethod : Int32) (f_w2wrongAt : Int32) (r_w2rows : Nat) (r_w2above : Nat) (r_w2fields : Nat) (r_w2methods : Nat) (r_w2codes : Nat) (r_w2handlers : Nat) (r_w2extra : Nat) (r_w2orders : Nat) (r_w2classNamed : Nat) (f_w2breaks : Int32) (r_w2marks : Nat) (h0X : Nat) (fsX : List Value) (owX : Nat) (v0X : Nat) (v1X : Nat) (v2X : Nat) (v3X : Nat) (fw0X : List Value) (fw1X : List Value) (fw2X : List Value) (G : GV l p s m #[Value.ref b] meth c (⟨"ClassWorksLaw", meth.name, ""⟩ : MethodName) code 4 ret g D sl A) (hX : va_X b 6 xs s s.heap) (hbl : b < s.heap.size) (hbA : ¬ A b) (hAA : ∀ q, A q → s.heap.size ≤ q) {H : Heap} {locs : List Loc} {ls : Array Slot} (glenX : fsX.length = 131) (gk0X : fsX[44]? = some (.ref owX)) (gw0X : fw0X.length = 72) (gt0X : fw0X[0]? = some (.int (nI 0))) (gw1X : fw1X.length = 72) (gt1X : fw1X[0]? = some (.int (nI 0))) (gw2X : fw2X.length = 72) (gt2X : fw2X[0]? = some (.int (nI 0))) (hP : va_P D CL [(h0, .inr (11, [.ref r_cwords, .ref r_creader, .ref r_cchecker, .ref r_cfinder, .ref r_cwriter, .ref r_cmachines, .ref r_ctape, .int (nI 0), .int (-2), .int (nI 60000), .ref r_cstock, .ref r_csizes, .ref r_cmet, .ref r_cfound, .int (nI 0), .ref r_cdraft, .int (nI 0), .int (nI 0), .ref r_cfewestFor, .ref r_cfewestNext])), (r_cmachines, .inl (g 4, 4, .inr (.inr (.inr (.inr (va_up (va_up (va_up (va_up (fun _ => none) 0 (some mm0)) 1 (some mm1)) 2 (some mm2)) 3 (some mm3))))))), (mm0, .inr (4, [.ref ww0, .ref r_m0heap, .ref r_m0runs, .ref r_m0counts, .ref r_m0traceRow, .int f_m0traceCount, .ref r_m0startedList, .int f_m0startedCount, .int f_m0present, .int f_m0quantum, .int f_m0stepsDone, .int f_m0turnSteps, .int f_m0turnMost, .int f_m0turnOver, .ref r_m0finder, .ref r_m0names, .int f_m0fault, .int f_m0wanted, .int f_m0thrown])), (mm1, .inr (4, [.ref ww1, .ref r_m1heap, .ref r_m1runs, .ref r_m1counts, .ref r_m1traceRow, .int f_m1traceCount, .ref r_m1startedList, .int f_m1startedCount, .int f_m1present, .int f_m1quantum, .int f_m1stepsDone, .int f_m1turnSteps, .int f_m1turnMost, .int f_m1turnOver, .ref r_m1finder, .ref r_m1names, .int f_m1fault, .int f_m1wanted, .int f_m1thrown])), (mm2, .inr (4, [.ref ww2, .ref r_m2heap, .ref r_m2runs, .ref r_m2counts, .ref r_m2traceRow, .int f_m2traceCount, .ref r_m2startedList, .int f_m2startedCount, .int f_m2present, .int f_m2quantum, .int f_m2stepsDone, .int f_m2turnSteps, .int f_m2turnMost, .int f_m2turnOver, .ref r_m2finder, .ref r_m2names, .int f_m2fault, .int f_m2wanted, .int f_m2thrown])), (ww0, .inr (9, [.ref r_w0names, .int (nI 0), .int (nI 21), .int f_w0wrongClass, .int f_w0wrongMethod, .int f_w0wrongAt, .ref r_w0rows, .ref r_w0above, .ref r_w0fields, .ref r_w0methods, .ref r_w0codes, .ref r_w0handlers, .ref r_w0extra, .ref r_w0orders, .ref r_w0classNamed, .int f_w0breaks, .ref r_w0marks])), (ww1, .inr (9, [.ref r_w1names, .int (nI 0), .int (nI 21), .int f_w1wrongClass, .int f_w1wrongMethod, .int f_w1wrongAt, .ref r_w1rows, .ref r_w1above, .ref r_w1fields, .ref r_w1methods, .ref r_w1codes, .ref r_w1handlers, .ref r_w1extra, .ref r_w1orders, .ref r_w1classNamed, .int f_w1breaks, .ref r_w1marks])), (ww2, .inr (9, [.ref r_w2names, .int (nI 0), .int (nI 21), .int f_w2wrongClass, .int f_w2wrongMethod, .int f_w2wrongAt, .ref r_w2rows, .ref r_w2above, .ref r_w2fields, .ref r_w2methods, .ref r_w2codes, .ref r_w2handlers, .ref r_w2extra, .ref r_w2orders, .ref r_w2classNamed, .int f_w2breaks, .ref r_w2marks])), (h0X, .inr (14, fsX)), (owX, .inl (g 6, 4, .inr (.inr (.inr (.inr (va_up (va_up (va_up (va_up (fun _ => none) 0 (some v0X)) 1 (some v1X)) 2 (some v2X)) 3 (some v3X))))))), (v0X, .inr (13, fw0X)), (v1X, .inr (13, fw1X)), (v2X, .inr (13, fw2X))] H) (hD : va_D A [(h0, .inr (11, [.ref r_cwords, .ref r_creader, .ref r_cchecker, .ref r_cfinder, .ref r_cwriter, .ref r_cmachines, .ref r_ctape, .int (nI 0), .int (-2), .int (nI 60000), .ref r_cstock, .ref r_csizes, .ref r_cmet, .ref r_cfound, .int (nI 0), .ref r_cdraft, .int (nI 0), .int (nI 0), .ref r_cfewestFor, .ref r_cfewestNext])), (r_cmachines, .inl (g 4, 4, .inr (.inr (.inr (.inr (va_up (va_up (va_up (va_up (fun _ => none) 0 (some mm0)) 1 (some mm1)) 2 (some mm2)) 3 (some mm3))))))), (mm0, .inr (4, [.ref ww0, .ref r_m0heap, .ref r_m0runs, .ref r_m0counts, .ref r_m0traceRow, .int f_m0traceCount, .ref r_m0startedList, .int f_m0startedCount, .int f_m0present, .int f_m0quantum, .int f_m0stepsDone, .int f_m0turnSteps, .int f_m0turnMost, .int f_m0turnOver, .ref r_m0finder, .ref r_m0names, .int f_m0fault, .int f_m0wanted, .int f_m0thrown])), (mm1, .inr (4, [.ref ww1, .ref r_m1heap, .ref r_m1runs, .ref r_m1counts, .ref r_m1traceRow, .int f_m1traceCount, .ref r_m1startedList, .int f_m1startedCount, .int f_m1present, .int f_m1quantum, .int f_m1stepsDone, .int f_m1turnSteps, .int f_m1turnMost, .int f_m1turnOver, .ref r_m1finder, .ref r_m1names, .int f_m1fault, .int f_m1wanted, .int f_m1thrown])), (mm2, .inr (4, [.ref ww2, .ref r_m2heap, .ref r_m2runs, .ref r_m2counts, .ref r_m2traceRow, .int f_m2traceCount, .ref r_m2startedList, .int f_m2startedCount, .int f_m2present, .int f_m2quantum, .int f_m2stepsDone, .int f_m2turnSteps, .int f_m2turnMost, .int f_m2turnOver, .ref r_m2finder, .ref r_m2names, .int f_m2fault, .int f_m2wanted, .int f_m2thrown])), (ww0, .inr (9, [.ref r_w0names, .int (nI 0), .int (nI 21), .int f_w0wrongClass, .int f_w0wrongMethod, .int f_w0wrongAt, .ref r_w0rows, .ref r_w0above, .ref r_w0fields, .ref r_w0methods, .ref r_w0codes, .ref r_w0handlers, .ref r_w0extra, .ref r_w0orders, .ref r_w0classNamed, .int f_w0breaks, .ref r_w0marks])), (ww1, .inr (9, [.ref r_w1names, .int (nI 0), .int (nI 21), .int f_w1wrongClass, .int f_w1wrongMethod, .int f_w1wrongAt, .ref r_w1rows, .ref r_w1above, .ref r_w1fields, .ref r_w1methods, .ref r_w1codes, .ref r_w1handlers, .ref r_w1extra, .ref r_w1orders, .ref r_w1classNamed, .int f_w1breaks, .ref r_w1marks])), (ww2, .inr (9, [.ref r_w2names, .int (nI 0), .int (nI 21), .int f_w2wrongClass, .int f_w2wrongMethod, .int f_w2wrongAt, .ref r_w2rows, .ref r_w2above, .ref r_w2fields, .ref r_w2methods, .ref r_w2codes, .ref r_w2handlers, .ref r_w2extra, .ref r_w2orders, .ref r_w2classNamed, .int f_w2breaks, .ref r_w2marks])), (h0X, .inr (14, fsX)), (owX, .inl (g 6, 4, .inr (.inr (.inr (.inr (va_up (va_up (va_up (va_up (fun _ => none) 0 (some v0X)) 1 (some v1X)) 2 (some v2X)) 3 (some v3X))))))), (v0X, .inr (13, fw0X)), (v1X, .inr (13, fw1X)), (v2X, .inr (13, fw2X))]) (hS : va_S A s.heap H locs) (hl : lv_has ls 4 [(0, .ref b), (1, .ref h0), (2, .ref h0X), (3, .int (nI 0))]) : W p l e room_1 s m #[Value.ref b] below meth c H locs 702 488194 (lw_Z below #[Value.ref b] s) (F0 m 950 ls []) := by
  refine lv_aload_n G.1 G.2.1 d_Law_950 rfl (lv_at hl 1 rfl) ?_
  refine lv_aload_n G.1 G.2.1 d_Law_951 rfl (lv_at hl 0 rfl) ?_
  refine lv_iload_n G.1 G.2.1 d_Law_952 rfl (lv_at hl 3 rfl) ?_
  refine lv_iconst (v := nI 1) G.1 G.2.1 d_Law_953 (by decide) ?_
  refine lv_iadd G.1 G.2.1 d_Law_954 ?_
  refine tpi (w := nI 1) (by decide) ?_
  refine va_sld G.1 G.2.1 hX hbl hbA hS (nI_inn (n := 6) (a := 1) (by decide) (by decide)) d_Law_955 ?_
  refine tpi (w := (xs 1)) (by rw [nI_clamp (by decide)]) ?_
  refine lv_aload_n G.1 G.2.1 d_Law_956 rfl (lv_at hl 0 rfl) ?_
  refine lv_iload_n G.1 G.2.1 d_Law_957 rfl (lv_at hl 3 rfl) ?_
  refine lv_iconst (v := nI 2) G.1 G.2.1 d_Law_958 (by decide) ?_
  refine lv_iadd G.1 G.2.1 d_Law_959 ?_
  refine tpi (w := nI 2) (by decide) ?_
  refine va_sld G.1 G.2.1 hX hbl hbA hS (nI_inn (n := 6) (a := 2) (by decide) (by decide)) d_Law_960 ?_
  refine tpi (w := (xs 2)) (by rw [nI_clamp (by decide)]) ?_
  refine W.eq (g2 := F0 m 961 ls [.int (xs 2), .int (xs 1), .ref h0]) rfl ?_
  refine lv_aload_n G.1 G.2.1 d_Law_961 rfl (lv_at hl 0 rfl) ?_
  refine lv_iload_n G.1 G.2.1 d_Law_962 rfl (lv_at hl 3 rfl) ?_
  refine lv_iconst (v := nI 3) G.1 G.2.1 d_Law_963 (by decide) ?_
  refine lv_iadd G.1 G.2.1 d_Law_964 ?_
  refine tpi (w := nI 3) (by decide) ?_
  refine va_sld G.1 G.2.1 hX hbl hbA hS (nI_inn (n := 6) (a := 3) (by decide) (by decide)) d_Law_965 ?_
  refine tpi (w := (xs 3)) (by rw [nI_clamp (by decide)]) ?_
  refine kEi (wr := [(h0X, .inr (14, fsX)), (owX, .inl (g 6, 4, .inr (.inr (.inr (.inr (va_up (va_up (va_up (va_up (fun _ => none) 0 (some v0X)) 1 (some v1X)) 2 (some v2X)) 3 (some v3X))))))), (v0X, .inr (13, fw0X)), (v1X, .inr (13, fw1X)), (v2X, .inr (13, fw2X))]) G (kV (As := [.int (xs 1), .int (xs 2), .int (xs 3)]) (rest := []) G hP hD hS [0, 1, 2, 3, 4, 5, 6, 7] rfl rfl (c_Cw_object l D g h0 (xs 1) (xs 2) (xs 3) r_cwords r_creader r_cchecker r_cfinder r_cwriter r_cmachines r_ctape r_cstock r_csizes r_cmet r_cfound r_cdraft r_cfewestFor r_cfewestNext mm0 mm1 mm2 mm3 ww0 r_m0heap r_m0runs r_m0counts r_m0traceRow f_m0traceCount r_m0startedList f_m0startedCount f_m0present f_m0quantum f_m0stepsDone f_m0turnSteps f_m0turnMost f_m0turnOver r_m0finder r_m0names f_m0fault f_m0wanted f_m0thrown ww1 r_m1heap r_m1runs r_m1counts r_m1traceRow f_m1traceCount r_m1startedList f_m1startedCount f_m1present f_m1quantum f_m1stepsDone f_m1turnSteps f_m1turnMost f_m1turnOver r_m1finder r_m1names f_m1fault f_m1wanted f_m1thrown ww2 r_m2heap r_m2runs r_m2counts r_m2traceRow f_m2traceCount r_m2startedList f_m2startedCount f_m2present f_m2quantum f_m2stepsDone f_m2turnSteps f_m2turnMost f_m2turnOver r_m2finder r_m2names f_m2fault f_m2wanted f_m2thrown r_w0names f_w0wrongClass f_w0wrongMethod f_w0wrongAt r_w0rows r_w0above r_w0fields r_w0methods r_w0codes r_w0handlers r_w0extra r_w0orders r_w0classNamed f_w0breaks r_w0marks r_w1names f_w1wrongClass f_w1wrongMethod f_w1wrongAt r_w1rows r_w1above r_w1fields r_w1methods r_w1codes r_w1handlers r_w1extra r_w1orders r_w1classNamed f_w1breaks r_w1marks r_w2names f_w2wrongClass f_w2wrongMethod f_w2wrongAt r_w2rows r_w2above r_w2fields r_w2methods r_w2codes r_w2handlers r_w2extra r_w2orders r_w2classNamed f_w2breaks r_w2marks H.size ) w_Cw_object q2128 rfl rfl ⟨Nat.le_of_ble_eq_true rfl, Nat.le_of_ble_eq_true rfl⟩ (fun _ h => absurd h List.not_mem_nil) 0 (ci := 11) rfl rfl rfl hl.1 rfl (Nat.le_of_ble_eq_true rfl) rfl ⟨Nat.le_of_ble_eq_true rfl, (Nat.le_of_ble_eq_true rfl)⟩ d_Law_966) hP hD hS [0, 1, 2, 3, 4, 5, 6, 7] [8, 9, 10, 11, 12] rfl rfl rfl rfl (fun r_1 u_2 H locs hw hP hD hS hzH => ?_)
  have hw : r_1 = (-1) := hw
  have hP : va_P D CL [(h0X, .inr (14, fsX)), (owX, .inl (g 6, 4, .inr (.inr (.inr (.inr (va_up (va_up (va_up (va_up (fun _ => none) 0 (some v0X)) 1 (some v1X)) 2 (some v2X)) 3 (some v3X))))))), (v0X, .inr (13, fw0X)), (v1X, .inr (13, fw1X)), (v2X, .inr (13, fw2X))] H := hP
  have hD : va_D A [(h0X, .inr (14, fsX)), (owX, .inl (g 6, 4, .inr (.inr (.inr (.inr (va_up (va_up (va_up (va_up (fun _ => none) 0 (some v0X)) 1 (some v1X)) 2 (some v2X)) 3 (some v3X))))))), (v0X, .inr (13, fw0X)), (v1X, .inr (13, fw1X)), (v2X, .inr (13, fw2X))] := hD
  subst hw
  refine tpst (w := [.int (-1)]) rfl ?_
  refine lv_aload_n G.1 G.2.1 d_Law_969 rfl (lv_at hl 2 rfl) ?_
  refine lv_aload_n G.1 G.2.1 d_Law_970 rfl (lv_at hl 0 rfl) ?_
  refine lv_iload_n G.1 G.2.1 d_Law_971 rfl (lv_at hl 3 rfl) ?_
  refine lv_iconst (v := nI 1) G.1 G.2.1 d_Law_972 (by decide) ?_
  refine lv_iadd G.1 G.2.1 d_Law_973 ?_
  refine tpi (w := nI 1) (by decide) ?_
  refine va_sld G.1 G.2.1 hX hbl hbA hS (nI_inn (n := 6) (a := 1) (by decide) (by decide)) d_Law_974 ?_
  refine tpi (w := (xs 1)) (by rw [nI_clamp (by decide)]) ?_
  refine W.eq (g2 := F0 m 975 ls [.int (xs 1), .ref h0X, .int (-1)]) rfl ?_
  refine lv_aload_n G.1 G.2.1 d_Law_975 rfl (lv_at hl 0 rfl) ?_
  refine lv_iload_n G.1 G.2.1 d_Law_976 rfl (lv_at hl 3 rfl) ?_
  refine lv_iconst (v := nI 2) G.1 G.2.1 d_Law_977 (by decide) ?_
  refine lv_iadd G.1 G.2.1 d_Law_978 ?_
  refine tpi (w := nI 2) (by decide) ?_
  refine va_sld G.1 G.2.1 hX hbl hbA hS (nI_inn (n := 6) (a := 2) (by decide) (by decide)) d_Law_979 ?_
  refine tpi (w := (xs 2)) (by rw [nI_clamp (by decide)]) ?_
  refine lv_aload_n G.1 G.2.1 d_Law_980 rfl (lv_at hl 0 rfl) ?_
  refine lv_iload_n G.1 G.2.1 d_Law_981 rfl (lv_at hl 3 rfl) ?_
  refine lv_iconst (v := nI 3) G.1 G.2.1 d_Law_982 (by decide) ?_
  refine lv_iadd G.1 G.2.1 d_Law_983 ?_
  refine tpi (w := nI 3) (by decide) ?_
  refine va_sld G.1 G.2.1 hX hbl hbA hS (nI_inn (n := 6) (a := 3) (by decide) (by decide)) d_Law_984 ?_
  refine tpi (w := (xs 3)) (by rw [nI_clamp (by decide)]) ?_
  refine kEi (wr := []) G (kV (As := [.int (xs 1), .int (xs 2), .int (xs 3)]) (rest := [.int (-1)]) G hP hD hS [0, 1, 2, 3, 4] rfl rfl (c_Mo_object l D g h0X (xs 1) (xs 2) (xs 3) fsX owX v0X v1X v2X v3X fw0X fw1X fw2X H.size glenX gk0X gw0X gt0X gw1X gt1X gw2X gt2X) w_Mo_object q4034 rfl rfl ⟨Nat.le_of_ble_eq_true rfl, Nat.le_of_ble_eq_true rfl⟩ (fun _ h => absurd h List.not_mem_nil) 0 (ci := 14) rfl rfl rfl hl.1 rfl (Nat.le_of_ble_eq_true rfl) rfl ⟨Nat.le_of_ble_eq_true rfl, (Nat.le_of_ble_eq_true rfl)⟩ d_Law_985) hP hD hS [0, 1, 2, 3, 4] [] rfl rfl rfl rfl (fun r_3 u_4 H locs hw hP hD hS hzH => ?_)
  have hw : r_3 = (-1) := hw
  have hP : va_P D CL [] H := hP
  have hD : va_D A [] := hD
  subst hw
  refine tpst (w := [.int (-1), .int (-1)]) rfl ?_
  refine lv_icmp_eq (tgt := 1768) G.1 G.2.1 d_Law_988 (by decide) (fun c988 => ?_) (fun c988 => absurd c988 (fun h => h rfl))
  refine W.eq (g2 := F0 m 1768 ls []) rfl ?_
  refine lv_iinc (v := nI 6) (lv' := [(3, .int (nI 6)), (0, .ref b), (1, .ref h0), (2, .ref h0X)]) G.1 G.2.1 d_Law_1768 hl (k := 3) rfl (show (nI 0) + Int32.ofInt 6 = nI 6 from by decide) (by decide) rfl (fun ls hl => ?_)
  refine lv_goto (tgt := 18) G.1 G.2.1 d_Law_1771 (by decide) ?_
  refine lv_iload_n G.1 G.2.1 d_Law_18 rfl (lv_at hl 0 rfl) ?_
  refine lv_aload_n G.1 G.2.1 d_Law_19 rfl (lv_at hl 1 rfl) ?_
  refine va_slen G.1 G.2.1 hX hbl hbA hS d_Law_20 ?_
  refine tpi (w := nI 6) rfl ?_
  refine lv_bipush (v := nI 6) G.1 G.2.1 d_Law_21 (by decide) ?_
  refine lv_isub G.1 G.2.1 d_Law_23 ?_
  refine tpi (w := nI 0) (by decide) ?_
  refine lv_icmp_gt (tgt := 1774) G.1 G.2.1 d_Law_24 (by decide) (fun c24 => ?_) (fun c24 => absurd c24 (by decide))
  refine lv_iconst (v := nI 1) G.1 G.2.1 d_Law_1774 (by decide) ?_
  refine va_forget (fun q hq => hAA _ (hS.2.2 q hq)) ?_
  refine W.widen (k := 600002) (n := 7302232) (Nat.le_of_ble_eq_true rfl) (Nat.le_of_ble_eq_true rfl) ?_
  exact lw_ret G.1 G.2.1 G.2.2.2.1 G.2.2.2.2.1 d_Law_1775
theorem q2145 : Cond.code y_Cw_print b_Cw_print 4 (some .int) ∈ lw_ok := lw_okmem (List.mem_of_getElem? (i := 2145) (by decide +kernel)) rfl
theorem q2143 : Cond.instanceMethod y_Cw_print ∈ lw_ok := lw_okmem (List.mem_of_getElem? (i := 2143) (by decide +kernel)) rfl
theorem q2144 : Cond.selects y_Cw_print.cls y_Cw_print y_Cw_print ∈ lw_ok := lw_okmem (List.mem_of_getElem? (i := 2144) (by decide +kernel)) rfl
theorem w_Cw_print : CWv y_Cw_print b_Cw_print 4 (some .int) 2 ∧ Cond.instanceMethod y_Cw_print ∈ lw_ok ∧ Cond.selects y_Cw_print.cls y_Cw_print y_Cw_print ∈ lw_ok := ⟨⟨q2145, q329, by decide +kernel, by decide +kernel, by decide +kernel⟩, q2143, q2144⟩
theorem q2142 : Cond.methodLink "ClassWorksLaw" 104 y_Cw_print ∈ lw_ok := lw_okmem (List.mem_of_getElem? (i := 2142) (by decide +kernel)) rfl
theorem q4045 : Cond.code y_Mo_print b_Mo_print 4 (some .int) ∈ lw_ok := lw_okmem (List.mem_of_getElem? (i := 4045) (by decide +kernel)) rfl
theorem q4043 : Cond.instanceMethod y_Mo_print ∈ lw_ok := lw_okmem (List.mem_of_getElem? (i := 4043) (by decide +kernel)) rfl
theorem q4044 : Cond.selects y_Mo_print.cls y_Mo_print y_Mo_print ∈ lw_ok := lw_okmem (List.mem_of_getElem? (i := 4044) (by decide +kernel)) rfl
theorem w_Mo_print : CWv y_Mo_print b_Mo_print 4 (some .int) 2 ∧ Cond.instanceMethod y_Mo_print ∈ lw_ok ∧ Cond.selects y_Mo_print.cls y_Mo_print y_Mo_print ∈ lw_ok := ⟨⟨q4045, q348, by decide +kernel, by decide +kernel, by decide +kernel⟩, q4043, q4044⟩
theorem q4042 : Cond.methodLink "ClassWorksLaw" 107 y_Mo_print ∈ lw_ok := lw_okmem (List.mem_of_getElem? (i := 4042) (by decide +kernel)) rfl
theorem d_Law_993 : decode code 993 = .ok (.aload_n 1, 1) := by decide +kernel
theorem d_Law_994 : decode code 994 = .ok (.aload_n 0, 1) := by decide +kernel
theorem d_Law_995 : decode code 995 = .ok (.iload_n 3, 1) := by decide +kernel
theorem d_Law_996 : decode code 996 = .ok (.iconst 1, 1) := by decide +kernel
theorem d_Law_997 : decode code 997 = .ok (.iadd, 1) := by decide +kernel
theorem d_Law_998 : decode code 998 = .ok (.iaload, 1) := by decide +kernel
theorem d_Law_999 : decode code 999 = .ok (.aload_n 0, 1) := by decide +kernel
theorem d_Law_1000 : decode code 1000 = .ok (.iload_n 3, 1) := by decide +kernel
theorem d_Law_1001 : decode code 1001 = .ok (.iconst 2, 1) := by decide +kernel
theorem d_Law_1002 : decode code 1002 = .ok (.iadd, 1) := by decide +kernel
theorem d_Law_1003 : decode code 1003 = .ok (.iaload, 1) := by decide +kernel
theorem d_Law_1004 : decode code 1004 = .ok (.invokevirtual 104, 3) := by decide +kernel
theorem d_Law_1007 : decode code 1007 = .ok (.aload_n 2, 1) := by decide +kernel
theorem d_Law_1008 : decode code 1008 = .ok (.aload_n 0, 1) := by decide +kernel
theorem d_Law_1009 : decode code 1009 = .ok (.iload_n 3, 1) := by decide +kernel
theorem d_Law_1010 : decode code 1010 = .ok (.iconst 1, 1) := by decide +kernel
theorem d_Law_1011 : decode code 1011 = .ok (.iadd, 1) := by decide +kernel
theorem d_Law_1012 : decode code 1012 = .ok (.iaload, 1) := by decide +kernel
theorem d_Law_1013 : decode code 1013 = .ok (.aload_n 0, 1) := by decide +kernel
theorem d_Law_1014 : decode code 1014 = .ok (.iload_n 3, 1) := by decide +kernel
theorem d_Law_1015 : decode code 1015 = .ok (.iconst 2, 1) := by decide +kernel
theorem d_Law_1016 : decode code 1016 = .ok (.iadd, 1) := by decide +kernel
theorem d_Law_1017 : decode code 1017 = .ok (.iaload, 1) := by decide +kernel
theorem d_Law_1018 : decode code 1018 = .ok (.invokevirtual 107, 3) := by decide +kernel
theorem d_Law_1021 : decode code 1021 = .ok (.if_icmp .eq 747, 3) := by decide +kernel
set_option maxHeartbeats 4000000 in
set_option maxRecDepth 100000 in
theorem law_print {p : Program} {e : Env} {s : State} {m : MethodId} {below : List Frame} {meth : Method} {c : Code} {l : Launch} {D : va_G} {g : Nat → ClassId} {sl : List SL} {b : Nat} {xs : Nat → Int32} {A : Nat → Prop} (h0 : Nat) (r_cwords : Nat) (r_creader : Nat) (r_cchecker : Nat) (r_cfinder : Nat) (r_cwriter : Nat) (r_cmachines : Nat) (r_ctape : Nat) (r_cstock : Nat) (r_csizes : Nat) (r_cmet : Nat) (r_cfound : Nat) (r_cdraft : Nat) (r_cfewestFor : Nat) (r_cfewestNext : Nat) (mm0 : Nat) (mm1 : Nat) (mm2 : Nat) (mm3 : Nat) (ww0 : Nat) (r_m0heap : Nat) (r_m0runs : Nat) (r_m0counts : Nat) (r_m0traceRow : Nat) (f_m0traceCount : Int32) (r_m0startedList : Nat) (f_m0startedCount : Int32) (f_m0present : Int32) (f_m0quantum : Int32) (f_m0stepsDone : Int32) (f_m0turnSteps : Int32) (f_m0turnMost : Int32) (f_m0turnOver : Int32) (r_m0finder : Nat) (r_m0names : Nat) (f_m0fault : Int32) (f_m0wanted : Int32) (f_m0thrown : Int32) (ww1 : Nat) (r_m1heap : Nat) (r_m1runs : Nat) (r_m1counts : Nat) (r_m1traceRow : Nat) (f_m1traceCount : Int32) (r_m1startedList : Nat) (f_m1startedCount : Int32) (f_m1present : Int32) (f_m1quantum : Int32) (f_m1stepsDone : Int32) (f_m1turnSteps : Int32) (f_m1turnMost : Int32) (f_m1turnOver : Int32) (r_m1finder : Nat) (r_m1names : Nat) (f_m1fault : Int32) (f_m1wanted : Int32) (f_m1thrown : Int32) (ww2 : Nat) (r_m2heap : Nat) (r_m2runs : Nat) (r_m2counts : Nat) (r_m2traceRow : Nat) (f_m2traceCount : Int32) (r_m2startedList : Nat) (f_m2startedCount : Int32) (f_m2present : Int32) (f_m2quantum : Int32) (f_m2stepsDone : Int32) (f_m2turnSteps : Int32) (f_m2turnMost : Int32) (f_m2turnOver : Int32) (r_m2finder : Nat) (r_m2names : Nat) (f_m2fault : Int32) (f_m2wanted : Int32) (f_m2thrown : Int32) (r_w0names : Nat) (f_w0wrongClass : Int32) (f_w0wrongMethod : Int32) (f_w0wrongAt : Int32) (r_w0rows : Nat) (r_w0above : Nat) (r_w0fields : Nat) (r_w0methods : Nat) (r_w0codes : Nat) (r_w0handlers : Nat) (r_w0extra : Nat) (r_w0orders : Nat) (r_w0classNamed : Nat) (f_w0breaks : Int32) (r_w0marks : Nat) (r_w1names : Nat) (f_w1wrongClass : Int32) (f_w1wrongMethod : Int32) (f_w1wrongAt : Int32) (r_w1rows : Nat) (r_w1above : Nat) (r_w1fields : Nat) (r_w1methods : Nat) (r_w1codes : Nat) (r_w1handlers : Nat) (r_w1extra : Nat) (r_w1orders : Nat) (r_w1classNamed : Nat) (f_w1breaks : Int32) (r_w1marks : Nat) (r_w2names : Nat) (f_w2wrongClass : Int32) (f_w2wrongMethod : Int32) (f_w2wrongAt : Int32) (r_w2rows : Nat) (r_w2above : Nat) (r_w2fields : Nat) (r_w2methods : Nat) (r_w2codes : Nat) (r_w2handlers : Nat) (r_w2extra : Nat) (r_w2orders : Nat) (r_w2classNamed : Nat) (f_w2breaks : Int32) (r_w2marks : Nat) (h0X : Nat) (fsX : List Value) (owX : Nat) (v0X : Nat) (v1X : Nat) (v2X : Nat) (v3X : Nat) (fw0X : List Value) (fw1X : List Value) (fw2X : List Value) (G : GV l p s m #[Value.ref b] meth c (⟨"ClassWorksLaw", meth.name, ""⟩ : MethodName) code 4 ret g D sl A) (hX : va_X b 6 xs s s.heap) (hbl : b < s.heap.size) (hbA : ¬ A b) (hAA : ∀ q, A q → s.heap.size ≤ q) {H : Heap} {locs : List Loc} {ls : Array Slot} (glenX : fsX.length = 131) (gk0X : fsX[44]? = some (.ref owX)) (gw0X : fw0X.length = 72) (gt0X : fw0X[0]? = some (.int (nI 0))) (gw1X : fw1X.length = 72) (gt1X : fw1X[0]? = some (.int (nI 0))) (gw2X : fw2X.length = 72) (gt2X : fw2X[0]? = some (.int (nI 0))) (hP : va_P D CL [(h0, .inr (11, [.ref r_cwords, .ref r_creader, .ref r_cchecker, .ref r_cfinder, .ref r_cwriter, .ref r_cmachines, .ref r_ctape, .int (nI 0), .int (-2), .int (nI 60000), .ref r_cstock, .ref r_csizes, .ref r_cmet, .ref r_cfound, .int (nI 0), .ref r_cdraft, .int (nI 0), .int (nI 0), .ref r_cfewestFor, .ref r_cfewestNext])), (r_cmachines, .inl (g 4, 4, .inr (.inr (.inr (.inr (va_up (va_up (va_up (va_up (fun _ => none) 0 (some mm0)) 1 (some mm1)) 2 (some mm2)) 3 (some mm3))))))), (mm0, .inr (4, [.ref ww0, .ref r_m0heap, .ref r_m0runs, .ref r_m0counts, .ref r_m0traceRow, .int f_m0traceCount, .ref r_m0startedList, .int f_m0startedCount, .int f_m0present, .int f_m0quantum, .int f_m0stepsDone, .int f_m0turnSteps, .int f_m0turnMost, .int f_m0turnOver, .ref r_m0finder, .ref r_m0names, .int f_m0fault, .int f_m0wanted, .int f_m0thrown])), (mm1, .inr (4, [.ref ww1, .ref r_m1heap, .ref r_m1runs, .ref r_m1counts, .ref r_m1traceRow, .int f_m1traceCount, .ref r_m1startedList, .int f_m1startedCount, .int f_m1present, .int f_m1quantum, .int f_m1stepsDone, .int f_m1turnSteps, .int f_m1turnMost, .int f_m1turnOver, .ref r_m1finder, .ref r_m1names, .int f_m1fault, .int f_m1wanted, .int f_m1thrown])), (mm2, .inr (4, [.ref ww2, .ref r_m2heap, .ref r_m2runs, .ref r_m2counts, .ref r_m2traceRow, .int f_m2traceCount, .ref r_m2startedList, .int f_m2startedCount, .int f_m2present, .int f_m2quantum, .int f_m2stepsDone, .int f_m2turnSteps, .int f_m2turnMost, .int f_m2turnOver, .ref r_m2finder, .ref r_m2names, .int f_m2fault, .int f_m2wanted, .int f_m2thrown])), (ww0, .inr (9, [.ref r_w0names, .int (nI 0), .int (nI 21), .int f_w0wrongClass, .int f_w0wrongMethod, .int f_w0wrongAt, .ref r_w0rows, .ref r_w0above, .ref r_w0fields, .ref r_w0methods, .ref r_w0codes, .ref r_w0handlers, .ref r_w0extra, .ref r_w0orders, .ref r_w0classNamed, .int f_w0breaks, .ref r_w0marks])), (ww1, .inr (9, [.ref r_w1names, .int (nI 0), .int (nI 21), .int f_w1wrongClass, .int f_w1wrongMethod, .int f_w1wrongAt, .ref r_w1rows, .ref r_w1above, .ref r_w1fields, .ref r_w1methods, .ref r_w1codes, .ref r_w1handlers, .ref r_w1extra, .ref r_w1orders, .ref r_w1classNamed, .int f_w1breaks, .ref r_w1marks])), (ww2, .inr (9, [.ref r_w2names, .int (nI 0), .int (nI 21), .int f_w2wrongClass, .int f_w2wrongMethod, .int f_w2wrongAt, .ref r_w2rows, .ref r_w2above, .ref r_w2fields, .ref r_w2methods, .ref r_w2codes, .ref r_w2handlers, .ref r_w2extra, .ref r_w2orders, .ref r_w2classNamed, .int f_w2breaks, .ref r_w2marks])), (h0X, .inr (14, fsX)), (owX, .inl (g 6, 4, .inr (.inr (.inr (.inr (va_up (va_up (va_up (va_up (fun _ => none) 0 (some v0X)) 1 (some v1X)) 2 (some v2X)) 3 (some v3X))))))), (v0X, .inr (13, fw0X)), (v1X, .inr (13, fw1X)), (v2X, .inr (13, fw2X))] H) (hD : va_D A [(h0, .inr (11, [.ref r_cwords, .ref r_creader, .ref r_cchecker, .ref r_cfinder, .ref r_cwriter, .ref r_cmachines, .ref r_ctape, .int (nI 0), .int (-2), .int (nI 60000), .ref r_cstock, .ref r_csizes, .ref r_cmet, .ref r_cfound, .int (nI 0), .ref r_cdraft, .int (nI 0), .int (nI 0), .ref r_cfewestFor, .ref r_cfewestNext])), (r_cmachines, .inl (g 4, 4, .inr (.inr (.inr (.inr (va_up (va_up (va_up (va_up (fun _ => none) 0 (some mm0)) 1 (some mm1)) 2 (some mm2)) 3 (some mm3))))))), (mm0, .inr (4, [.ref ww0, .ref r_m0heap, .ref r_m0runs, .ref r_m0counts, .ref r_m0traceRow, .int f_m0traceCount, .ref r_m0startedList, .int f_m0startedCount, .int f_m0present, .int f_m0quantum, .int f_m0stepsDone, .int f_m0turnSteps, .int f_m0turnMost, .int f_m0turnOver, .ref r_m0finder, .ref r_m0names, .int f_m0fault, .int f_m0wanted, .int f_m0thrown])), (mm1, .inr (4, [.ref ww1, .ref r_m1heap, .ref r_m1runs, .ref r_m1counts, .ref r_m1traceRow, .int f_m1traceCount, .ref r_m1startedList, .int f_m1startedCount, .int f_m1present, .int f_m1quantum, .int f_m1stepsDone, .int f_m1turnSteps, .int f_m1turnMost, .int f_m1turnOver, .ref r_m1finder, .ref r_m1names, .int f_m1fault, .int f_m1wanted, .int f_m1thrown])), (mm2, .inr (4, [.ref ww2, .ref r_m2heap, .ref r_m2runs, .ref r_m2counts, .ref r_m2traceRow, .int f_m2traceCount, .ref r_m2startedList, .int f_m2startedCount, .int f_m2present, .int f_m2quantum, .int f_m2stepsDone, .int f_m2turnSteps, .int f_m2turnMost, .int f_m2turnOver, .ref r_m2finder, .ref r_m2names, .int f_m2fault, .int f_m2wanted, .int f_m2thrown])), (ww0, .inr (9, [.ref r_w0names, .int (nI 0), .int (nI 21), .int f_w0wrongClass, .int f_w0wrongMethod, .int f_w0wrongAt, .ref r_w0rows, .ref r_w0above, .ref r_w0fields, .ref r_w0methods, .ref r_w0codes, .ref r_w0handlers, .ref r_w0extra, .ref r_w0orders, .ref r_w0classNamed, .int f_w0breaks, .ref r_w0marks])), (ww1, .inr (9, [.ref r_w1names, .int (nI 0), .int (nI 21), .int f_w1wrongClass, .int f_w1wrongMethod, .int f_w1wrongAt, .ref r_w1rows, .ref r_w1above, .ref r_w1fields, .ref r_w1methods, .ref r_w1codes, .ref r_w1handlers, .ref r_w1extra, .ref r_w1orders, .ref r_w1classNamed, .int f_w1breaks, .ref r_w1marks])), (ww2, .inr (9, [.ref r_w2names, .int (nI 0), .int (nI 21), .int f_w2wrongClass, .int f_w2wrongMethod, .int f_w2wrongAt, .ref r_w2rows, .ref r_w2above, .ref r_w2fields, .ref r_w2methods, .ref r_w2codes, .ref r_w2handlers, .ref r_w2extra, .ref r_w2orders, .ref r_w2classNamed, .int f_w2breaks, .ref r_w2marks])), (h0X, .inr (14, fsX)), (owX, .inl (g 6, 4, .inr (.inr (.inr (.inr (va_up (va_up (va_up (va_up (fun _ => none) 0 (some v0X)) 1 (some v1X)) 2 (some v2X)) 3 (some v3X))))))), (v0X, .inr (13, fw0X)), (v1X, .inr (13, fw1X)), (v2X, .inr (13, fw2X))]) (hS : va_S A s.heap H locs) (hl : lv_has ls 4 [(0, .ref b), (1, .ref h0), (2, .ref h0X), (3, .int (nI 0))]) : W p l e room_1 s m #[Value.ref b] below meth c H locs 702 488194 (lw_Z below #[Value.ref b] s) (F0 m 993 ls []) := by
  refine lv_aload_n G.1 G.2.1 d_Law_993 rfl (lv_at hl 1 rfl) ?_
  refine lv_aload_n G.1 G.2.1 d_Law_994 rfl (lv_at hl 0 rfl) ?_
  refine lv_iload_n G.1 G.2.1 d_Law_995 rfl (lv_at hl 3 rfl) ?_
  refine lv_iconst (v := nI 1) G.1 G.2.1 d_Law_996 (by decide) ?_
  refine lv_iadd G.1 G.2.1 d_Law_997 ?_
  refine tpi (w := nI 1) (by decide) ?_
  refine va_sld G.1 G.2.1 hX hbl hbA hS (nI_inn (n := 6) (a := 1) (by decide) (by decide)) d_Law_998 ?_
  refine tpi (w := (xs 1)) (by rw [nI_clamp (by decide)]) ?_
  refine lv_aload_n G.1 G.2.1 d_Law_999 rfl (lv_at hl 0 rfl) ?_
  refine lv_iload_n G.1 G.2.1 d_Law_1000 rfl (lv_at hl 3 rfl) ?_
  refine lv_iconst (v := nI 2) G.1 G.2.1 d_Law_1001 (by decide) ?_
  refine lv_iadd G.1 G.2.1 d_Law_1002 ?_
  refine tpi (w := nI 2) (by decide) ?_
  refine va_sld G.1 G.2.1 hX hbl hbA hS (nI_inn (n := 6) (a := 2) (by decide) (by decide)) d_Law_1003 ?_
  refine tpi (w := (xs 2)) (by rw [nI_clamp (by decide)]) ?_
  refine W.eq (g2 := F0 m 1004 ls [.int (xs 2), .int (xs 1), .ref h0]) rfl ?_
  refine kEi (wr := [(h0X, .inr (14, fsX)), (owX, .inl (g 6, 4, .inr (.inr (.inr (.inr (va_up (va_up (va_up (va_up (fun _ => none) 0 (some v0X)) 1 (some v1X)) 2 (some v2X)) 3 (some v3X))))))), (v0X, .inr (13, fw0X)), (v1X, .inr (13, fw1X)), (v2X, .inr (13, fw2X))]) G (kV (As := [.int (xs 1), .int (xs 2)]) (rest := []) G hP hD hS [0, 1, 2, 3, 4, 5, 6, 7] rfl rfl (c_Cw_print l D g h0 (xs 1) (xs 2) r_cwords r_creader r_cchecker r_cfinder r_cwriter r_cmachines r_ctape r_cstock r_csizes r_cmet r_cfound r_cdraft r_cfewestFor r_cfewestNext mm0 mm1 mm2 mm3 ww0 r_m0heap r_m0runs r_m0counts r_m0traceRow f_m0traceCount r_m0startedList f_m0startedCount f_m0present f_m0quantum f_m0stepsDone f_m0turnSteps f_m0turnMost f_m0turnOver r_m0finder r_m0names f_m0fault f_m0wanted f_m0thrown ww1 r_m1heap r_m1runs r_m1counts r_m1traceRow f_m1traceCount r_m1startedList f_m1startedCount f_m1present f_m1quantum f_m1stepsDone f_m1turnSteps f_m1turnMost f_m1turnOver r_m1finder r_m1names f_m1fault f_m1wanted f_m1thrown ww2 r_m2heap r_m2runs r_m2counts r_m2traceRow f_m2traceCount r_m2startedList f_m2startedCount f_m2present f_m2quantum f_m2stepsDone f_m2turnSteps f_m2turnMost f_m2turnOver r_m2finder r_m2names f_m2fault f_m2wanted f_m2thrown r_w0names f_w0wrongClass f_w0wrongMethod f_w0wrongAt r_w0rows r_w0above r_w0fields r_w0methods r_w0codes r_w0handlers r_w0extra r_w0orders r_w0classNamed f_w0breaks r_w0marks r_w1names f_w1wrongClass f_w1wrongMethod f_w1wrongAt r_w1rows r_w1above r_w1fields r_w1methods r_w1codes r_w1handlers r_w1extra r_w1orders r_w1classNamed f_w1breaks r_w1marks r_w2names f_w2wrongClass f_w2wrongMethod f_w2wrongAt r_w2rows r_w2above r_w2fields r_w2methods r_w2codes r_w2handlers r_w2extra r_w2orders r_w2classNamed f_w2breaks r_w2marks H.size ) w_Cw_print q2142 rfl rfl ⟨Nat.le_of_ble_eq_true rfl, Nat.le_of_ble_eq_true rfl⟩ (fun _ h => absurd h List.not_mem_nil) 0 (ci := 11) rfl rfl rfl hl.1 rfl (Nat.le_of_ble_eq_true rfl) rfl ⟨Nat.le_of_ble_eq_true rfl, (Nat.le_of_ble_eq_true rfl)⟩ d_Law_1004) hP hD hS [0, 1, 2, 3, 4, 5, 6, 7] [8, 9, 10, 11, 12] rfl rfl rfl rfl (fun r_1 u_2 H locs hw hP hD hS hzH => ?_)
  have hw : r_1 = (-1) := hw
  have hP : va_P D CL [(h0X, .inr (14, fsX)), (owX, .inl (g 6, 4, .inr (.inr (.inr (.inr (va_up (va_up (va_up (va_up (fun _ => none) 0 (some v0X)) 1 (some v1X)) 2 (some v2X)) 3 (some v3X))))))), (v0X, .inr (13, fw0X)), (v1X, .inr (13, fw1X)), (v2X, .inr (13, fw2X))] H := hP
  have hD : va_D A [(h0X, .inr (14, fsX)), (owX, .inl (g 6, 4, .inr (.inr (.inr (.inr (va_up (va_up (va_up (va_up (fun _ => none) 0 (some v0X)) 1 (some v1X)) 2 (some v2X)) 3 (some v3X))))))), (v0X, .inr (13, fw0X)), (v1X, .inr (13, fw1X)), (v2X, .inr (13, fw2X))] := hD
  subst hw
  refine tpst (w := [.int (-1)]) rfl ?_
  refine lv_aload_n G.1 G.2.1 d_Law_1007 rfl (lv_at hl 2 rfl) ?_
  refine lv_aload_n G.1 G.2.1 d_Law_1008 rfl (lv_at hl 0 rfl) ?_
  refine lv_iload_n G.1 G.2.1 d_Law_1009 rfl (lv_at hl 3 rfl) ?_
  refine lv_iconst (v := nI 1) G.1 G.2.1 d_Law_1010 (by decide) ?_
  refine lv_iadd G.1 G.2.1 d_Law_1011 ?_
  refine tpi (w := nI 1) (by decide) ?_
  refine va_sld G.1 G.2.1 hX hbl hbA hS (nI_inn (n := 6) (a := 1) (by decide) (by decide)) d_Law_1012 ?_
  refine tpi (w := (xs 1)) (by rw [nI_clamp (by decide)]) ?_
  refine lv_aload_n G.1 G.2.1 d_Law_1013 rfl (lv_at hl 0 rfl) ?_
  refine lv_iload_n G.1 G.2.1 d_Law_1014 rfl (lv_at hl 3 rfl) ?_
  refine lv_iconst (v := nI 2) G.1 G.2.1 d_Law_1015 (by decide) ?_
  refine lv_iadd G.1 G.2.1 d_Law_1016 ?_
  refine tpi (w := nI 2) (by decide) ?_
  refine va_sld G.1 G.2.1 hX hbl hbA hS (nI_inn (n := 6) (a := 2) (by decide) (by decide)) d_Law_1017 ?_
  refine tpi (w := (xs 2)) (by rw [nI_clamp (by decide)]) ?_
  refine W.eq (g2 := F0 m 1018 ls [.int (xs 2), .int (xs 1), .ref h0X, .int (-1)]) rfl ?_
  refine kEi (wr := []) G (kV (As := [.int (xs 1), .int (xs 2)]) (rest := [.int (-1)]) G hP hD hS [0, 1, 2, 3, 4] rfl rfl (c_Mo_print l D g h0X (xs 1) (xs 2) fsX owX v0X v1X v2X v3X fw0X fw1X fw2X H.size glenX gk0X gw0X gt0X gw1X gt1X gw2X gt2X) w_Mo_print q4042 rfl rfl ⟨Nat.le_of_ble_eq_true rfl, Nat.le_of_ble_eq_true rfl⟩ (fun _ h => absurd h List.not_mem_nil) 0 (ci := 14) rfl rfl rfl hl.1 rfl (Nat.le_of_ble_eq_true rfl) rfl ⟨Nat.le_of_ble_eq_true rfl, (Nat.le_of_ble_eq_true rfl)⟩ d_Law_1018) hP hD hS [0, 1, 2, 3, 4] [] rfl rfl rfl rfl (fun r_3 u_4 H locs hw hP hD hS hzH => ?_)
  have hw : r_3 = (-1) := hw
  have hP : va_P D CL [] H := hP
  have hD : va_D A [] := hD
  subst hw
  refine tpst (w := [.int (-1), .int (-1)]) rfl ?_
  refine lv_icmp_eq (tgt := 1768) G.1 G.2.1 d_Law_1021 (by decide) (fun c1021 => ?_) (fun c1021 => absurd c1021 (fun h => h rfl))
  refine lv_iinc (v := nI 6) (lv' := [(3, .int (nI 6)), (0, .ref b), (1, .ref h0), (2, .ref h0X)]) G.1 G.2.1 d_Law_1768 hl (k := 3) rfl (show (nI 0) + Int32.ofInt 6 = nI 6 from by decide) (by decide) rfl (fun ls hl => ?_)
  refine lv_goto (tgt := 18) G.1 G.2.1 d_Law_1771 (by decide) ?_
  refine lv_iload_n G.1 G.2.1 d_Law_18 rfl (lv_at hl 0 rfl) ?_
  refine lv_aload_n G.1 G.2.1 d_Law_19 rfl (lv_at hl 1 rfl) ?_
  refine va_slen G.1 G.2.1 hX hbl hbA hS d_Law_20 ?_
  refine tpi (w := nI 6) rfl ?_
  refine lv_bipush (v := nI 6) G.1 G.2.1 d_Law_21 (by decide) ?_
  refine lv_isub G.1 G.2.1 d_Law_23 ?_
  refine tpi (w := nI 0) (by decide) ?_
  refine lv_icmp_gt (tgt := 1774) G.1 G.2.1 d_Law_24 (by decide) (fun c24 => ?_) (fun c24 => absurd c24 (by decide))
  refine lv_iconst (v := nI 1) G.1 G.2.1 d_Law_1774 (by decide) ?_
  refine va_forget (fun q hq => hAA _ (hS.2.2 q hq)) ?_
  refine W.widen (k := 600002) (n := 7302232) (Nat.le_of_ble_eq_true rfl) (Nat.le_of_ble_eq_true rfl) ?_
  exact lw_ret G.1 G.2.1 G.2.2.2.1 G.2.2.2.2.1 d_Law_1775
