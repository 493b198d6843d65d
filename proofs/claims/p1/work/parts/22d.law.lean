theorem q2262 : Cond.code y_Cw_written b_Cw_written 2 (some .int) ∈ lw_ok := lw_okmem (List.mem_of_getElem? (i := 2262) (by decide +kernel)) rfl
theorem q2260 : Cond.instanceMethod y_Cw_written ∈ lw_ok := lw_okmem (List.mem_of_getElem? (i := 2260) (by decide +kernel)) rfl
theorem q2261 : Cond.selects y_Cw_written.cls y_Cw_written y_Cw_written ∈ lw_ok := lw_okmem (List.mem_of_getElem? (i := 2261) (by decide +kernel)) rfl
theorem w_Cw_written : CWv y_Cw_written b_Cw_written 2 (some .int) 1 ∧ Cond.instanceMethod y_Cw_written ∈ lw_ok ∧ Cond.selects y_Cw_written.cls y_Cw_written y_Cw_written ∈ lw_ok := ⟨⟨q2262, q329, by decide +kernel, by decide +kernel, by decide +kernel⟩, q2260, q2261⟩
theorem q2259 : Cond.methodLink "ClassWorksLaw" 108 y_Cw_written ∈ lw_ok := lw_okmem (List.mem_of_getElem? (i := 2259) (by decide +kernel)) rfl
theorem q4116 : Cond.code y_Mo_written b_Mo_written 2 (some .int) ∈ lw_ok := lw_okmem (List.mem_of_getElem? (i := 4116) (by decide +kernel)) rfl
theorem q4114 : Cond.instanceMethod y_Mo_written ∈ lw_ok := lw_okmem (List.mem_of_getElem? (i := 4114) (by decide +kernel)) rfl
theorem q4115 : Cond.selects y_Mo_written.cls y_Mo_written y_Mo_written ∈ lw_ok := lw_okmem (List.mem_of_getElem? (i := 4115) (by decide +kernel)) rfl
theorem w_Mo_written : CWv y_Mo_written b_Mo_written 2 (some .int) 1 ∧ Cond.instanceMethod y_Mo_written ∈ lw_ok ∧ Cond.selects y_Mo_written.cls y_Mo_written y_Mo_written ∈ lw_ok := ⟨⟨q4116, q348, by decide +kernel, by decide +kernel, by decide +kernel⟩, q4114, q4115⟩
theorem q4113 : Cond.methodLink "ClassWorksLaw" 111 y_Mo_written ∈ lw_ok := lw_okmem (List.mem_of_getElem? (i := 4113) (by decide +kernel)) rfl
theorem d_Law_1026 : decode code 1026 = .ok (.aload_n 1, 1) := by decide +kernel
theorem d_Law_1027 : decode code 1027 = .ok (.aload_n 0, 1) := by decide +kernel
theorem d_Law_1028 : decode code 1028 = .ok (.iload_n 3, 1) := by decide +kernel
theorem d_Law_1029 : decode code 1029 = .ok (.iconst 1, 1) := by decide +kernel
theorem d_Law_1030 : decode code 1030 = .ok (.iadd, 1) := by decide +kernel
theorem d_Law_1031 : decode code 1031 = .ok (.iaload, 1) := by decide +kernel
theorem d_Law_1032 : decode code 1032 = .ok (.invokevirtual 108, 3) := by decide +kernel
theorem d_Law_1035 : decode code 1035 = .ok (.aload_n 2, 1) := by decide +kernel
theorem d_Law_1036 : decode code 1036 = .ok (.aload_n 0, 1) := by decide +kernel
theorem d_Law_1037 : decode code 1037 = .ok (.iload_n 3, 1) := by decide +kernel
theorem d_Law_1038 : decode code 1038 = .ok (.iconst 1, 1) := by decide +kernel
theorem d_Law_1039 : decode code 1039 = .ok (.iadd, 1) := by decide +kernel
theorem d_Law_1040 : decode code 1040 = .ok (.iaload, 1) := by decide +kernel
theorem d_Law_1041 : decode code 1041 = .ok (.invokevirtual 111, 3) := by decide +kernel
theorem d_Law_1044 : decode code 1044 = .ok (.if_icmp .eq 724, 3) := by decide +kernel
set_option maxHeartbeats 4000000 in
set_option maxRecDepth 100000 in
theorem law_written {p : Program} {e : Env} {s : State} {m : MethodId} {below : List Frame} {meth : Method} {c : Code} {l : Launch} {D : va_G} {g : Nat → ClassId} {sl : List SL} {b : Nat} {xs : Nat → Int32} {A : Nat → Prop} (h0 : Nat) (r_cwords : Nat) (r_creader : Nat) (r_cchecker : Nat) (r_cfinder : Nat) (r_cwriter : Nat) (r_cmachines : Nat) (r_ctape : Nat) (r_cstock : Nat) (r_csizes : Nat) (r_cmet : Nat) (r_cfound : Nat) (r_cdraft : Nat) (r_cfewestFor : Nat) (r_cfewestNext : Nat) (r_oout : Nat) (r_onames : Nat) (f_ocls : Int32) (f_omethod : Int32) (f_oopen : Int32) (r_olabels : Nat) (i_oout : Nat) (h0X : Nat) (fsX : List Value) (G : GV l p s m #[Value.ref b] meth c (⟨"ClassWorksLaw", meth.name, ""⟩ : MethodName) code 4 ret g D sl A) (hX : va_X b 6 xs s s.heap) (hbl : b < s.heap.size) (hbA : ¬ A b) (hAA : ∀ q, A q → s.heap.size ≤ q) {H : Heap} {locs : List Loc} {ls : Array Slot} (glenX : fsX.length = 131) (gk0X : fsX[95]? = some (.int (nI 0))) (hP : va_P D CL [(h0, .inr (11, [.ref r_cwords, .ref r_creader, .ref r_cchecker, .ref r_cfinder, .ref r_cwriter, .ref r_cmachines, .ref r_ctape, .int (nI 0), .int (-2), .int (nI 60000), .ref r_cstock, .ref r_csizes, .ref r_cmet, .ref r_cfound, .int (nI 0), .ref r_cdraft, .int (nI 0), .int (nI 0), .ref r_cfewestFor, .ref r_cfewestNext])), (r_cwriter, .inr (10, [.ref r_oout, .ref r_onames, .null, .int f_ocls, .int f_omethod, .int f_oopen, .ref r_olabels])), (r_oout, .inr (3, [.ref i_oout, .int (nI 0)])), (h0X, .inr (14, fsX))] H) (hD : va_D A [(h0, .inr (11, [.ref r_cwords, .ref r_creader, .ref r_cchecker, .ref r_cfinder, .ref r_cwriter, .ref r_cmachines, .ref r_ctape, .int (nI 0), .int (-2), .int (nI 60000), .ref r_cstock, .ref r_csizes, .ref r_cmet, .ref r_cfound, .int (nI 0), .ref r_cdraft, .int (nI 0), .int (nI 0), .ref r_cfewestFor, .ref r_cfewestNext])), (r_cwriter, .inr (10, [.ref r_oout, .ref r_onames, .null, .int f_ocls, .int f_omethod, .int f_oopen, .ref r_olabels])), (r_oout, .inr (3, [.ref i_oout, .int (nI 0)])), (h0X, .inr (14, fsX))]) (hS : va_S A s.heap H locs) (hl : lv_has ls 4 [(0, .ref b), (1, .ref h0), (2, .ref h0X), (3, .int (nI 0))]) : W p l e room_1 s m #[Value.ref b] below meth c H locs 702 488194 (lw_Z below #[Value.ref b] s) (F0 m 1026 ls []) := by
  refine lv_aload_n G.1 G.2.1 d_Law_1026 rfl (lv_at hl 1 rfl) ?_
  refine lv_aload_n G.1 G.2.1 d_Law_1027 rfl (lv_at hl 0 rfl) ?_
  refine lv_iload_n G.1 G.2.1 d_Law_1028 rfl (lv_at hl 3 rfl) ?_
  refine lv_iconst (v := nI 1) G.1 G.2.1 d_Law_1029 (by decide) ?_
  refine lv_iadd G.1 G.2.1 d_Law_1030 ?_
  refine tpi (w := nI 1) (by decide) ?_
  refine va_sld G.1 G.2.1 hX hbl hbA hS (nI_inn (n := 6) (a := 1) (by decide) (by decide)) d_Law_1031 ?_
  refine tpi (w := (xs 1)) (by rw [nI_clamp (by decide)]) ?_
  refine kEi (wr := [(h0X, .inr (14, fsX))]) G (kV (As := [.int (xs 1)]) (rest := []) G hP hD hS [0, 1, 2] rfl rfl (c_Cw_written l D g h0 (xs 1) r_cwords r_creader r_cchecker r_cfinder r_cwriter r_cmachines r_ctape r_cstock r_csizes r_cmet r_cfound r_cdraft r_cfewestFor r_cfewestNext r_oout r_onames f_ocls f_omethod f_oopen r_olabels i_oout H.size ) w_Cw_written q2259 rfl rfl ⟨Nat.le_of_ble_eq_true rfl, Nat.le_of_ble_eq_true rfl⟩ (fun _ h => absurd h List.not_mem_nil) 0 (ci := 11) rfl rfl rfl hl.1 rfl (Nat.le_of_ble_eq_true rfl) rfl ⟨Nat.le_of_ble_eq_true rfl, (Nat.le_of_ble_eq_true rfl)⟩ d_Law_1032) hP hD hS [0, 1, 2] [3] rfl rfl rfl rfl (fun r_1 u_2 H locs hw hP hD hS hzH => ?_)
  have hw : r_1 = (-1) := hw
  have hP : va_P D CL [(h0X, .inr (14, fsX))] H := hP
  have hD : va_D A [(h0X, .inr (14, fsX))] := hD
  subst hw
  refine tpst (w := [.int (-1)]) rfl ?_
  refine lv_aload_n G.1 G.2.1 d_Law_1035 rfl (lv_at hl 2 rfl) ?_
  refine lv_aload_n G.1 G.2.1 d_Law_1036 rfl (lv_at hl 0 rfl) ?_
  refine lv_iload_n G.1 G.2.1 d_Law_1037 rfl (lv_at hl 3 rfl) ?_
  refine lv_iconst (v := nI 1) G.1 G.2.1 d_Law_1038 (by decide) ?_
  refine W.eq (g2 := F0 m 1039 ls [.int (nI 1), .int (nI 0), .ref b, .ref h0X, .int (-1)]) rfl ?_
  refine lv_iadd G.1 G.2.1 d_Law_1039 ?_
  refine tpi (w := nI 1) (by decide) ?_
  refine va_sld G.1 G.2.1 hX hbl hbA hS (nI_inn (n := 6) (a := 1) (by decide) (by decide)) d_Law_1040 ?_
  refine tpi (w := (xs 1)) (by rw [nI_clamp (by decide)]) ?_
  refine kEi (wr := []) G (kV (As := [.int (xs 1)]) (rest := [.int (-1)]) G hP hD hS [0] rfl rfl (c_Mo_written l D g h0X (xs 1) fsX H.size glenX gk0X) w_Mo_written q4113 rfl rfl ⟨Nat.le_of_ble_eq_true rfl, Nat.le_of_ble_eq_true rfl⟩ (fun _ h => absurd h List.not_mem_nil) 0 (ci := 14) rfl rfl rfl hl.1 rfl (Nat.le_of_ble_eq_true rfl) rfl ⟨Nat.le_of_ble_eq_true rfl, (Nat.le_of_ble_eq_true rfl)⟩ d_Law_1041) hP hD hS [0] [] rfl rfl rfl rfl (fun r_3 u_4 H locs hw hP hD hS hzH => ?_)
  have hw : r_3 = (-1) := hw
  have hP : va_P D CL [] H := hP
  have hD : va_D A [] := hD
  subst hw
  refine tpst (w := [.int (-1), .int (-1)]) rfl ?_
  refine lv_icmp_eq (tgt := 1768) G.1 G.2.1 d_Law_1044 (by decide) (fun c1044 => ?_) (fun c1044 => absurd c1044 (fun h => h rfl))
  refine lv_iinc (v := nI 6) (lv' := [(3, .int (nI 6)), (0, .ref b), (1, .ref h0), (2, .ref h0X)]) G.1 G.2.1 d_Law_1768 hl (k := 3) rfl (show (nI 0) + Int32.ofInt 6 = nI 6 from by decide) (by decide) rfl (fun ls hl => ?_)
  refine lv_goto (tgt := 18) G.1 G.2.1 d_Law_1771 (by decide) ?_
  refine lv_iload_n G.1 G.2.1 d_Law_18 rfl (lv_at hl 0 rfl) ?_
  refine lv_aload_n G.1 G.2.1 d_Law_19 rfl (lv_at hl 1 rfl) ?_
  refine va_slen G.1 G.2.1 hX hbl hbA hS d_Law_20 ?_
  refine tpi (w := nI 6) rfl ?_
  refine lv_bipush (v := nI 6) G.1 G.2.1 d_Law_21 (by decide) ?_
  refine lv_isub G.1 G.2.1 d_Law_23 ?_
  refine tpi (w := nI 0) (by decide) ?_
  refine lv_icmp_gt (tgt := 1774) G.1 G.2.1 d_Law_24 (by decide) (fun c24 => ?_) (fun c24 => absurd c24 (by decide))
  refine W.eq (g2 := F0 m 1774 ls []) rfl ?_
  refine lv_iconst (v := nI 1) G.1 G.2.1 d_Law_1774 (by decide) ?_
  refine va_forget (fun q hq => hAA _ (hS.2.2 q hq)) ?_
  refine W.widen (k := 600002) (n := 7302232) (Nat.le_of_ble_eq_true rfl) (Nat.le_of_ble_eq_true rfl) ?_
  exact lw_ret G.1 G.2.1 G.2.2.2.1 G.2.2.2.2.1 d_Law_1775
theorem q2266 : Cond.code y_Cw_kinds b_Cw_kinds 7 (some .int) ∈ lw_ok := lw_okmem (List.mem_of_getElem? (i := 2266) (by decide +kernel)) rfl
theorem q2264 : Cond.instanceMethod y_Cw_kinds ∈ lw_ok := lw_okmem (List.mem_of_getElem? (i := 2264) (by decide +kernel)) rfl
theorem q2265 : Cond.selects y_Cw_kinds.cls y_Cw_kinds y_Cw_kinds ∈ lw_ok := lw_okmem (List.mem_of_getElem? (i := 2265) (by decide +kernel)) rfl
theorem w_Cw_kinds : CWv y_Cw_kinds b_Cw_kinds 7 (some .int) 4 ∧ Cond.instanceMethod y_Cw_kinds ∈ lw_ok ∧ Cond.selects y_Cw_kinds.cls y_Cw_kinds y_Cw_kinds ∈ lw_ok := ⟨⟨q2266, q329, by decide +kernel, by decide +kernel, by decide +kernel⟩, q2264, q2265⟩
theorem q2263 : Cond.methodLink "ClassWorksLaw" 112 y_Cw_kinds ∈ lw_ok := lw_okmem (List.mem_of_getElem? (i := 2263) (by decide +kernel)) rfl
theorem q4120 : Cond.code y_Mo_kinds b_Mo_kinds 9 (some .int) ∈ lw_ok := lw_okmem (List.mem_of_getElem? (i := 4120) (by decide +kernel)) rfl
theorem q4118 : Cond.instanceMethod y_Mo_kinds ∈ lw_ok := lw_okmem (List.mem_of_getElem? (i := 4118) (by decide +kernel)) rfl
theorem q4119 : Cond.selects y_Mo_kinds.cls y_Mo_kinds y_Mo_kinds ∈ lw_ok := lw_okmem (List.mem_of_getElem? (i := 4119) (by decide +kernel)) rfl
theorem w_Mo_kinds : CWv y_Mo_kinds b_Mo_kinds 9 (some .int) 4 ∧ Cond.instanceMethod y_Mo_kinds ∈ lw_ok ∧ Cond.selects y_Mo_kinds.cls y_Mo_kinds y_Mo_kinds ∈ lw_ok := ⟨⟨q4120, q348, by decide +kernel, by decide +kernel, by decide +kernel⟩, q4118, q4119⟩
theorem q4117 : Cond.methodLink "ClassWorksLaw" 116 y_Mo_kinds ∈ lw_ok := lw_okmem (List.mem_of_getElem? (i := 4117) (by decide +kernel)) rfl
theorem d_Law_1049 : decode code 1049 = .ok (.aload_n 1, 1) := by decide +kernel
theorem d_Law_1050 : decode code 1050 = .ok (.aload_n 0, 1) := by decide +kernel
theorem d_Law_1051 : decode code 1051 = .ok (.iload_n 3, 1) := by decide +kernel
theorem d_Law_1052 : decode code 1052 = .ok (.iconst 1, 1) := by decide +kernel
theorem d_Law_1053 : decode code 1053 = .ok (.iadd, 1) := by decide +kernel
theorem d_Law_1054 : decode code 1054 = .ok (.iaload, 1) := by decide +kernel
theorem d_Law_1055 : decode code 1055 = .ok (.aload_n 0, 1) := by decide +kernel
theorem d_Law_1056 : decode code 1056 = .ok (.iload_n 3, 1) := by decide +kernel
theorem d_Law_1057 : decode code 1057 = .ok (.iconst 2, 1) := by decide +kernel
theorem d_Law_1058 : decode code 1058 = .ok (.iadd, 1) := by decide +kernel
theorem d_Law_1059 : decode code 1059 = .ok (.iaload, 1) := by decide +kernel
theorem d_Law_1060 : decode code 1060 = .ok (.aload_n 0, 1) := by decide +kernel
theorem d_Law_1061 : decode code 1061 = .ok (.iload_n 3, 1) := by decide +kernel
theorem d_Law_1062 : decode code 1062 = .ok (.iconst 3, 1) := by decide +kernel
theorem d_Law_1063 : decode code 1063 = .ok (.iadd, 1) := by decide +kernel
theorem d_Law_1064 : decode code 1064 = .ok (.iaload, 1) := by decide +kernel
theorem d_Law_1065 : decode code 1065 = .ok (.aload_n 0, 1) := by decide +kernel
theorem d_Law_1066 : decode code 1066 = .ok (.iload_n 3, 1) := by decide +kernel
theorem d_Law_1067 : decode code 1067 = .ok (.iconst 4, 1) := by decide +kernel
theorem d_Law_1068 : decode code 1068 = .ok (.iadd, 1) := by decide +kernel
theorem d_Law_1069 : decode code 1069 = .ok (.iaload, 1) := by decide +kernel
theorem d_Law_1070 : decode code 1070 = .ok (.ifCond .eq 7, 3) := by decide +kernel
theorem d_Law_1073 : decode code 1073 = .ok (.iconst 1, 1) := by decide +kernel
theorem d_Law_1074 : decode code 1074 = .ok (.goto 4, 3) := by decide +kernel
theorem d_Law_1077 : decode code 1077 = .ok (.iconst 0, 1) := by decide +kernel
theorem d_Law_1078 : decode code 1078 = .ok (.invokevirtual 112, 3) := by decide +kernel
theorem d_Law_1081 : decode code 1081 = .ok (.aload_n 2, 1) := by decide +kernel
theorem d_Law_1082 : decode code 1082 = .ok (.aload_n 0, 1) := by decide +kernel
theorem d_Law_1083 : decode code 1083 = .ok (.iload_n 3, 1) := by decide +kernel
theorem d_Law_1084 : decode code 1084 = .ok (.iconst 1, 1) := by decide +kernel
theorem d_Law_1085 : decode code 1085 = .ok (.iadd, 1) := by decide +kernel
theorem d_Law_1086 : decode code 1086 = .ok (.iaload, 1) := by decide +kernel
theorem d_Law_1087 : decode code 1087 = .ok (.aload_n 0, 1) := by decide +kernel
theorem d_Law_1088 : decode code 1088 = .ok (.iload_n 3, 1) := by decide +kernel
theorem d_Law_1089 : decode code 1089 = .ok (.iconst 2, 1) := by decide +kernel
theorem d_Law_1090 : decode code 1090 = .ok (.iadd, 1) := by decide +kernel
theorem d_Law_1091 : decode code 1091 = .ok (.iaload, 1) := by decide +kernel
theorem d_Law_1092 : decode code 1092 = .ok (.aload_n 0, 1) := by decide +kernel
theorem d_Law_1093 : decode code 1093 = .ok (.iload_n 3, 1) := by decide +kernel
theorem d_Law_1094 : decode code 1094 = .ok (.iconst 3, 1) := by decide +kernel
theorem d_Law_1095 : decode code 1095 = .ok (.iadd, 1) := by decide +kernel
theorem d_Law_1096 : decode code 1096 = .ok (.iaload, 1) := by decide +kernel
theorem d_Law_1097 : decode code 1097 = .ok (.aload_n 0, 1) := by decide +kernel
theorem d_Law_1098 : decode code 1098 = .ok (.iload_n 3, 1) := by decide +kernel
theorem d_Law_1099 : decode code 1099 = .ok (.iconst 4, 1) := by decide +kernel
theorem d_Law_1100 : decode code 1100 = .ok (.iadd, 1) := by decide +kernel
theorem d_Law_1101 : decode code 1101 = .ok (.iaload, 1) := by decide +kernel
theorem d_Law_1102 : decode code 1102 = .ok (.ifCond .eq 7, 3) := by decide +kernel
theorem d_Law_1105 : decode code 1105 = .ok (.iconst 1, 1) := by decide +kernel
theorem d_Law_1106 : decode code 1106 = .ok (.goto 4, 3) := by decide +kernel
theorem d_Law_1109 : decode code 1109 = .ok (.iconst 0, 1) := by decide +kernel
theorem d_Law_1110 : decode code 1110 = .ok (.invokevirtual 116, 3) := by decide +kernel
theorem d_Law_1113 : decode code 1113 = .ok (.if_icmp .eq 655, 3) := by decide +kernel
set_option maxHeartbeats 4000000 in
set_option maxRecDepth 100000 in
theorem law_kinds {p : Program} {e : Env} {s : State} {m : MethodId} {below : List Frame} {meth : Method} {c : Code} {l : Launch} {D : va_G} {g : Nat → ClassId} {sl : List SL} {b : Nat} {xs : Nat → Int32} {A : Nat → Prop} (h0 : Nat) (r_cwords : Nat) (r_creader : Nat) (r_cchecker : Nat) (r_cfinder : Nat) (r_cwriter : Nat) (r_cmachines : Nat) (r_ctape : Nat) (r_cstock : Nat) (r_csizes : Nat) (r_cmet : Nat) (r_cfound : Nat) (r_cdraft : Nat) (r_cfewestFor : Nat) (r_cfewestNext : Nat) (mm0 : Nat) (mm1 : Nat) (mm2 : Nat) (mm3 : Nat) (ww0 : Nat) (r_m0heap : Nat) (r_m0runs : Nat) (r_m0counts : Nat) (r_m0traceRow : Nat) (f_m0traceCount : Int32) (r_m0startedList : Nat) (f_m0startedCount : Int32) (f_m0present : Int32) (f_m0quantum : Int32) (f_m0stepsDone : Int32) (f_m0turnSteps : Int32) (f_m0turnMost : Int32) (f_m0turnOver : Int32) (r_m0finder : Nat) (r_m0names : Nat) (f_m0fault : Int32) (f_m0wanted : Int32) (f_m0thrown : Int32) (ww1 : Nat) (r_m1heap : Nat) (r_m1runs : Nat) (r_m1counts : Nat) (r_m1traceRow : Nat) (f_m1traceCount : Int32) (r_m1startedList : Nat) (f_m1startedCount : Int32) (f_m1present : Int32) (f_m1quantum : Int32) (f_m1stepsDone : Int32) (f_m1turnSteps : Int32) (f_m1turnMost : Int32) (f_m1turnOver : Int32) (r_m1finder : Nat) (r_m1names : Nat) (f_m1fault : Int32) (f_m1wanted : Int32) (f_m1thrown : Int32) (ww2 : Nat) (r_m2heap : Nat) (r_m2runs : Nat) (r_m2counts : Nat) (r_m2traceRow : Nat) (f_m2traceCount : Int32) (r_m2startedList : Nat) (f_m2startedCount : Int32) (f_m2present : Int32) (f_m2quantum : Int32) (f_m2stepsDone : Int32) (f_m2turnSteps : Int32) (f_m2turnMost : Int32) (f_m2turnOver : Int32) (r_m2finder : Nat) (r_m2names : Nat) (f_m2fault : Int32) (f_m2wanted : Int32) (f_m2thrown : Int32) (r_w0names : Nat) (f_w0wrongClass : Int32) (f_w0wrongMethod : Int32) (f_w0wrongAt : Int32) (r_w0rows : Nat) (r_w0above : Nat) (r_w0fields : Nat) (r_w0methods : Nat) (r_w0codes : Nat) (r_w0handlers : Nat) (r_w0extra : Nat) (r_w0orders : Nat) (r_w0classNamed : Nat) (f_w0breaks : Int32) (r_w0marks : Nat) (r_w1names : Nat) (f_w1wrongClass : Int32) (f_w1wrongMethod : Int32) (f_w1wrongAt : Int32) (r_w1rows : Nat) (r_w1above : Nat) (r_w1fields : Nat) (r_w1methods : Nat) (r_w1codes : Nat) (r_w1handlers : Nat) (r_w1extra : Nat) (r_w1orders : Nat) (r_w1classNamed : Nat) (f_w1breaks : Int32) (r_w1marks : Nat) (r_w2names : Nat) (f_w2wrongClass : Int32) (f_w2wrongMethod : Int32) (f_w2wrongAt : Int32) (r_w2rows : Nat) (r_w2above : Nat) (r_w2fields : Nat) (r_w2methods : Nat) (r_w2codes : Nat) (r_w2handlers : Nat) (r_w2extra : Nat) (r_w2orders : Nat) (r_w2classNamed : Nat) (f_w2breaks : Int32) (r_w2marks : Nat) (h0X : Nat) (fsX : List Value) (owX : Nat) (v0X : Nat) (v1X : Nat) (v2X : Nat) (v3X : Nat) (fw0X : List Value) (fw1X : List Value) (fw2X : List Value) (G : GV l p s m #[Value.ref b] meth c (⟨"ClassWorksLaw", meth.name, ""⟩ : MethodName) code 4 ret g D sl A) (hX : va_X b 6 xs s s.heap) (hbl : b < s.heap.size) (hbA : ¬ A b) (hAA : ∀ q, A q → s.heap.size ≤ q) {H : Heap} {locs : List Loc} {ls : Array Slot} (glenX : fsX.length = 131) (gk0X : fsX[44]? = some (.ref owX)) (gw0X : fw0X.length = 72) (gt0X : fw0X[0]? = some (.int (nI 0))) (gw1X : fw1X.length = 72) (gt1X : fw1X[0]? = some (.int (nI 0))) (gw2X : fw2X.length = 72) (gt2X : fw2X[0]? = some (.int (nI 0))) (hP : va_P D CL [(h0, .inr (11, [.ref r_cwords, .ref r_creader, .ref r_cchecker, .ref r_cfinder, .ref r_cwriter, .ref r_cmachines, .ref r_ctape, .int (nI 0), .int (-2), .int (nI 60000), .ref r_cstock, .ref r_csizes, .ref r_cmet, .ref r_cfound, .int (nI 0), .ref r_cdraft, .int (nI 0), .int (nI 0), .ref r_cfewestFor, .ref r_cfewestNext])), (r_cmachines, .inl (g 4, 4, .inr (.inr (.inr (.inr (va_up (va_up (va_up (va_up (fun _ => none) 0 (some mm0)) 1 (some mm1)) 2 (some mm2)) 3 (some mm3))))))), (mm0, .inr (4, [.ref ww0, .ref r_m0heap, .ref r_m0runs, .ref r_m0counts, .ref r_m0traceRow, .int f_m0traceCount, .ref r_m0startedList, .int f_m0startedCount, .int f_m0present, .int f_m0quantum, .int f_m0stepsDone, .int f_m0turnSteps, .int f_m0turnMost, .int f_m0turnOver, .ref r_m0finder, .ref r_m0names, .int f_m0fault, .int f_m0wanted, .int f_m0thrown])), (mm1, .inr (4, [.ref ww1, .ref r_m1heap, .ref r_m1runs, .ref r_m1counts, .ref r_m1traceRow, .int f_m1traceCount, .ref r_m1startedList, .int f_m1startedCount, .int f_m1present, .int f_m1quantum, .int f_m1stepsDone, .int f_m1turnSteps, .int f_m1turnMost, .int f_m1turnOver, .ref r_m1finder, .ref r_m1names, .int f_m1fault, .int f_m1wanted, .int f_m1thrown])), (mm2, .inr (4, [.ref ww2, .ref r_m2heap, .ref r_m2runs, .ref r_m2counts, .ref r_m2traceRow, .int f_m2traceCount, .ref r_m2startedList, .int f_m2startedCount, .int f_m2present, .int f_m2quantum, .int f_m2stepsDone, .int f_m2turnSteps, .int f_m2turnMost, .int f_m2turnOver, .ref r_m2finder, .ref r_m2names, .int f_m2fault, .int f_m2wanted, .int f_m2thrown])), (ww0, .inr (9, [.ref r_w0names, .int (nI 0), .int (nI 21), .int f_w0wrongClass, .int f_w0wrongMethod, .int f_w0wrongAt, .ref r_w0rows, .ref r_w0above, .ref r_w0fields, .ref r_w0methods, .ref r_w0codes, .ref r_w0handlers, .ref r_w0extra, .ref r_w0orders, .ref r_w0classNamed, .int f_w0breaks, .ref r_w0marks])), (ww1, .inr (9, [.ref r_w1names, .int (nI 0), .int (nI 21), .int f_w1wrongClass, .int f_w1wrongMethod, .int f_w1wrongAt, .ref r_w1rows, .ref r_w1above, .ref r_w1fields, .ref r_w1methods, .ref r_w1codes, .ref r_w1handlers, .ref r_w1extra, .ref r_w1orders, .ref r_w1classNamed, .int f_w1breaks, .ref r_w1marks])), (ww2, .inr (9, [.ref r_w2names, .int (nI 0), .int (nI 21), .int f_w2wrongClass, .int f_w2wrongMethod, .int f_w2wrongAt, .ref r_w2rows, .ref r_w2above, .ref r_w2fields, .ref r_w2methods, .ref r_w2codes, .ref r_w2handlers, .ref r_w2extra, .ref r_w2orders, .ref r_w2classNamed, .int f_w2breaks, .ref r_w2marks])), (h0X, .inr (14, fsX)), (owX, .inl (g 6, 4, .inr (.inr (.inr (.inr (va_up (va_up (va_up (va_up (fun _ => none) 0 (some v0X)) 1 (some v1X)) 2 (some v2X)) 3 (some v3X))))))), (v0X, .inr (13, fw0X)), (v1X, .inr (13, fw1X)), (v2X, .inr (13, fw2X))] H) (hD : va_D A [(h0, .inr (11, [.ref r_cwords, .ref r_creader, .ref r_cchecker, .ref r_cfinder, .ref r_cwriter, .ref r_cmachines, .ref r_ctape, .int (nI 0), .int (-2), .int (nI 60000), .ref r_cstock, .ref r_csizes, .ref r_cmet, .ref r_cfound, .int (nI 0), .ref r_cdraft, .int (nI 0), .int (nI 0), .ref r_cfewestFor, .ref r_cfewestNext])), (r_cmachines, .inl (g 4, 4, .inr (.inr (.inr (.inr (va_up (va_up (va_up (va_up (fun _ => none) 0 (some mm0)) 1 (some mm1)) 2 (some mm2)) 3 (some mm3))))))), (mm0, .inr (4, [.ref ww0, .ref r_m0heap, .ref r_m0runs, .ref r_m0counts, .ref r_m0traceRow, .int f_m0traceCount, .ref r_m0startedList, .int f_m0startedCount, .int f_m0present, .int f_m0quantum, .int f_m0stepsDone, .int f_m0turnSteps, .int f_m0turnMost, .int f_m0turnOver, .ref r_m0finder, .ref r_m0names, .int f_m0fault, .int f_m0wanted, .int f_m0thrown])), (mm1, .inr (4, [.ref ww1, .ref r_m1heap, .ref r_m1runs, .ref r_m1counts, .ref r_m1traceRow, .int f_m1traceCount, .ref r_m1startedList, .int f_m1startedCount, .int f_m1present, .int f_m1quantum, .int f_m1stepsDone, .int f_m1turnSteps, .int f_m1turnMost, .int f_m1turnOver, .ref r_m1finder, .ref r_m1names, .int f_m1fault, .int f_m1wanted, .int f_m1thrown])), (mm2, .inr (4, [.ref ww2, .ref r_m2heap, .ref r_m2runs, .ref r_m2counts, .ref r_m2traceRow, .int f_m2traceCount, .ref r_m2startedList, .int f_m2startedCount, .int f_m2present, .int f_m2quantum, .int f_m2stepsDone, .int f_m2turnSteps, .int f_m2turnMost, .int f_m2turnOver, .ref r_m2finder, .ref r_m2names, .int f_m2fault, .int f_m2wanted, .int f_m2thrown])), (ww0, .inr (9, [.ref r_w0names, .int (nI 0), .int (nI 21), .int f_w0wrongClass, .int f_w0wrongMethod, .int f_w0wrongAt, .ref r_w0rows, .ref r_w0above, .ref r_w0fields, .ref r_w0methods, .ref r_w0codes, .ref r_w0handlers, .ref r_w0extra, .ref r_w0orders, .ref r_w0classNamed, .int f_w0breaks, .ref r_w0marks])), (ww1, .inr (9, [.ref r_w1names, .int (nI 0), .int (nI 21), .int f_w1wrongClass, .int f_w1wrongMethod, .int f_w1wrongAt, .ref r_w1rows, .ref r_w1above, .ref r_w1fields, .ref r_w1methods, .ref r_w1codes, .ref r_w1handlers, .ref r_w1extra, .ref r_w1orders, .ref r_w1classNamed, .int f_w1breaks, .ref r_w1marks])), (ww2, .inr (9, [.ref r_w2names, .int (nI 0), .int (nI 21), .int f_w2wrongClass, .int f_w2wrongMethod, .int f_w2wrongAt, .ref r_w2rows, .ref r_w2above, .ref r_w2fields, .ref r_w2methods, .ref r_w2codes, .ref r_w2handlers, .ref r_w2extra, .ref r_w2orders, .ref r_w2classNamed, .int f_w2breaks, .ref r_w2marks])), (h0X, .inr (14, fsX)), (owX, .inl (g 6, 4, .inr (.inr (.inr (.inr (va_up (va_up (va_up (va_up (fun _ => none) 0 (some v0X)) 1 (some v1X)) 2 (some v2X)) 3 (some v3X))))))), (v0X, .inr (13, fw0X)), (v1X, .inr (13, fw1X)), (v2X, .inr (13, fw2X))]) (hS : va_S A s.heap H locs) (hl : lv_has ls 4 [(0, .ref b), (1, .ref h0), (2, .ref h0X), (3, .int (nI 0))]) : W p l e room_1 s m #[Value.ref b] below meth c H locs 702 488194 (lw_Z below #[Value.ref b] s) (F0 m 1049 ls []) := by
  refine lv_aload_n G.1 G.2.1 d_Law_1049 rfl (lv_at hl 1 rfl) ?_
  refine lv_aload_n G.1 G.2.1 d_Law_1050 rfl (lv_at hl 0 rfl) ?_
  refine lv_iload_n G.1 G.2.1 d_Law_1051 rfl (lv_at hl 3 rfl) ?_
  refine lv_iconst (v := nI 1) G.1 G.2.1 d_Law_1052 (by decide) ?_
  refine lv_iadd G.1 G.2.1 d_Law_1053 ?_
  refine tpi (w := nI 1) (by decide) ?_
  refine va_sld G.1 G.2.1 hX hbl hbA hS (nI_inn (n := 6) (a := 1) (by decide) (by decide)) d_Law_1054 ?_
  refine tpi (w := (xs 1)) (by rw [nI_clamp (by decide)]) ?_
  refine lv_aload_n G.1 G.2.1 d_Law_1055 rfl (lv_at hl 0 rfl) ?_
  refine lv_iload_n G.1 G.2.1 d_Law_1056 rfl (lv_at hl 3 rfl) ?_
  refine lv_iconst (v := nI 2) G.1 G.2.1 d_Law_1057 (by decide) ?_
  refine lv_iadd G.1 G.2.1 d_Law_1058 ?_
  refine tpi (w := nI 2) (by decide) ?_
  refine va_sld G.1 G.2.1 hX hbl hbA hS (nI_inn (n := 6) (a := 2) (by decide) (by decide)) d_Law_1059 ?_
  refine tpi (w := (xs 2)) (by rw [nI_clamp (by decide)]) ?_
  refine W.eq (g2 := F0 m 1060 ls [.int (xs 2), .int (xs 1), .ref h0]) rfl ?_
  refine lv_aload_n G.1 G.2.1 d_Law_1060 rfl (lv_at hl 0 rfl) ?_
  refine lv_iload_n G.1 G.2.1 d_Law_1061 rfl (lv_at hl 3 rfl) ?_
  refine lv_iconst (v := nI 3) G.1 G.2.1 d_Law_1062 (by decide) ?_
  refine lv_iadd G.1 G.2.1 d_Law_1063 ?_
  refine tpi (w := nI 3) (by decide) ?_
  refine va_sld G.1 G.2.1 hX hbl hbA hS (nI_inn (n := 6) (a := 3) (by decide) (by decide)) d_Law_1064 ?_
  refine tpi (w := (xs 3)) (by rw [nI_clamp (by decide)]) ?_
  refine lv_aload_n G.1 G.2.1 d_Law_1065 rfl (lv_at hl 0 rfl) ?_
  refine lv_iload_n G.1 G.2.1 d_Law_1066 rfl (lv_at hl 3 rfl) ?_
  refine lv_iconst (v := nI 4) G.1 G.2.1 d_Law_1067 (by decide) ?_
  refine lv_iadd G.1 G.2.1 d_Law_1068 ?_
  refine tpi (w := nI 4) (by decide) ?_
  refine va_sld G.1 G.2.1 hX hbl hbA hS (nI_inn (n := 6) (a := 4) (by decide) (by decide)) d_Law_1069 ?_
  refine tpi (w := (xs 4)) (by rw [nI_clamp (by decide)]) ?_
  refine lv_if_eq (tgt := 1077) G.1 G.2.1 d_Law_1070 (by decide) (fun c1070 => ?_) (fun c1070 => ?_)
  · skip
    refine lv_iconst (v := nI 0) G.1 G.2.1 d_Law_1077 (by decide) ?_
    refine W.eq (g2 := F0 m 1078 ls [.int (nI 0), .int (xs 3), .int (xs 2), .int (xs 1), .ref h0]) rfl ?_
    refine kEi (wr := [(h0X, .inr (14, fsX)), (owX, .inl (g 6, 4, .inr (.inr (.inr (.inr (va_up (va_up (va_up (va_up (fun _ => none) 0 (some v0X)) 1 (some v1X)) 2 (some v2X)) 3 (some v3X))))))), (v0X, .inr (13, fw0X)), (v1X, .inr (13, fw1X)), (v2X, .inr (13, fw2X))]) G (kV (As := [.int (xs 1), .int (xs 2), .int (xs 3), .int (nI 0)]) (rest := []) G hP hD hS [0, 1, 2, 3, 4, 5, 6, 7] rfl rfl (c_Cw_kinds l D g h0 (xs 1) (xs 2) (xs 3) (nI 0) r_cwords r_creader r_cchecker r_cfinder r_cwriter r_cmachines r_ctape r_cstock r_csizes r_cmet r_cfound r_cdraft r_cfewestFor r_cfewestNext mm0 mm1 mm2 mm3 ww0 r_m0heap r_m0runs r_m0counts r_m0traceRow f_m0traceCount r_m0startedList f_m0startedCount f_m0present f_m0quantum f_m0stepsDone f_m0turnSteps f_m0turnMost f_m0turnOver r_m0finder r_m0names f_m0fault f_m0wanted f_m0thrown ww1 r_m1heap r_m1runs r_m1counts r_m1traceRow f_m1traceCount r_m1startedList f_m1startedCount f_m1present f_m1quantum f_m1stepsDone f_m1turnSteps f_m1turnMost f_m1turnOver r_m1finder r_m1names f_m1fault f_m1wanted f_m1thrown ww2 r_m2heap r_m2runs r_m2counts r_m2traceRow f_m2traceCount r_m2startedList f_m2startedCount f_m2present f_m2quantum f_m2stepsDone f_m2turnSteps f_m2turnMost f_m2turnOver r_m2finder r_m2names f_m2fault f_m2wanted f_m2thrown r_w0names f_w0wrongClass f_w0wrongMethod f_w0wrongAt r_w0rows r_w0above r_w0fields r_w0methods r_w0codes r_w0handlers r_w0extra r_w0orders r_w0classNamed f_w0breaks r_w0marks r_w1names f_w1wrongClass f_w1wrongMethod f_w1wrongAt r_w1rows r_w1above r_w1fields r_w1methods r_w1codes r_w1handlers r_w1extra r_w1orders r_w1classNamed f_w1breaks r_w1marks r_w2names f_w2wrongClass f_w2wrongMethod f_w2wrongAt r_w2rows r_w2above r_w2fields r_w2methods r_w2codes r_w2handlers r_w2extra r_w2orders r_w2classNamed f_w2breaks r_w2marks H.size ) w_Cw_kinds q2263 rfl rfl ⟨Nat.le_of_ble_eq_true rfl, Nat.le_of_ble_eq_true rfl⟩ (fun _ h => absurd h List.not_mem_nil) 0 (ci := 11) rfl rfl rfl hl.1 rfl (Nat.le_of_ble_eq_true rfl) rfl ⟨Nat.le_of_ble_eq_true rfl, (Nat.le_of_ble_eq_true rfl)⟩ d_Law_1078) hP hD hS [0, 1, 2, 3, 4, 5, 6, 7] [8, 9, 10, 11, 12] rfl rfl rfl rfl (fun r_1 u_2 H locs hw hP hD hS hzH => ?_)
    have hw : r_1 = (-1) := hw
    have hP : va_P D CL [(h0X, .inr (14, fsX)), (owX, .inl (g 6, 4, .inr (.inr (.inr (.inr (va_up (va_up (va_up (va_up (fun _ => none) 0 (some v0X)) 1 (some v1X)) 2 (some v2X)) 3 (some v3X))))))), (v0X, .inr (13, fw0X)), (v1X, .inr (13, fw1X)), (v2X, .inr (13, fw2X))] H := hP
    have hD : va_D A [(h0X, .inr (14, fsX)), (owX, .inl (g 6, 4, .inr (.inr (.inr (.inr (va_up (va_up (va_up (va_up (fun _ => none) 0 (some v0X)) 1 (some v1X)) 2 (some v2X)) 3 (some v3X))))))), (v0X, .inr (13, fw0X)), (v1X, .inr (13, fw1X)), (v2X, .inr (13, fw2X))] := hD
    subst hw
    refine tpst (w := [.int (-1)]) rfl ?_
    refine lv_aload_n G.1 G.2.1 d_Law_1081 rfl (lv_at hl 2 rfl) ?_
    refine lv_aload_n G.1 G.2.1 d_Law_1082 rfl (lv_at hl 0 rfl) ?_
    refine lv_iload_n G.1 G.2.1 d_Law_1083 rfl (lv_at hl 3 rfl) ?_
    refine lv_iconst (v := nI 1) G.1 G.2.1 d_Law_1084 (by decide) ?_
    refine lv_iadd G.1 G.2.1 d_Law_1085 ?_
    refine tpi (w := nI 1) (by decide) ?_
    refine va_sld G.1 G.2.1 hX hbl hbA hS (nI_inn (n := 6) (a := 1) (by decide) (by decide)) d_Law_1086 ?_
    refine tpi (w := (xs 1)) (by rw [nI_clamp (by decide)]) ?_
    refine lv_aload_n G.1 G.2.1 d_Law_1087 rfl (lv_at hl 0 rfl) ?_
    refine lv_iload_n G.1 G.2.1 d_Law_1088 rfl (lv_at hl 3 rfl) ?_
    refine lv_iconst (v := nI 2) G.1 G.2.1 d_Law_1089 (by decide) ?_
    refine lv_iadd G.1 G.2.1 d_Law_1090 ?_
    refine tpi (w := nI 2) (by decide) ?_
    refine va_sld G.1 G.2.1 hX hbl hbA hS (nI_inn (n := 6) (a := 2) (by decide) (by decide)) d_Law_1091 ?_
    refine tpi (w := (xs 2)) (by rw [nI_clamp (by decide)]) ?_
    refine W.eq (g2 := F0 m 1092 ls [.int (xs 2), .int (xs 1), .ref h0X, .int (-1)]) rfl ?_
    refine lv_aload_n G.1 G.2.1 d_Law_1092 rfl (lv_at hl 0 rfl) ?_
    refine lv_iload_n G.1 G.2.1 d_Law_1093 rfl (lv_at hl 3 rfl) ?_
    refine lv_iconst (v := nI 3) G.1 G.2.1 d_Law_1094 (by decide) ?_
    refine lv_iadd G.1 G.2.1 d_Law_1095 ?_
    refine tpi (w := nI 3) (by decide) ?_
    refine va_sld G.1 G.2.1 hX hbl hbA hS (nI_inn (n := 6) (a := 3) (by decide) (by decide)) d_Law_1096 ?_
    refine tpi (w := (xs 3)) (by rw [nI_clamp (by decide)]) ?_
    refine lv_aload_n G.1 G.2.1 d_Law_1097 rfl (lv_at hl 0 rfl) ?_
    refine lv_iload_n G.1 G.2.1 d_Law_1098 rfl (lv_at hl 3 rfl) ?_
    refine lv_iconst (v := nI 4) G.1 G.2.1 d_Law_1099 (by decide) ?_
    refine lv_iadd G.1 G.2.1 d_Law_1100 ?_
    refine tpi (w := nI 4) (by decide) ?_
    refine va_sld G.1 G.2.1 hX hbl hbA hS (nI_inn (n := 6) (a := 4) (by decide) (by decide)) d_Law_1101 ?_
    refine tpi (w := (xs 4)) (by rw [nI_clamp (by decide)]) ?_
    refine lv_if_eq (tgt := 1109) G.1 G.2.1 d_Law_1102 (by decide) (fun c1102 => ?_) (fun c1102 => ?_)
    · skip
      refine lv_iconst (v := nI 0) G.1 G.2.1 d_Law_1109 (by decide) ?_
      refine W.eq (g2 := F0 m 1110 ls [.int (nI 0), .int (xs 3), .int (xs 2), .int (xs 1), .ref h0X, .int (-1)]) rfl ?_
      refine kEi (wr := []) G (kV (As := [.int (xs 1), .int (xs 2), .int (xs 3), .int (nI 0)]) (rest := [.int (-1)]) G hP hD hS [0, 1, 2, 3, 4] rfl rfl (c_Mo_kinds l D g h0X (xs 1) (xs 2) (xs 3) (nI 0) fsX owX v0X v1X v2X v3X fw0X fw1X fw2X H.size glenX gk0X gw0X gt0X gw1X gt1X gw2X gt2X) w_Mo_kinds q4117 rfl rfl ⟨Nat.le_of_ble_eq_true rfl, Nat.le_of_ble_eq_true rfl⟩ (fun _ h => absurd h List.not_mem_nil) 0 (ci := 14) rfl rfl rfl hl.1 rfl (Nat.le_of_ble_eq_true rfl) rfl ⟨Nat.le_of_ble_eq_true rfl, (Nat.le_of_ble_eq_true rfl)⟩ d_Law_1110) hP hD hS [0, 1, 2, 3, 4] [] rfl rfl rfl rfl (fun r_3 u_4 H locs hw hP hD hS hzH => ?_)
      have hw : r_3 = (-1) := hw
      have hP : va_P D CL [] H := hP
      have hD : va_D A [] := hD
      subst hw
      refine tpst (w := [.int (-1), .int (-1)]) rfl ?_
      refine lv_icmp_eq (tgt := 1768) G.1 G.2.1 d_Law_1113 (by decide) (fun c1113 => ?_) (fun c1113 => absurd c1113 (fun h => h rfl))
      refine lv_iinc (v := nI 6) (lv' := [(3, .int (nI 6)), (0, .ref b), (1, .ref h0), (2, .ref h0X)]) G.1 G.2.1 d_Law_1768 hl (k := 3) rfl (show (nI 0) + Int32.ofInt 6 = nI 6 from by decide) (by decide) rfl (fun ls hl => ?_)
      refine lv_goto (tgt := 18) G.1 G.2.1 d_Law_1771 (by decide) ?_
      refine lv_iload_n G.1 G.2.1 d_Law_18 rfl (lv_at hl 0 rfl) ?_
      refine lv_aload_n G.1 G.2.1 d_Law_19 rfl (lv_at hl 1 rfl) ?_
      refine va_slen G.1 G.2.1 hX hbl hbA hS d_Law_20 ?_
      refine tpi (w := nI 6) rfl ?_
      refine lv_bipush (v := nI 6) G.1 G.2.1 d_Law_21 (by decide) ?_
      refine lv_isub G.1 G.2.1 d_Law_23 ?_
      refine tpi (w := nI 0) (by decide) ?_
      refine lv_icmp_gt (tgt := 1774) G.1 G.2.1 d_Law_24 (by decide) (fun c24 => ?_) (fun c24 => absurd c24 (by decide))
      refine lv_iconst (v := nI 1) G.1 G.2.1 d_Law_1774 (by decide) ?_
      refine va_forget (fun q hq => hAA _ (hS.2.2 q hq)) ?_
      refine W.widen (k := 600002) (n := 7302232) (Nat.le_of_ble_eq_true rfl) (Nat.le_of_ble_eq_true rfl) ?_
      exact lw_ret G.1 G.2.1 G.2.2.2.1 G.2.2.2.2.1 d_Law_1775
    · skip
      refine lv_iconst (v := nI 1) G.1 G.2.1 d_Law_1105 (by decide) ?_
      refine W.eq (g2 := F0 m 1106 ls [.int (nI 1), .int (xs 3), .int (xs 2), .int (xs 1), .ref h0X, .int (-1)]) rfl ?_
      refine lv_goto (tgt := 1110) G.1 G.2.1 d_Law_1106 (by decide) ?_
      refine kEi (wr := []) G (kV (As := [.int (xs 1), .int (xs 2), .int (xs 3), .int (nI 1)]) (rest := [.int (-1)]) G hP hD hS [0, 1, 2, 3, 4] rfl rfl (c_Mo_kinds l D g h0X (xs 1) (xs 2) (xs 3) (nI 1) fsX owX v0X v1X v2X v3X fw0X fw1X fw2X H.size glenX gk0X gw0X gt0X gw1X gt1X gw2X gt2X) w_Mo_kinds q4117 rfl rfl ⟨Nat.le_of_ble_eq_true rfl, Nat.le_of_ble_eq_true rfl⟩ (fun _ h => absurd h List.not_mem_nil) 0 (ci := 14) rfl rfl rfl hl.1 rfl (Nat.le_of_ble_eq_true rfl) rfl ⟨Nat.le_of_ble_eq_true rfl, (Nat.le_of_ble_eq_true rfl)⟩ d_Law_1110) hP hD hS [0, 1, 2, 3, 4] [] rfl rfl rfl rfl (fun r_5 u_6 H locs hw hP hD hS hzH => ?_)
      have hw : r_5 = (-1) := hw
      have hP : va_P D CL [] H := hP
      have hD : va_D A [] := hD
      subst hw
      refine tpst (w := [.int (-1), .int (-1)]) rfl ?_
      refine lv_icmp_eq (tgt := 1768) G.1 G.2.1 d_Law_1113 (by decide) (fun c1113 => ?_) (fun c1113 => absurd c1113 (fun h => h rfl))
      refine lv_iinc (v := nI 6) (lv' := [(3, .int (nI 6)), (0, .ref b), (1, .ref h0), (2, .ref h0X)]) G.1 G.2.1 d_Law_1768 hl (k := 3) rfl (show (nI 0) + Int32.ofInt 6 = nI 6 from by decide) (by decide) rfl (fun ls hl => ?_)
      refine lv_goto (tgt := 18) G.1 G.2.1 d_Law_1771 (by decide) ?_
      refine lv_iload_n G.1 G.2.1 d_Law_18 rfl (lv_at hl 0 rfl) ?_
      refine lv_aload_n G.1 G.2.1 d_Law_19 rfl (lv_at hl 1 rfl) ?_
      refine va_slen G.1 G.2.1 hX hbl hbA hS d_Law_20 ?_
      refine tpi (w := nI 6) rfl ?_
      refine lv_bipush (v := nI 6) G.1 G.2.1 d_Law_21 (by decide) ?_
      refine lv_isub G.1 G.2.1 d_Law_23 ?_
      refine tpi (w := nI 0) (by decide) ?_
      refine lv_icmp_gt (tgt := 1774) G.1 G.2.1 d_Law_24 (by decide) (fun c24 => ?_) (fun c24 => absurd c24 (by decide))
      refine lv_iconst (v := nI 1) G.1 G.2.1 d_Law_1774 (by decide) ?_
      refine W.eq (g2 := F0 m 1775 ls [.int (nI 1)]) rfl ?_
      refine va_forget (fun q hq => hAA _ (hS.2.2 q hq)) ?_
      refine W.widen (k := 600002) (n := 7302232) (Nat.le_of_ble_eq_true rfl) (Nat.le_of_ble_eq_true rfl) ?_
      exact lw_ret G.1 G.2.1 G.2.2.2.1 G.2.2.2.2.1 d_Law_1775
  · skip
    refine lv_iconst (v := nI 1) G.1 G.2.1 d_Law_1073 (by decide) ?_
    refine W.eq (g2 := F0 m 1074 ls [.int (nI 1), .int (xs 3), .int (xs 2), .int (xs 1), .ref h0]) rfl ?_
    refine lv_goto (tgt := 1078) G.1 G.2.1 d_Law_1074 (by decide) ?_
    refine kEi (wr := [(h0X, .inr (14, fsX)), (owX, .inl (g 6, 4, .inr (.inr (.inr (.inr (va_up (va_up (va_up (va_up (fun _ => none) 0 (some v0X)) 1 (some v1X)) 2 (some v2X)) 3 (some v3X))))))), (v0X, .inr (13, fw0X)), (v1X, .inr (13, fw1X)), (v2X, .inr (13, fw2X))]) G (kV (As := [.int (xs 1), .int (xs 2), .int (xs 3), .int (nI 1)]) (rest := []) G hP hD hS [0, 1, 2, 3, 4, 5, 6, 7] rfl rfl (c_Cw_kinds l D g h0 (xs 1) (xs 2) (xs 3) (nI 1) r_cwords r_creader r_cchecker r_cfinder r_cwriter r_cmachines r_ctape r_cstock r_csizes r_cmet r_cfound r_cdraft r_cfewestFor r_cfewestNext mm0 mm1 mm2 mm3 ww0 r_m0heap r_m0runs r_m0counts r_m0traceRow f_m0traceCount r_m0startedList f_m0startedCount f_m0present f_m0quantum f_m0stepsDone f_m0turnSteps f_m0turnMost f_m0turnOver r_m0finder r_m0names f_m0fault f_m0wanted f_m0thrown ww1 r_m1heap r_m1runs r_m1counts r_m1traceRow f_m1traceCount r_m1startedList f_m1startedCount f_m1present f_m1quantum f_m1stepsDone f_m1turnSteps f_m1turnMost f_m1turnOver r_m1finder r_m1names f_m1fault f_m1wanted f_m1thrown ww2 r_m2heap r_m2runs r_m2counts r_m2traceRow f_m2traceCount r_m2startedList f_m2startedCount f_m2present f_m2quantum f_m2stepsDone f_m2turnSteps f_m2turnMost f_m2turnOver r_m2finder r_m2names f_m2fault f_m2wanted f_m2thrown r_w0names f_w0wrongClass f_w0wrongMethod f_w0wrongAt r_w0rows r_w0above r_w0fields r_w0methods r_w0codes r_w0handlers r_w0extra r_w0orders r_w0classNamed f_w0breaks r_w0marks r_w1names f_w1wrongClass f_w1wrongMethod f_w1wrongAt r_w1rows r_w1above r_w1fields r_w1methods r_w1codes r_w1handlers r_w1extra r_w1orders r_w1classNamed f_w1breaks r_w1marks r_w2names f_w2wrongClass f_w2wrongMethod f_w2wrongAt r_w2rows r_w2above r_w2fields r_w2methods r_w2codes r_w2handlers r_w2extra r_w2orders r_w2classNamed f_w2breaks r_w2marks H.size ) w_Cw_kinds q2263 rfl rfl ⟨Nat.le_of_ble_eq_true rfl, Nat.le_of_ble_eq_true rfl⟩ (fun _ h => absurd h List.not_mem_nil) 0 (ci := 11) rfl rfl rfl hl.1 rfl (Nat.le_of_ble_eq_true rfl) rfl ⟨Nat.le_of_ble_eq_true rfl, (Nat.le_of_ble_eq_true rfl)⟩ d_Law_1078) hP hD hS [0, 1, 2, 3, 4, 5, 6, 7] [8, 9, 10, 11, 12] rfl rfl rfl rfl (fun r_7 u_8 H locs hw hP hD hS hzH => ?_)
    have hw : r_7 = (-1) := hw
    have hP : va_P D CL [(h0X, .inr (14, fsX)), (owX, .inl (g 6, 4, .inr (.inr (.inr (.inr (va_up (va_up (va_up (va_up (fun _ => none) 0 (some v0X)) 1 (some v1X)) 2 (some v2X)) 3 (some v3X))))))), (v0X, .inr (13, fw0X)), (v1X, .inr (13, fw1X)), (v2X, .inr (13, fw2X))] H := hP
    have hD : va_D A [(h0X, .inr (14, fsX)), (owX, .inl (g 6, 4, .inr (.inr (.inr (.inr (va_up (va_up (va_up (va_up (fun _ => none) 0 (some v0X)) 1 (some v1X)) 2 (some v2X)) 3 (some v3X))))))), (v0X, .inr (13, fw0X)), (v1X, .inr (13, fw1X)), (v2X, .inr (13, fw2X))] := hD
    subst hw
    refine tpst (w := [.int (-1)]) rfl ?_
    refine lv_aload_n G.1 G.2.1 d_Law_1081 rfl (lv_at hl 2 rfl) ?_
    refine lv_aload_n G.1 G.2.1 d_Law_1082 rfl (lv_at hl 0 rfl) ?_
    refine lv_iload_n G.1 G.2.1 d_Law_1083 rfl (lv_at hl 3 rfl) ?_
    refine lv_iconst (v := nI 1) G.1 G.2.1 d_Law_1084 (by decide) ?_
    refine lv_iadd G.1 G.2.1 d_Law_1085 ?_
    refine tpi (w := nI 1) (by decide) ?_
    refine va_sld G.1 G.2.1 hX hbl hbA hS (nI_inn (n := 6) (a := 1) (by decide) (by decide)) d_Law_1086 ?_
    refine tpi (w := (xs 1)) (by rw [nI_clamp (by decide)]) ?_
    refine lv_aload_n G.1 G.2.1 d_Law_1087 rfl (lv_at hl 0 rfl) ?_
    refine lv_iload_n G.1 G.2.1 d_Law_1088 rfl (lv_at hl 3 rfl) ?_
    refine lv_iconst (v := nI 2) G.1 G.2.1 d_Law_1089 (by decide) ?_
    refine lv_iadd G.1 G.2.1 d_Law_1090 ?_
    refine tpi (w := nI 2) (by decide) ?_
    refine W.eq (g2 := F0 m 1091 ls [.int (nI 2), .ref b, .int (xs 1), .ref h0X, .int (-1)]) rfl ?_
    refine va_sld G.1 G.2.1 hX hbl hbA hS (nI_inn (n := 6) (a := 2) (by decide) (by decide)) d_Law_1091 ?_
    refine tpi (w := (xs 2)) (by rw [nI_clamp (by decide)]) ?_
    refine lv_aload_n G.1 G.2.1 d_Law_1092 rfl (lv_at hl 0 rfl) ?_
    refine lv_iload_n G.1 G.2.1 d_Law_1093 rfl (lv_at hl 3 rfl) ?_
    refine lv_iconst (v := nI 3) G.1 G.2.1 d_Law_1094 (by decide) ?_
    refine lv_iadd G.1 G.2.1 d_Law_1095 ?_
    refine tpi (w := nI 3) (by decide) ?_
    refine va_sld G.1 G.2.1 hX hbl hbA hS (nI_inn (n := 6) (a := 3) (by decide) (by decide)) d_Law_1096 ?_
    refine tpi (w := (xs 3)) (by rw [nI_clamp (by decide)]) ?_
    refine lv_aload_n G.1 G.2.1 d_Law_1097 rfl (lv_at hl 0 rfl) ?_
    refine lv_iload_n G.1 G.2.1 d_Law_1098 rfl (lv_at hl 3 rfl) ?_
    refine lv_iconst (v := nI 4) G.1 G.2.1 d_Law_1099 (by decide) ?_
    refine lv_iadd G.1 G.2.1 d_Law_1100 ?_
    refine tpi (w := nI 4) (by decide) ?_
    refine va_sld G.1 G.2.1 hX hbl hbA hS (nI_inn (n := 6) (a := 4) (by decide) (by decide)) d_Law_1101 ?_
    refine tpi (w := (xs 4)) (by rw [nI_clamp (by decide)]) ?_
    refine lv_if_eq (tgt := 1109) G.1 G.2.1 d_Law_1102 (by decide) (fun c1102 => ?_) (fun c1102 => ?_)
    · skip
      refine W.eq (g2 := F0 m 1109 ls [.int (xs 3), .int (xs 2), .int (xs 1), .ref h0X, .int (-1)]) rfl ?_
      refine lv_iconst (v := nI 0) G.1 G.2.1 d_Law_1109 (by decide) ?_
      refine kEi (wr := []) G (kV (As := [.int (xs 1), .int (xs 2), .int (xs 3), .int (nI 0)]) (rest := [.int (-1)]) G hP hD hS [0, 1, 2, 3, 4] rfl rfl (c_Mo_kinds l D g h0X (xs 1) (xs 2) (xs 3) (nI 0) fsX owX v0X v1X v2X v3X fw0X fw1X fw2X H.size glenX gk0X gw0X gt0X gw1X gt1X gw2X gt2X) w_Mo_kinds q4117 rfl rfl ⟨Nat.le_of_ble_eq_true rfl, Nat.le_of_ble_eq_true rfl⟩ (fun _ h => absurd h List.not_mem_nil) 0 (ci := 14) rfl rfl rfl hl.1 rfl (Nat.le_of_ble_eq_true rfl) rfl ⟨Nat.le_of_ble_eq_true rfl, (Nat.le_of_ble_eq_true rfl)⟩ d_Law_1110) hP hD hS [0, 1, 2, 3, 4] [] rfl rfl rfl rfl (fun r_9 u_10 H locs hw hP hD hS hzH => ?_)
      have hw : r_9 = (-1) := hw
      have hP : va_P D CL [] H := hP
      have hD : va_D A [] := hD
      subst hw
      refine tpst (w := [.int (-1), .int (-1)]) rfl ?_
      refine lv_icmp_eq (tgt := 1768) G.1 G.2.1 d_Law_1113 (by decide) (fun c1113 => ?_) (fun c1113 => absurd c1113 (fun h => h rfl))
      refine lv_iinc (v := nI 6) (lv' := [(3, .int (nI 6)), (0, .ref b), (1, .ref h0), (2, .ref h0X)]) G.1 G.2.1 d_Law_1768 hl (k := 3) rfl (show (nI 0) + Int32.ofInt 6 = nI 6 from by decide) (by decide) rfl (fun ls hl => ?_)
      refine lv_goto (tgt := 18) G.1 G.2.1 d_Law_1771 (by decide) ?_
      refine lv_iload_n G.1 G.2.1 d_Law_18 rfl (lv_at hl 0 rfl) ?_
      refine lv_aload_n G.1 G.2.1 d_Law_19 rfl (lv_at hl 1 rfl) ?_
      refine va_slen G.1 G.2.1 hX hbl hbA hS d_Law_20 ?_
      refine tpi (w := nI 6) rfl ?_
      refine lv_bipush (v := nI 6) G.1 G.2.1 d_Law_21 (by decide) ?_
      refine lv_isub G.1 G.2.1 d_Law_23 ?_
      refine tpi (w := nI 0) (by decide) ?_
      refine lv_icmp_gt (tgt := 1774) G.1 G.2.1 d_Law_24 (by decide) (fun c24 => ?_) (fun c24 => absurd c24 (by decide))
      refine lv_iconst (v := nI 1) G.1 G.2.1 d_Law_1774 (by decide) ?_
      refine W.eq (g2 := F0 m 1775 ls [.int (nI 1)]) rfl ?_
      refine va_forget (fun q hq => hAA _ (hS.2.2 q hq)) ?_
      refine W.widen (k := 600002) (n := 7302232) (Nat.le_of_ble_eq_true rfl) (Nat.le_of_ble_eq_true rfl) ?_
      exact lw_ret G.1 G.2.1 G.2.2.2.1 G.2.2.2.2.1 d_Law_1775
    · skip
      refine W.eq (g2 := F0 m 1105 ls [.int (xs 3), .int (xs 2), .int (xs 1), .ref h0X, .int (-1)]) rfl ?_
      refine lv_iconst (v := nI 1) G.1 G.2.1 d_Law_1105 (by decide) ?_
      refine lv_goto (tgt := 1110) G.1 G.2.1 d_Law_1106 (by decide) ?_
      refine kEi (wr := []) G (kV (As := [.int (xs 1), .int (xs 2), .int (xs 3), .int (nI 1)]) (rest := [.int (-1)]) G hP hD hS [0, 1, 2, 3, 4] rfl rfl (c_Mo_kinds l D g h0X (xs 1) (xs 2) (xs 3) (nI 1) fsX owX v0X v1X v2X v3X fw0X fw1X fw2X H.size glenX gk0X gw0X gt0X gw1X gt1X gw2X gt2X) w_Mo_kinds q4117 rfl rfl ⟨Nat.le_of_ble_eq_true rfl, Nat.le_of_ble_eq_true rfl⟩ (fun _ h => absurd h List.not_mem_nil) 0 (ci := 14) rfl rfl rfl hl.1 rfl (Nat.le_of_ble_eq_true rfl) rfl ⟨Nat.le_of_ble_eq_true rfl, (Nat.le_of_ble_eq_true rfl)⟩ d_Law_1110) hP hD hS [0, 1, 2, 3, 4] [] rfl rfl rfl rfl (fun r_11 u_12 H locs hw hP hD hS hzH => ?_)
      have hw : r_11 = (-1) := hw
      have hP : va_P D CL [] H := hP
      have hD : va_D A [] := hD
      subst hw
      refine tpst (w := [.int (-1), .int (-1)]) rfl ?_
      refine lv_icmp_eq (tgt := 1768) G.1 G.2.1 d_Law_1113 (by decide) (fun c1113 => ?_) (fun c1113 => absurd c1113 (fun h => h rfl))
      refine lv_iinc (v := nI 6) (lv' := [(3, .int (nI 6)), (0, .ref b), (1, .ref h0), (2, .ref h0X)]) G.1 G.2.1 d_Law_1768 hl (k := 3) rfl (show (nI 0) + Int32.ofInt 6 = nI 6 from by decide) (by decide) rfl (fun ls hl => ?_)
      refine lv_goto (tgt := 18) G.1 G.2.1 d_Law_1771 (by decide) ?_
      refine lv_iload_n G.1 G.2.1 d_Law_18 rfl (lv_at hl 0 rfl) ?_
      refine lv_aload_n G.1 G.2.1 d_Law_19 rfl (lv_at hl 1 rfl) ?_
      refine va_slen G.1 G.2.1 hX hbl hbA hS d_Law_20 ?_
      refine tpi (w := nI 6) rfl ?_
      refine lv_bipush (v := nI 6) G.1 G.2.1 d_Law_21 (by decide) ?_
      refine lv_isub G.1 G.2.1 d_Law_23 ?_
      refine tpi (w := nI 0) (by decide) ?_
      refine lv_icmp_gt (tgt := 1774) G.1 G.2.1 d_Law_24 (by decide) (fun c24 => ?_) (fun c24 => absurd c24 (by decide))
      refine W.eq (g2 := F0 m 1774 ls []) rfl ?_
      refine lv_iconst (v := nI 1) G.1 G.2.1 d_Law_1774 (by decide) ?_
      refine va_forget (fun q hq => hAA _ (hS.2.2 q hq)) ?_
      refine W.widen (k := 600002) (n := 7302232) (Nat.le_of_ble_eq_true rfl) (Nat.le_of_ble_eq_true rfl) ?_
      exact lw_ret G.1 G.2.1 G.2.2.2.1 G.2.2.2.2.1 d_Law_1775
theorem q2305 : Cond.code y_Cw_kind b_Cw_kind 3 (some .int) ∈ lw_ok := lw_okmem (List.mem_of_getElem? (i := 2305) (by decide +kernel)) rfl
theorem q2303 : Cond.instanceMethod y_Cw_kind ∈ lw_ok := lw_okmem (List.mem_of_getElem? (i := 2303) (by decide +kernel)) rfl
theorem q2304 : Cond.selects y_Cw_kind.cls y_Cw_kind y_Cw_kind ∈ lw_ok := lw_okmem (List.mem_of_getElem? (i := 2304) (by decide +kernel)) rfl
theorem w_Cw_kind : CWv y_Cw_kind b_Cw_kind 3 (some .int) 2 ∧ Cond.instanceMethod y_Cw_kind ∈ lw_ok ∧ Cond.selects y_Cw_kind.cls y_Cw_kind y_Cw_kind ∈ lw_ok := ⟨⟨q2305, q329, by decide +kernel, by decide +kernel, by decide +kernel⟩, q2303, q2304⟩
theorem q2302 : Cond.methodLink "ClassWorksLaw" 117 y_Cw_kind ∈ lw_ok := lw_okmem (List.mem_of_getElem? (i := 2302) (by decide +kernel)) rfl
theorem q4152 : Cond.code y_Mo_kind b_Mo_kind 3 (some .int) ∈ lw_ok := lw_okmem (List.mem_of_getElem? (i := 4152) (by decide +kernel)) rfl
theorem q4150 : Cond.instanceMethod y_Mo_kind ∈ lw_ok := lw_okmem (List.mem_of_getElem? (i := 4150) (by decide +kernel)) rfl
theorem q4151 : Cond.selects y_Mo_kind.cls y_Mo_kind y_Mo_kind ∈ lw_ok := lw_okmem (List.mem_of_getElem? (i := 4151) (by decide +kernel)) rfl
theorem w_Mo_kind : CWv y_Mo_kind b_Mo_kind 3 (some .int) 2 ∧ Cond.instanceMethod y_Mo_kind ∈ lw_ok ∧ Cond.selects y_Mo_kind.cls y_Mo_kind y_Mo_kind ∈ lw_ok := ⟨⟨q4152, q348, by decide +kernel, by decide +kernel, by decide +kernel⟩, q4150, q4151⟩
theorem q4149 : Cond.methodLink "ClassWorksLaw" 120 y_Mo_kind ∈ lw_ok := lw_okmem (List.mem_of_getElem? (i := 4149) (by decide +kernel)) rfl
theorem d_Law_1118 : decode code 1118 = .ok (.aload_n 1, 1) := by decide +kernel
theorem d_Law_1119 : decode code 1119 = .ok (.aload_n 0, 1) := by decide +kernel
theorem d_Law_1120 : decode code 1120 = .ok (.iload_n 3, 1) := by decide +kernel
theorem d_Law_1121 : decode code 1121 = .ok (.iconst 1, 1) := by decide +kernel
theorem d_Law_1122 : decode code 1122 = .ok (.iadd, 1) := by decide +kernel
theorem d_Law_1123 : decode code 1123 = .ok (.iaload, 1) := by decide +kernel
theorem d_Law_1124 : decode code 1124 = .ok (.aload_n 0, 1) := by decide +kernel
theorem d_Law_1125 : decode code 1125 = .ok (.iload_n 3, 1) := by decide +kernel
theorem d_Law_1126 : decode code 1126 = .ok (.iconst 2, 1) := by decide +kernel
theorem d_Law_1127 : decode code 1127 = .ok (.iadd, 1) := by decide +kernel
theorem d_Law_1128 : decode code 1128 = .ok (.iaload, 1) := by decide +kernel
theorem d_Law_1129 : decode code 1129 = .ok (.invokevirtual 117, 3) := by decide +kernel
theorem d_Law_1132 : decode code 1132 = .ok (.aload_n 2, 1) := by decide +kernel
theorem d_Law_1133 : decode code 1133 = .ok (.aload_n 0, 1) := by decide +kernel
theorem d_Law_1134 : decode code 1134 = .ok (.iload_n 3, 1) := by decide +kernel
theorem d_Law_1135 : decode code 1135 = .ok (.iconst 1, 1) := by decide +kernel
theorem d_Law_1136 : decode code 1136 = .ok (.iadd, 1) := by decide +kernel
theorem d_Law_1137 : decode code 1137 = .ok (.iaload, 1) := by decide +kernel
theorem d_Law_1138 : decode code 1138 = .ok (.aload_n 0, 1) := by decide +kernel
theorem d_Law_1139 : decode code 1139 = .ok (.iload_n 3, 1) := by decide +kernel
theorem d_Law_1140 : decode code 1140 = .ok (.iconst 2, 1) := by decide +kernel
theorem d_Law_1141 : decode code 1141 = .ok (.iadd, 1) := by decide +kernel
theorem d_Law_1142 : decode code 1142 = .ok (.iaload, 1) := by decide +kernel
theorem d_Law_1143 : decode code 1143 = .ok (.invokevirtual 120, 3) := by decide +kernel
theorem d_Law_1146 : decode code 1146 = .ok (.if_icmp .eq 622, 3) := by decide +kernel
set_option maxHeartbeats 4000000 in
set_option maxRecDepth 100000 in
theorem law_kind {p : Program} {e : Env} {s : State} {m : MethodId} {below : List Frame} {meth : Method} {c : Code} {l : Launch} {D : va_G} {g : Nat → ClassId} {sl : List SL} {b : Nat} {xs : Nat → Int32} {A : Nat → Prop} (h0 : Nat) (r_cwords : Nat) (r_creader : Nat) (r_cchecker : Nat) (r_cfinder : Nat) (r_cwriter : Nat) (r_cmachines : Nat) (r_ctape : Nat) (r_cstock : Nat) (r_csizes : Nat) (r_cmet : Nat) (r_cfound : Nat) (r_cdraft : Nat) (r_cfewestFor : Nat) (r_cfewestNext : Nat) (f_kspot : Int32) (f_kspotMethod : Int32) (r_knames : Nat) (f_kcls : Int32) (f_kcode0 : Int32) (f_kcodes : Int32) (f_klocals : Int32) (f_kstack : Int32) (f_kresult : Int32) (f_kinMake : Int32) (f_krow : Int32) (f_kop : Int32) (f_kwants : Int32) (f_kmakes : Int32) (r_know : Nat) (f_kdepth : Int32) (f_kchanged : Int32) (r_kknown : Nat) (r_kdepths : Nat) (f_ktoldLocals : Int32) (h0X : Nat) (fsX : List Value) (G : GV l p s m #[Value.ref b] meth c (⟨"ClassWorksLaw", meth.name, ""⟩ : MethodName) code 4 ret g D sl A) (hX : va_X b 6 xs s s.heap) (hbl : b < s.heap.size) (hbA : ¬ A b) (hAA : ∀ q, A q → s.heap.size ≤ q) {H : Heap} {locs : List Loc} {ls : Array Slot} (glenX : fsX.length = 131) (gk0X : fsX[101]? = some (.int (nI 0))) (hP : va_P D CL [(h0, .inr (11, [.ref r_cwords, .ref r_creader, .ref r_cchecker, .ref r_cfinder, .ref r_cwriter, .ref r_cmachines, .ref r_ctape, .int (nI 0), .int (-2), .int (nI 60000), .ref r_cstock, .ref r_csizes, .ref r_cmet, .ref r_cfound, .int (nI 0), .ref r_cdraft, .int (nI 0), .int (nI 0), .ref r_cfewestFor, .ref r_cfewestNext])), (r_cchecker, .inr (0, [.int f_kspot, .int f_kspotMethod, .ref r_knames, .null, .int f_kcls, .int f_kcode0, .int f_kcodes, .int f_klocals, .int f_kstack, .int f_kresult, .int f_kinMake, .int f_krow, .int f_kop, .int f_kwants, .int f_kmakes, .ref r_know, .int f_kdepth, .int f_kchanged, .ref r_kknown, .ref r_kdepths, .int (nI 0), .int f_ktoldLocals])), (h0X, .inr (14, fsX))] H) (hD : va_D A [(h0, .inr (11, [.ref r_cwords, .ref r_creader, .ref r_cchecker, .ref r_cfinder, .ref r_cwriter, .ref r_cmachines, .ref r_ctape, .int (nI 0), .int (-2), .int (nI 60000), .ref r_cstock, .ref r_csizes, .ref r_cmet, .ref r_cfound, .int (nI 0), .ref r_cdraft, .int (nI 0), .int (nI 0), .ref r_cfewestFor, .ref r_cfewestNext])), (r_cchecker, .inr (0, [.int f_kspot, .int f_kspotMethod, .ref r_knames, .null, .int f_kcls, .int f_kcode0, .int f_kcodes, .int f_klocals, .int f_kstack, .int f_kresult, .int f_kinMake, .int f_krow, .int f_kop, .int f_kwants, .int f_kmakes, .ref r_know, .int f_kdepth, .int f_kchanged, .ref r_kknown, .ref r_kdepths, .int (nI 0), .int f_ktoldLocals])), (h0X, .inr (14, fsX))]) (hS : va_S A s.heap H locs) (hl : lv_has ls 4 [(0, .ref b), (1, .ref h0), (2, .ref h0X), (3, .int (nI 0))]) : W p l e room_1 s m #[Value.ref b] below meth c H locs 702 488194 (lw_Z below #[Value.ref b] s) (F0 m 1118 ls []) := by
  refine lv_aload_n G.1 G.2.1 d_Law_1118 rfl (lv_at hl 1 rfl) ?_
  refine lv_aload_n G.1 G.2.1 d_Law_1119 rfl (lv_at hl 0 rfl) ?_
  refine lv_iload_n G.1 G.2.1 d_Law_1120 rfl (lv_at hl 3 rfl) ?_
  refine lv_iconst (v := nI 1) G.1 G.2.1 d_Law_1121 (by decide) ?_
  refine lv_iadd G.1 G.2.1 d_Law_1122 ?_
  refine tpi (w := nI 1) (by decide) ?_
  refine va_sld G.1 G.2.1 hX hbl hbA hS (nI_inn (n := 6) (a := 1) (by decide) (by decide)) d_Law_1123 ?_
  refine tpi (w := (xs 1)) (by rw [nI_clamp (by decide)]) ?_
  refine lv_aload_n G.1 G.2.1 d_Law_1124 rfl (lv_at hl 0 rfl) ?_
  refine lv_iload_n G.1 G.2.1 d_Law_1125 rfl (lv_at hl 3 rfl) ?_
  refine lv_iconst (v := nI 2) G.1 G.2.1 d_Law_1126 (by decide) ?_
  refine lv_iadd G.1 G.2.1 d_Law_1127 ?_
  refine tpi (w := nI 2) (by decide) ?_
  refine va_sld G.1 G.2.1 hX hbl hbA hS (nI_inn (n := 6) (a := 2) (by decide) (by decide)) d_Law_1128 ?_
  refine tpi (w := (xs 2)) (by rw [nI_clamp (by decide)]) ?_
  refine W.eq (g2 := F0 m 1129 ls [.int (xs 2), .int (xs 1), .ref h0]) rfl ?_
  refine kEi (wr := [(h0X, .inr (14, fsX))]) G (kV (As := [.int (xs 1), .int (xs 2)]) (rest := []) G hP hD hS [0, 1] rfl rfl (c_Cw_kind l D g h0 (xs 1) (xs 2) r_cwords r_creader r_cchecker r_cfinder r_cwriter r_cmachines r_ctape r_cstock r_csizes r_cmet r_cfound r_cdraft r_cfewestFor r_cfewestNext f_kspot f_kspotMethod r_knames f_kcls f_kcode0 f_kcodes f_klocals f_kstack f_kresult f_kinMake f_krow f_kop f_kwants f_kmakes r_know f_kdepth f_kchanged r_kknown r_kdepths f_ktoldLocals H.size ) w_Cw_kind q2302 rfl rfl ⟨Nat.le_of_ble_eq_true rfl, Nat.le_of_ble_eq_true rfl⟩ (fun _ h => absurd h List.not_mem_nil) 0 (ci := 11) rfl rfl rfl hl.1 rfl (Nat.le_of_ble_eq_true rfl) rfl ⟨Nat.le_of_ble_eq_true rfl, (Nat.le_of_ble_eq_true rfl)⟩ d_Law_1129) hP hD hS [0, 1] [2] rfl rfl rfl rfl (fun r_1 u_2 H locs hw hP hD hS hzH => ?_)
  have hw : r_1 = (-1) := hw
  have hP : va_P D CL [(h0X, .inr (14, fsX))] H := hP
  have hD : va_D A [(h0X, .inr (14, fsX))] := hD
  subst hw
  refine tpst (w := [.int (-1)]) rfl ?_
  refine lv_aload_n G.1 G.2.1 d_Law_1132 rfl (lv_at hl 2 rfl) ?_
  refine lv_aload_n G.1 G.2.1 d_Law_1133 rfl (lv_at hl 0 rfl) ?_
  refine lv_iload_n G.1 G.2.1 d_Law_1134 rfl (lv_at hl 3 rfl) ?_
  refine lv_iconst (v := nI 1) G.1 G.2.1 d_Law_1135 (by decide) ?_
  refine lv_iadd G.1 G.2.1 d_Law_1136 ?_
  refine tpi (w := nI 1) (by decide) ?_
  refine va_sld G.1 G.2.1 hX hbl hbA hS (nI_inn (n := 6) (a := 1) (by decide) (by decide)) d_Law_1137 ?_
  refine tpi (w := (xs 1)) (by rw [nI_clamp (by decide)]) ?_
  refine lv_aload_n G.1 G.2.1 d_Law_1138 rfl (lv_at hl 0 rfl) ?_
  refine lv_iload_n G.1 G.2.1 d_Law_1139 rfl (lv_at hl 3 rfl) ?_
  refine lv_iconst (v := nI 2) G.1 G.2.1 d_Law_1140 (by decide) ?_
  refine lv_iadd G.1 G.2.1 d_Law_1141 ?_
  refine tpi (w := nI 2) (by decide) ?_
  refine va_sld G.1 G.2.1 hX hbl hbA hS (nI_inn (n := 6) (a := 2) (by decide) (by decide)) d_Law_1142 ?_
  refine tpi (w := (xs 2)) (by rw [nI_clamp (by decide)]) ?_
  refine W.eq (g2 := F0 m 1143 ls [.int (xs 2), .int (xs 1), .ref h0X, .int (-1)]) rfl ?_
  refine kEi (wr := []) G (kV (As := [.int (xs 1), .int (xs 2)]) (rest := [.int (-1)]) G hP hD hS [0] rfl rfl (c_Mo_kind l D g h0X (xs 1) (xs 2) fsX H.size glenX gk0X) w_Mo_kind q4149 rfl rfl ⟨Nat.le_of_ble_eq_true rfl, Nat.le_of_ble_eq_true rfl⟩ (fun _ h => absurd h List.not_mem_nil) 0 (ci := 14) rfl rfl rfl hl.1 rfl (Nat.le_of_ble_eq_true rfl) rfl ⟨Nat.le_of_ble_eq_true rfl, (Nat.le_of_ble_eq_true rfl)⟩ d_Law_1143) hP hD hS [0] [] rfl rfl rfl rfl (fun r_3 u_4 H locs hw hP hD hS hzH => ?_)
  have hw : r_3 = (-1) := hw
  have hP : va_P D CL [] H := hP
  have hD : va_D A [] := hD
  subst hw
  refine tpst (w := [.int (-1), .int (-1)]) rfl ?_
  refine lv_icmp_eq (tgt := 1768) G.1 G.2.1 d_Law_1146 (by decide) (fun c1146 => ?_) (fun c1146 => absurd c1146 (fun h => h rfl))
  refine lv_iinc (v := nI 6) (lv' := [(3, .int (nI 6)), (0, .ref b), (1, .ref h0), (2, .ref h0X)]) G.1 G.2.1 d_Law_1768 hl (k := 3) rfl (show (nI 0) + Int32.ofInt 6 = nI 6 from by decide) (by decide) rfl (fun ls hl => ?_)
  refine lv_goto (tgt := 18) G.1 G.2.1 d_Law_1771 (by decide) ?_
  refine lv_iload_n G.1 G.2.1 d_Law_18 rfl (lv_at hl 0 rfl) ?_
  refine lv_aload_n G.1 G.2.1 d_Law_19 rfl (lv_at hl 1 rfl) ?_
  refine va_slen G.1 G.2.1 hX hbl hbA hS d_Law_20 ?_
  refine tpi (w := nI 6) rfl ?_
  refine lv_bipush (v := nI 6) G.1 G.2.1 d_Law_21 (by decide) ?_
  refine lv_isub G.1 G.2.1 d_Law_23 ?_
  refine tpi (w := nI 0) (by decide) ?_
  refine lv_icmp_gt (tgt := 1774) G.1 G.2.1 d_Law_24 (by decide) (fun c24 => ?_) (fun c24 => absurd c24 (by decide))
  refine lv_iconst (v := nI 1) G.1 G.2.1 d_Law_1774 (by decide) ?_
  refine va_forget (fun q hq => hAA _ (hS.2.2 q hq)) ?_
  refine W.widen (k := 600002) (n := 7302232) (Nat.le_of_ble_eq_true rfl) (Nat.le_of_ble_eq_true rfl) ?_
  exact lw_ret G.1 G.2.1 G.2.2.2.1 G.2.2.2.2.1 d_Law_1775
theorem q2313 : Cond.code y_Cw_foretell b_Cw_foretell 10 (some .int) ∈ lw_ok := lw_okmem (List.mem_of_getElem? (i := 2313) (by decide +kernel)) rfl
theorem q2311 : Cond.instanceMethod y_Cw_foretell ∈ lw_ok := lw_okmem (List.mem_of_getElem? (i := 2311) (by decide +kernel)) rfl
theorem q2312 : Cond.selects y_Cw_foretell.cls y_Cw_foretell y_Cw_foretell ∈ lw_ok := lw_okmem (List.mem_of_getElem? (i := 2312) (by decide +kernel)) rfl
theorem w_Cw_foretell : CWv y_Cw_foretell b_Cw_foretell 10 (some .int) 4 ∧ Cond.instanceMethod y_Cw_foretell ∈ lw_ok ∧ Cond.selects y_Cw_foretell.cls y_Cw_foretell y_Cw_foretell ∈ lw_ok := ⟨⟨q2313, q329, by decide +kernel, by decide +kernel, by decide +kernel⟩, q2311, q2312⟩
theorem q2310 : Cond.methodLink "ClassWorksLaw" 121 y_Cw_foretell ∈ lw_ok := lw_okmem (List.mem_of_getElem? (i := 2310) (by decide +kernel)) rfl
theorem q4156 : Cond.code y_Mo_foretell b_Mo_foretell 10 (some .int) ∈ lw_ok := lw_okmem (List.mem_of_getElem? (i := 4156) (by decide +kernel)) rfl
theorem q4154 : Cond.instanceMethod y_Mo_foretell ∈ lw_ok := lw_okmem (List.mem_of_getElem? (i := 4154) (by decide +kernel)) rfl
theorem q4155 : Cond.selects y_Mo_foretell.cls y_Mo_foretell y_Mo_foretell ∈ lw_ok := lw_okmem (List.mem_of_getElem? (i := 4155) (by decide +kernel)) rfl
theorem w_Mo_foretell : CWv y_Mo_foretell b_Mo_foretell 10 (some .int) 4 ∧ Cond.instanceMethod y_Mo_foretell ∈ lw_ok ∧ Cond.selects y_Mo_foretell.cls y_Mo_foretell y_Mo_foretell ∈ lw_ok := ⟨⟨q4156, q348, by decide +kernel, by decide +kernel, by decide +kernel⟩, q4154, q4155⟩
theorem q4153 : Cond.methodLink "ClassWorksLaw" 124 y_Mo_foretell ∈ lw_ok := lw_okmem (List.mem_of_getElem? (i := 4153) (by decide +kernel)) rfl
theorem d_Law_1151 : decode code 1151 = .ok (.aload_n 1, 1) := by decide +kernel
theorem d_Law_1152 : decode code 1152 = .ok (.aload_n 0, 1) := by decide +kernel
theorem d_Law_1153 : decode code 1153 = .ok (.iload_n 3, 1) := by decide +kernel
theorem d_Law_1154 : decode code 1154 = .ok (.iconst 1, 1) := by decide +kernel
theorem d_Law_1155 : decode code 1155 = .ok (.iadd, 1) := by decide +kernel
theorem d_Law_1156 : decode code 1156 = .ok (.iaload, 1) := by decide +kernel
theorem d_Law_1157 : decode code 1157 = .ok (.aload_n 0, 1) := by decide +kernel
theorem d_Law_1158 : decode code 1158 = .ok (.iload_n 3, 1) := by decide +kernel
theorem d_Law_1159 : decode code 1159 = .ok (.iconst 2, 1) := by decide +kernel
theorem d_Law_1160 : decode code 1160 = .ok (.iadd, 1) := by decide +kernel
theorem d_Law_1161 : decode code 1161 = .ok (.iaload, 1) := by decide +kernel
theorem d_Law_1162 : decode code 1162 = .ok (.aload_n 0, 1) := by decide +kernel
theorem d_Law_1163 : decode code 1163 = .ok (.iload_n 3, 1) := by decide +kernel
theorem d_Law_1164 : decode code 1164 = .ok (.iconst 3, 1) := by decide +kernel
theorem d_Law_1165 : decode code 1165 = .ok (.iadd, 1) := by decide +kernel
theorem d_Law_1166 : decode code 1166 = .ok (.iaload, 1) := by decide +kernel
theorem d_Law_1167 : decode code 1167 = .ok (.aload_n 0, 1) := by decide +kernel
theorem d_Law_1168 : decode code 1168 = .ok (.iload_n 3, 1) := by decide +kernel
theorem d_Law_1169 : decode code 1169 = .ok (.iconst 4, 1) := by decide +kernel
theorem d_Law_1170 : decode code 1170 = .ok (.iadd, 1) := by decide +kernel
theorem d_Law_1171 : decode code 1171 = .ok (.iaload, 1) := by decide +kernel
theorem d_Law_1172 : decode code 1172 = .ok (.invokevirtual 121, 3) := by decide +kernel
theorem d_Law_1175 : decode code 1175 = .ok (.aload_n 2, 1) := by decide +kernel
theorem d_Law_1176 : decode code 1176 = .ok (.aload_n 0, 1) := by decide +kernel
theorem d_Law_1177 : decode code 1177 = .ok (.iload_n 3, 1) := by decide +kernel
theorem d_Law_1178 : decode code 1178 = .ok (.iconst 1, 1) := by decide +kernel
theorem d_Law_1179 : decode code 1179 = .ok (.iadd, 1) := by decide +kernel
theorem d_Law_1180 : decode code 1180 = .ok (.iaload, 1) := by decide +kernel
theorem d_Law_1181 : decode code 1181 = .ok (.aload_n 0, 1) := by decide +kernel
theorem d_Law_1182 : decode code 1182 = .ok (.iload_n 3, 1) := by decide +kernel
theorem d_Law_1183 : decode code 1183 = .ok (.iconst 2, 1) := by decide +kernel
theorem d_Law_1184 : decode code 1184 = .ok (.iadd, 1) := by decide +kernel
theorem d_Law_1185 : decode code 1185 = .ok (.iaload, 1) := by decide +kernel
theorem d_Law_1186 : decode code 1186 = .ok (.aload_n 0, 1) := by decide +kernel
theorem d_Law_1187 : decode code 1187 = .ok (.iload_n 3, 1) := by decide +kernel
theorem d_Law_1188 : decode code 1188 = .ok (.iconst 3, 1) := by decide +kernel
theorem d_Law_1189 : decode code 1189 = .ok (.iadd, 1) := by decide +kernel
theorem d_Law_1190 : decode code 1190 = .ok (.iaload, 1) := by decide +kernel
theorem d_Law_1191 : decode code 1191 = .ok (.aload_n 0, 1) := by decide +kernel
theorem d_Law_1192 : decode code 1192 = .ok (.iload_n 3, 1) := by decide +kernel
theorem d_Law_1193 : decode code 1193 = .ok (.iconst 4, 1) := by decide +kernel
theorem d_Law_1194 : decode code 1194 = .ok (.iadd, 1) := by decide +kernel
theorem d_Law_1195 : decode code 1195 = .ok (.iaload, 1) := by decide +kernel
theorem d_Law_1196 : decode code 1196 = .ok (.invokevirtual 124, 3) := by decide +kernel
theorem d_Law_1199 : decode code 1199 = .ok (.if_icmp .eq 569, 3) := by decide +kernel
set_option maxHeartbeats 4000000 in
set_option maxRecDepth 100000 in
theorem law_foretell {p : Program} {e : Env} {s : State} {m : MethodId} {below : List Frame} {meth : Method} {c : Code} {l : Launch} {D : va_G} {g : Nat → ClassId} {sl : List SL} {b : Nat} {xs : Nat → Int32} {A : Nat → Prop} (h0 : Nat) (r_cwords : Nat) (r_creader : Nat) (r_cchecker : Nat) (r_cfinder : Nat) (r_cwriter : Nat) (r_cmachines : Nat) (r_ctape : Nat) (r_cstock : Nat) (r_csizes : Nat) (r_cmet : Nat) (r_cfound : Nat) (r_cdraft : Nat) (r_cfewestFor : Nat) (r_cfewestNext : Nat) (mm0 : Nat) (mm1 : Nat) (mm2 : Nat) (mm3 : Nat) (ww0 : Nat) (r_m0heap : Nat) (r_m0runs : Nat) (r_m0counts : Nat) (r_m0traceRow : Nat) (f_m0traceCount : Int32) (r_m0startedList : Nat) (f_m0startedCount : Int32) (f_m0present : Int32) (f_m0quantum : Int32) (f_m0stepsDone : Int32) (f_m0turnSteps : Int32) (f_m0turnMost : Int32) (f_m0turnOver : Int32) (r_m0finder : Nat) (r_m0names : Nat) (f_m0fault : Int32) (f_m0wanted : Int32) (f_m0thrown : Int32) (ww1 : Nat) (r_m1heap : Nat) (r_m1runs : Nat) (r_m1counts : Nat) (r_m1traceRow : Nat) (f_m1traceCount : Int32) (r_m1startedList : Nat) (f_m1startedCount : Int32) (f_m1present : Int32) (f_m1quantum : Int32) (f_m1stepsDone : Int32) (f_m1turnSteps : Int32) (f_m1turnMost : Int32) (f_m1turnOver : Int32) (r_m1finder : Nat) (r_m1names : Nat) (f_m1fault : Int32) (f_m1wanted : Int32) (f_m1thrown : Int32) (ww2 : Nat) (r_m2heap : Nat) (r_m2runs : Nat) (r_m2counts : Nat) (r_m2traceRow : Nat) (f_m2traceCount : Int32) (r_m2startedList : Nat) (f_m2startedCount : Int32) (f_m2present : Int32) (f_m2quantum : Int32) (f_m2stepsDone : Int32) (f_m2turnSteps : Int32) (f_m2turnMost : Int32) (f_m2turnOver : Int32) (r_m2finder : Nat) (r_m2names : Nat) (f_m2fault : Int32) (f_m2wanted : Int32) (f_m2thrown : Int32) (r_w0names : Nat) (f_w0wrongClass : Int32) (f_w0wrongMethod : Int32) (f_w0wrongAt : Int32) (r_w0rows : Nat) (r_w0above : Nat) (r_w0fields : Nat) (r_w0methods : Nat) (r_w0codes : Nat) (r_w0handlers : Nat) (r_w0extra : Nat) (r_w0orders : Nat) (r_w0classNamed : Nat) (f_w0breaks : Int32) (r_w0marks : Nat) (r_w1names : Nat) (f_w1wrongClass : Int32) (f_w1wrongMethod : Int32) (f_w1wrongAt : Int32) (r_w1rows : Nat) (r_w1above : Nat) (r_w1fields : Nat) (r_w1methods : Nat) (r_w1codes : Nat) (r_w1handlers : Nat) (r_w1extra : Nat) (r_w1orders : Nat) (r_w1classNamed : Nat) (f_w1breaks : Int32) (r_w1marks : Nat) (r_w2names : Nat) (f_w2wrongClass : Int32) (f_w2wrongMethod : Int32) (f_w2wrongAt : Int32) (r_w2rows : Nat) (r_w2above : Nat) (r_w2fields : Nat) (r_w2methods : Nat) (r_w2codes : Nat) (r_w2handlers : Nat) (r_w2extra : Nat) (r_w2orders : Nat) (r_w2classNamed : Nat) (f_w2breaks : Int32) (r_w2marks : Nat) (h0X : Nat) (fsX : List Value) (owX : Nat) (v0X : Nat) (v1X : Nat) (v2X : Nat) (v3X : Nat) (fw0X : List Value) (fw1X : List Value) (fw2X : List Value) (G : GV l p s m #[Value.ref b] meth c (⟨"ClassWorksLaw", meth.name, ""⟩ : MethodName) code 4 ret g D sl A) (hX : va_X b 6 xs s s.heap) (hbl : b < s.heap.size) (hbA : ¬ A b) (hAA : ∀ q, A q → s.heap.size ≤ q) {H : Heap} {locs : List Loc} {ls : Array Slot} (glenX : fsX.length = 131) (gk0X : fsX[44]? = some (.ref owX)) (gw0X : fw0X.length = 72) (gt0X : fw0X[0]? = some (.int (nI 0))) (gw1X : fw1X.length = 72) (gt1X : fw1X[0]? = some (.int (nI 0))) (gw2X : fw2X.length = 72) (gt2X : fw2X[0]? = some (.int (nI 0))) (hP : va_P D CL [(h0, .inr (11, [.ref r_cwords, .ref r_creader, .ref r_cchecker, .ref r_cfinder, .ref r_cwriter, .ref r_cmachines, .ref r_ctape, .int (nI 0), .int (-2), .int (nI 60000), .ref r_cstock, .ref r_csizes, .ref r_cmet, .ref r_cfound, .int (nI 0), .ref r_cdraft, .int (nI 0), .int (nI 0), .ref r_cfewestFor, .ref r_cfewestNext])), (r_cmachines, .inl (g 4, 4, .inr (.inr (.inr (.inr (va_up (va_up (va_up (va_up (fun _ => none) 0 (some mm0)) 1 (some mm1)) 2 (some mm2)) 3 (some mm3))))))), (mm0, .inr (4, [.ref ww0, .ref r_m0heap, .ref r_m0runs, .ref r_m0counts, .ref r_m0traceRow, .int f_m0traceCount, .ref r_m0startedList, .int f_m0startedCount, .int f_m0present, .int f_m0quantum, .int f_m0stepsDone, .int f_m0turnSteps, .int f_m0turnMost, .int f_m0turnOver, .ref r_m0finder, .ref r_m0names, .int f_m0fault, .int f_m0wanted, .int f_m0thrown])), (mm1, .inr (4, [.ref ww1, .ref r_m1heap, .ref r_m1runs, .ref r_m1counts, .ref r_m1traceRow, .int f_m1traceCount, .ref r_m1startedList, .int f_m1startedCount, .int f_m1present, .int f_m1quantum, .int f_m1stepsDone, .int f_m1turnSteps, .int f_m1turnMost, .int f_m1turnOver, .ref r_m1finder, .ref r_m1names, .int f_m1fault, .int f_m1wanted, .int f_m1thrown])), (mm2, .inr (4, [.ref ww2, .ref r_m2heap, .ref r_m2runs, .ref r_m2counts, .ref r_m2traceRow, .int f_m2traceCount, .ref r_m2startedList, .int f_m2startedCount, .int f_m2present, .int f_m2quantum, .int f_m2stepsDone, .int f_m2turnSteps, .int f_m2turnMost, .int f_m2turnOver, .ref r_m2finder, .ref r_m2names, .int f_m2fault, .int f_m2wanted, .int f_m2thrown])), (ww0, .inr (9, [.ref r_w0names, .int (nI 0), .int (nI 21), .int f_w0wrongClass, .int f_w0wrongMethod, .int f_w0wrongAt, .ref r_w0rows, .ref r_w0above, .ref r_w0fields, .ref r_w0methods, .ref r_w0codes, .ref r_w0handlers, .ref r_w0extra, .ref r_w0orders, .ref r_w0classNamed, .int f_w0breaks, .ref r_w0marks])), (ww1, .inr (9, [.ref r_w1names, .int (nI 0), .int (nI 21), .int f_w1wrongClass, .int f_w1wrongMethod, .int f_w1wrongAt, .ref r_w1rows, .ref r_w1above, .ref r_w1fields, .ref r_w1methods, .ref r_w1codes, .ref r_w1handlers, .ref r_w1extra, .ref r_w1orders, .ref r_w1classNamed, .int f_w1breaks, .ref r_w1marks])), (ww2, .inr (9, [.ref r_w2names, .int (nI 0), .int (nI 21), .int f_w2wrongClass, .int f_w2wrongMethod, .int f_w2wrongAt, .ref r_w2rows, .ref r_w2above, .ref r_w2fields, .ref r_w2methods, .ref r_w2codes, .ref r_w2handlers, .ref r_w2extra, .ref r_w2orders, .ref r_w2classNamed, .int f_w2breaks, .ref r_w2marks])), (h0X, .inr (14, fsX)), (owX, .inl (g 6, 4, .inr (.inr (.inr (.inr (va_up (va_up (va_up (va_up (fun _ => none) 0 (some v0X)) 1 (some v1X)) 2 (some v2X)) 3 (some v3X))))))), (v0X, .inr (13, fw0X)), (v1X, .inr (13, fw1X)), (v2X, .inr (13, fw2X))] H) (hD : va_D A [(h0, .inr (11, [.ref r_cwords, .ref r_creader, .ref r_cchecker, .ref r_cfinder, .ref r_cwriter, .ref r_cmachines, .ref r_ctape, .int (nI 0), .int (-2), .int (nI 60000), .ref r_cstock, .ref r_csizes, .ref r_cmet, .ref r_cfound, .int (nI 0), .ref r_cdraft, .int (nI 0), .int (nI 0), .ref r_cfewestFor, .ref r_cfewestNext])), (r_cmachines, .inl (g 4, 4, .inr (.inr (.inr (.inr (va_up (va_up (va_up (va_up (fun _ => none) 0 (some mm0)) 1 (some mm1)) 2 (some mm2)) 3 (some mm3))))))), (mm0, .inr (4, [.ref ww0, .ref r_m0heap, .ref r_m0runs, .ref r_m0counts, .ref r_m0traceRow, .int f_m0traceCount, .ref r_m0startedList, .int f_m0startedCount, .int f_m0present, .int f_m0quantum, .int f_m0stepsDone, .int f_m0turnSteps, .int f_m0turnMost, .int f_m0turnOver, .ref r_m0finder, .ref r_m0names, .int f_m0fault, .int f_m0wanted, .int f_m0thrown])), (mm1, .inr (4, [.ref ww1, .ref r_m1heap, .ref r_m1runs, .ref r_m1counts, .ref r_m1traceRow, .int f_m1traceCount, .ref r_m1startedList, .int f_m1startedCount, .int f_m1present, .int f_m1quantum, .int f_m1stepsDone, .int f_m1turnSteps, .int f_m1turnMost, .int f_m1turnOver, .ref r_m1finder, .ref r_m1names, .int f_m1fault, .int f_m1wanted, .int f_m1thrown])), (mm2, .inr (4, [.ref ww2, .ref r_m2heap, .ref r_m2runs, .ref r_m2counts, .ref r_m2traceRow, .int f_m2traceCount, .ref r_m2startedList, .int f_m2startedCount, .int f_m2present, .int f_m2quantum, .int f_m2stepsDone, .int f_m2turnSteps, .int f_m2turnMost, .int f_m2turnOver, .ref r_m2finder, .ref r_m2names, .int f_m2fault, .int f_m2wanted, .int f_m2thrown])), (ww0, .inr (9, [.ref r_w0names, .int (nI 0), .int (nI 21), .int f_w0wrongClass, .int f_w0wrongMethod, .int f_w0wrongAt, .ref r_w0rows, .ref r_w0above, .ref r_w0fields, .ref r_w0methods, .ref r_w0codes, .ref r_w0handlers, .ref r_w0extra, .ref r_w0orders, .ref r_w0classNamed, .int f_w0breaks, .ref r_w0marks])), (ww1, .inr (9, [.ref r_w1names, .int (nI 0), .int (nI 21), .int f_w1wrongClass, .int f_w1wrongMethod, .int f_w1wrongAt, .ref r_w1rows, .ref r_w1above, .ref r_w1fields, .ref r_w1methods, .ref r_w1codes, .ref r_w1handlers, .ref r_w1extra, .ref r_w1orders, .ref r_w1classNamed, .int f_w1breaks, .ref r_w1marks])), (ww2, .inr (9, [.ref r_w2names, .int (nI 0), .int (nI 21), .int f_w2wrongClass, .int f_w2wrongMethod, .int f_w2wrongAt, .ref r_w2rows, .ref r_w2above, .ref r_w2fields, .ref r_w2methods, .ref r_w2codes, .ref r_w2handlers, .ref r_w2extra, .ref r_w2orders, .ref r_w2classNamed, .int f_w2breaks, .ref r_w2marks])), (h0X, .inr (14, fsX)), (owX, .inl (g 6, 4, .inr (.inr (.inr (.inr (va_up (va_up (va_up (va_up (fun _ => none) 0 (some v0X)) 1 (some v1X)) 2 (some v2X)) 3 (some v3X))))))), (v0X, .inr (13, fw0X)), (v1X, .inr (13, fw1X)), (v2X, .inr (13, fw2X))]) (hS : va_S A s.heap H locs) (hl : lv_has ls 4 [(0, .ref b), (1, .ref h0), (2, .ref h0X), (3, .int (nI 0))]) : W p l e room_1 s m #[Value.ref b] below meth c H locs 702 488194 (lw_Z below #[Value.ref b] s) (F0 m 1151 ls []) := by
  refine lv_aload_n G.1 G.2.1 d_Law_1151 rfl (lv_at hl 1 rfl) ?_
  refine lv_aload_n G.1 G.2.1 d_Law_1152 rfl (lv_at hl 0 rfl) ?_
  refine lv_iload_n G.1 G.2.1 d_Law_1153 rfl (lv_at hl 3 rfl) ?_
  refine lv_iconst (v := nI 1) G.1 G.2.1 d_Law_1154 (by decide) ?_
  refine lv_iadd G.1 G.2.1 d_Law_1155 ?_
  refine tpi (w := nI 1) (by decide) ?_
  refine va_sld G.1 G.2.1 hX hbl hbA hS (nI_inn (n := 6) (a := 1) (by decide) (by decide)) d_Law_1156 ?_
  refine tpi (w := (xs 1)) (by rw [nI_clamp (by decide)]) ?_
  refine lv_aload_n G.1 G.2.1 d_Law_1157 rfl (lv_at hl 0 rfl) ?_
  refine lv_iload_n G.1 G.2.1 d_Law_1158 rfl (lv_at hl 3 rfl) ?_
  refine lv_iconst (v := nI 2) G.1 G.2.1 d_Law_1159 (by decide) ?_
  refine lv_iadd G.1 G.2.1 d_Law_1160 ?_
  refine tpi (w := nI 2) (by decide) ?_
  refine va_sld G.1 G.2.1 hX hbl hbA hS (nI_inn (n := 6) (a := 2) (by decide) (by decide)) d_Law_1161 ?_
  refine tpi (w := (xs 2)) (by rw [nI_clamp (by decide)]) ?_
  refine W.eq (g2 := F0 m 1162 ls [.int (xs 2), .int (xs 1), .ref h0]) rfl ?_
  refine lv_aload_n G.1 G.2.1 d_Law_1162 rfl (lv_at hl 0 rfl) ?_
  refine lv_iload_n G.1 G.2.1 d_Law_1163 rfl (lv_at hl 3 rfl) ?_
  refine lv_iconst (v := nI 3) G.1 G.2.1 d_Law_1164 (by decide) ?_
  refine lv_iadd G.1 G.2.1 d_Law_1165 ?_
  refine tpi (w := nI 3) (by decide) ?_
  refine va_sld G.1 G.2.1 hX hbl hbA hS (nI_inn (n := 6) (a := 3) (by decide) (by decide)) d_Law_1166 ?_
  refine tpi (w := (xs 3)) (by rw [nI_clamp (by decide)]) ?_
  refine lv_aload_n G.1 G.2.1 d_Law_1167 rfl (lv_at hl 0 rfl) ?_
  refine lv_iload_n G.1 G.2.1 d_Law_1168 rfl (lv_at hl 3 rfl) ?_
  refine lv_iconst (v := nI 4) G.1 G.2.1 d_Law_1169 (by decide) ?_
  refine lv_iadd G.1 G.2.1 d_Law_1170 ?_
  refine tpi (w := nI 4) (by decide) ?_
  refine va_sld G.1 G.2.1 hX hbl hbA hS (nI_inn (n := 6) (a := 4) (by decide) (by decide)) d_Law_1171 ?_
  refine tpi (w := (xs 4)) (by rw [nI_clamp (by decide)]) ?_
  refine kEi (wr := [(h0X, .inr (14, fsX)), (owX, .inl (g 6, 4, .inr (.inr (.inr (.inr (va_up (va_up (va_up (va_up (fun _ => none) 0 (some v0X)) 1 (some v1X)) 2 (some v2X)) 3 (some v3X))))))), (v0X, .inr (13, fw0X)), (v1X, .inr (13, fw1X)), (v2X, .inr (13, fw2X))]) G (kV (As := [.int (xs 1), .int (xs 2), .int (xs 3), .int (xs 4)]) (rest := []) G hP hD hS [0, 1, 2, 3, 4, 5, 6, 7] rfl rfl (c_Cw_foretell l D g h0 (xs 1) (xs 2) (xs 3) (xs 4) r_cwords r_creader r_cchecker r_cfinder r_cwriter r_cmachines r_ctape r_cstock r_csizes r_cmet r_cfound r_cdraft r_cfewestFor r_cfewestNext mm0 mm1 mm2 mm3 ww0 r_m0heap r_m0runs r_m0counts r_m0traceRow f_m0traceCount r_m0startedList f_m0startedCount f_m0present f_m0quantum f_m0stepsDone f_m0turnSteps f_m0turnMost f_m0turnOver r_m0finder r_m0names f_m0fault f_m0wanted f_m0thrown ww1 r_m1heap r_m1runs r_m1counts r_m1traceRow f_m1traceCount r_m1startedList f_m1startedCount f_m1present f_m1quantum f_m1stepsDone f_m1turnSteps f_m1turnMost f_m1turnOver r_m1finder r_m1names f_m1fault f_m1wanted f_m1thrown ww2 r_m2heap r_m2runs r_m2counts r_m2traceRow f_m2traceCount r_m2startedList f_m2startedCount f_m2present f_m2quantum f_m2stepsDone f_m2turnSteps f_m2turnMost f_m2turnOver r_m2finder r_m2names f_m2fault f_m2wanted f_m2thrown r_w0names f_w0wrongClass f_w0wrongMethod f_w0wrongAt r_w0rows r_w0above r_w0fields r_w0methods r_w0codes r_w0handlers r_w0extra r_w0orders r_w0classNamed f_w0breaks r_w0marks r_w1names f_w1wrongClass f_w1wrongMethod f_w1wrongAt r_w1rows r_w1above r_w1fields r_w1methods r_w1codes r_w1handlers r_w1extra r_w1orders r_w1classNamed f_w1breaks r_w1marks r_w2names f_w2wrongClass f_w2wrongMethod f_w2wrongAt r_w2rows r_w2above r_w2fields r_w2methods r_w2codes r_w2handlers r_w2extra r_w2orders r_w2classNamed f_w2breaks r_w2marks H.size ) w_Cw_foretell q2310 rfl rfl ⟨Nat.le_of_ble_eq_true rfl, Nat.le_of_ble_eq_true rfl⟩ (fun _ h => absurd h List.not_mem_nil) 0 (ci := 11) rfl rfl rfl hl.1 rfl (Nat.le_of_ble_eq_true rfl) rfl ⟨Nat.le_of_ble_eq_true rfl, (Nat.le_of_ble_eq_true rfl)⟩ d_Law_1172) hP hD hS [0, 1, 2, 3, 4, 5, 6, 7] [8, 9, 10, 11, 12] rfl rfl rfl rfl (fun r_1 u_2 H locs hw hP hD hS hzH => ?_)
  have hw : r_1 = (-1) := hw
  have hP : va_P D CL [(h0X, .inr (14, fsX)), (owX, .inl (g 6, 4, .inr (.inr (.inr (.inr (va_up (va_up (va_up (va_up (fun _ => none) 0 (some v0X)) 1 (some v1X)) 2 (some v2X)) 3 (some v3X))))))), (v0X, .inr (13, fw0X)), (v1X, .inr (13, fw1X)), (v2X, .inr (13, fw2X))] H := hP
  have hD : va_D A [(h0X, .inr (14, fsX)), (owX, .inl (g 6, 4, .inr (.inr (.inr (.inr (va_up (va_up (va_up (va_up (fun _ => none) 0 (some v0X)) 1 (some v1X)) 2 (some v2X)) 3 (some v3X))))))), (v0X, .inr (13, fw0X)), (v1X, .inr (13, fw1X)), (v2X, .inr (13, fw2X))] := hD
  subst hw
  refine tpst (w := [.int (-1)]) rfl ?_
  refine lv_aload_n G.1 G.2.1 d_Law_1175 rfl (lv_at hl 2 rfl) ?_
  refine W.eq (g2 := F0 m 1176 ls [.ref h0X, .int (-1)]) rfl ?_
  refine lv_aload_n G.1 G.2.1 d_Law_1176 rfl (lv_at hl 0 rfl) ?_
  refine lv_iload_n G.1 G.2.1 d_Law_1177 rfl (lv_at hl 3 rfl) ?_
  refine lv_iconst (v := nI 1) G.1 G.2.1 d_Law_1178 (by decide) ?_
  refine lv_iadd G.1 G.2.1 d_Law_1179 ?_
  refine tpi (w := nI 1) (by decide) ?_
  refine va_sld G.1 G.2.1 hX hbl hbA hS (nI_inn (n := 6) (a := 1) (by decide) (by decide)) d_Law_1180 ?_
  refine tpi (w := (xs 1)) (by rw [nI_clamp (by decide)]) ?_
  refine lv_aload_n G.1 G.2.1 d_Law_1181 rfl (lv_at hl 0 rfl) ?_
  refine lv_iload_n G.1 G.2.1 d_Law_1182 rfl (lv_at hl 3 rfl) ?_
  refine lv_iconst (v := nI 2) G.1 G.2.1 d_Law_1183 (by decide) ?_
  refine lv_iadd G.1 G.2.1 d_Law_1184 ?_
  refine tpi (w := nI 2) (by decide) ?_
  refine va_sld G.1 G.2.1 hX hbl hbA hS (nI_inn (n := 6) (a := 2) (by decide) (by decide)) d_Law_1185 ?_
  refine tpi (w := (xs 2)) (by rw [nI_clamp (by decide)]) ?_
  refine lv_aload_n G.1 G.2.1 d_Law_1186 rfl (lv_at hl 0 rfl) ?_
  refine lv_iload_n G.1 G.2.1 d_Law_1187 rfl (lv_at hl 3 rfl) ?_
  refine W.eq (g2 := F0 m 1188 ls [.int (nI 0), .ref b, .int (xs 2), .int (xs 1), .ref h0X, .int (-1)]) rfl ?_
  refine lv_iconst (v := nI 3) G.1 G.2.1 d_Law_1188 (by decide) ?_
  refine lv_iadd G.1 G.2.1 d_Law_1189 ?_
  refine tpi (w := nI 3) (by decide) ?_
  refine va_sld G.1 G.2.1 hX hbl hbA hS (nI_inn (n := 6) (a := 3) (by decide) (by decide)) d_Law_1190 ?_
  refine tpi (w := (xs 3)) (by rw [nI_clamp (by decide)]) ?_
  refine lv_aload_n G.1 G.2.1 d_Law_1191 rfl (lv_at hl 0 rfl) ?_
  refine lv_iload_n G.1 G.2.1 d_Law_1192 rfl (lv_at hl 3 rfl) ?_
  refine lv_iconst (v := nI 4) G.1 G.2.1 d_Law_1193 (by decide) ?_
  refine lv_iadd G.1 G.2.1 d_Law_1194 ?_
  refine tpi (w := nI 4) (by decide) ?_
  refine va_sld G.1 G.2.1 hX hbl hbA hS (nI_inn (n := 6) (a := 4) (by decide) (by decide)) d_Law_1195 ?_
  refine tpi (w := (xs 4)) (by rw [nI_clamp (by decide)]) ?_
  refine kEi (wr := []) G (kV (As := [.int (xs 1), .int (xs 2), .int (xs 3), .int (xs 4)]) (rest := [.int (-1)]) G hP hD hS [0, 1, 2, 3, 4] rfl rfl (c_Mo_foretell l D g h0X (xs 1) (xs 2) (xs 3) (xs 4) fsX owX v0X v1X v2X v3X fw0X fw1X fw2X H.size glenX gk0X gw0X gt0X gw1X gt1X gw2X gt2X) w_Mo_foretell q4153 rfl rfl ⟨Nat.le_of_ble_eq_true rfl, Nat.le_of_ble_eq_true rfl⟩ (fun _ h => absurd h List.not_mem_nil) 0 (ci := 14) rfl rfl rfl hl.1 rfl (Nat.le_of_ble_eq_true rfl) rfl ⟨Nat.le_of_ble_eq_true rfl, (Nat.le_of_ble_eq_true rfl)⟩ d_Law_1196) hP hD hS [0, 1, 2, 3, 4] [] rfl rfl rfl rfl (fun r_3 u_4 H locs hw hP hD hS hzH => ?_)
  have hw : r_3 = (-1) := hw
  have hP : va_P D CL [] H := hP
  have hD : va_D A [] := hD
  subst hw
  refine tpst (w := [.int (-1), .int (-1)]) rfl ?_
  refine lv_icmp_eq (tgt := 1768) G.1 G.2.1 d_Law_1199 (by decide) (fun c1199 => ?_) (fun c1199 => absurd c1199 (fun h => h rfl))
  refine lv_iinc (v := nI 6) (lv' := [(3, .int (nI 6)), (0, .ref b), (1, .ref h0), (2, .ref h0X)]) G.1 G.2.1 d_Law_1768 hl (k := 3) rfl (show (nI 0) + Int32.ofInt 6 = nI 6 from by decide) (by decide) rfl (fun ls hl => ?_)
  refine lv_goto (tgt := 18) G.1 G.2.1 d_Law_1771 (by decide) ?_
  refine W.eq (g2 := F0 m 18 ls []) rfl ?_
  refine lv_iload_n G.1 G.2.1 d_Law_18 rfl (lv_at hl 0 rfl) ?_
  refine lv_aload_n G.1 G.2.1 d_Law_19 rfl (lv_at hl 1 rfl) ?_
  refine va_slen G.1 G.2.1 hX hbl hbA hS d_Law_20 ?_
  refine tpi (w := nI 6) rfl ?_
  refine lv_bipush (v := nI 6) G.1 G.2.1 d_Law_21 (by decide) ?_
  refine lv_isub G.1 G.2.1 d_Law_23 ?_
  refine tpi (w := nI 0) (by decide) ?_
  refine lv_icmp_gt (tgt := 1774) G.1 G.2.1 d_Law_24 (by decide) (fun c24 => ?_) (fun c24 => absurd c24 (by decide))
  refine lv_iconst (v := nI 1) G.1 G.2.1 d_Law_1774 (by decide) ?_
  refine va_forget (fun q hq => hAA _ (hS.2.2 q hq)) ?_
  refine W.widen (k := 600002) (n := 7302232) (Nat.le_of_ble_eq_true rfl) (Nat.le_of_ble_eq_true rfl) ?_
  exact lw_ret G.1 G.2.1 G.2.2.2.1 G.2.2.2.2.1 d_Law_1775
theorem q2330 : Cond.code y_Cw_asked b_Cw_asked 6 (some .int) ∈ lw_ok := lw_okmem (List.mem_of_getElem? (i := 2330) (by decide +kernel)) rfl
theorem q2328 : Cond.instanceMethod y_Cw_asked ∈ lw_ok := lw_okmem (List.mem_of_getElem? (i := 2328) (by decide +kernel)) rfl
theorem q2329 : Cond.selects y_Cw_asked.cls y_Cw_asked y_Cw_asked ∈ lw_ok := lw_okmem (List.mem_of_getElem? (i := 2329) (by decide +kernel)) rfl
theorem w_Cw_asked : CWv y_Cw_asked b_Cw_asked 6 (some .int) 2 ∧ Cond.instanceMethod y_Cw_asked ∈ lw_ok ∧ Cond.selects y_Cw_asked.cls y_Cw_asked y_Cw_asked ∈ lw_ok := ⟨⟨q2330, q329, by decide +kernel, by decide +kernel, by decide +kernel⟩, q2328, q2329⟩
theorem q2327 : Cond.methodLink "ClassWorksLaw" 125 y_Cw_asked ∈ lw_ok := lw_okmem (List.mem_of_getElem? (i := 2327) (by decide +kernel)) rfl
theorem q4164 : Cond.code y_Mo_asked b_Mo_asked 4 (some .int) ∈ lw_ok := lw_okmem (List.mem_of_getElem? (i := 4164) (by decide +kernel)) rfl
theorem q4162 : Cond.instanceMethod y_Mo_asked ∈ lw_ok := lw_okmem (List.mem_of_getElem? (i := 4162) (by decide +kernel)) rfl
theorem q4163 : Cond.selects y_Mo_asked.cls y_Mo_asked y_Mo_asked ∈ lw_ok := lw_okmem (List.mem_of_getElem? (i := 4163) (by decide +kernel)) rfl
theorem w_Mo_asked : CWv y_Mo_asked b_Mo_asked 4 (some .int) 2 ∧ Cond.instanceMethod y_Mo_asked ∈ lw_ok ∧ Cond.selects y_Mo_asked.cls y_Mo_asked y_Mo_asked ∈ lw_ok := ⟨⟨q4164, q348, by decide +kernel, by decide +kernel, by decide +kernel⟩, q4162, q4163⟩
theorem q4161 : Cond.methodLink "ClassWorksLaw" 128 y_Mo_asked ∈ lw_ok := lw_okmem (List.mem_of_getElem? (i := 4161) (by decide +kernel)) rfl
theorem d_Law_1204 : decode code 1204 = .ok (.aload_n 1, 1) := by decide +kernel
theorem d_Law_1205 : decode code 1205 = .ok (.aload_n 0, 1) := by decide +kernel
theorem d_Law_1206 : decode code 1206 = .ok (.iload_n 3, 1) := by decide +kernel
theorem d_Law_1207 : decode code 1207 = .ok (.iconst 1, 1) := by decide +kernel
theorem d_Law_1208 : decode code 1208 = .ok (.iadd, 1) := by decide +kernel
theorem d_Law_1209 : decode code 1209 = .ok (.iaload, 1) := by decide +kernel
theorem d_Law_1210 : decode code 1210 = .ok (.aload_n 0, 1) := by decide +kernel
theorem d_Law_1211 : decode code 1211 = .ok (.iload_n 3, 1) := by decide +kernel
theorem d_Law_1212 : decode code 1212 = .ok (.iconst 2, 1) := by decide +kernel
theorem d_Law_1213 : decode code 1213 = .ok (.iadd, 1) := by decide +kernel
theorem d_Law_1214 : decode code 1214 = .ok (.iaload, 1) := by decide +kernel
theorem d_Law_1215 : decode code 1215 = .ok (.invokevirtual 125, 3) := by decide +kernel
theorem d_Law_1218 : decode code 1218 = .ok (.aload_n 2, 1) := by decide +kernel
theorem d_Law_1219 : decode code 1219 = .ok (.aload_n 0, 1) := by decide +kernel
theorem d_Law_1220 : decode code 1220 = .ok (.iload_n 3, 1) := by decide +kernel
theorem d_Law_1221 : decode code 1221 = .ok (.iconst 1, 1) := by decide +kernel
theorem d_Law_1222 : decode code 1222 = .ok (.iadd, 1) := by decide +kernel
theorem d_Law_1223 : decode code 1223 = .ok (.iaload, 1) := by decide +kernel
theorem d_Law_1224 : decode code 1224 = .ok (.aload_n 0, 1) := by decide +kernel
theorem d_Law_1225 : decode code 1225 = .ok (.iload_n 3, 1) := by decide +kernel
theorem d_Law_1226 : decode code 1226 = .ok (.iconst 2, 1) := by decide +kernel
theorem d_Law_1227 : decode code 1227 = .ok (.iadd, 1) := by decide +kernel
theorem d_Law_1228 : decode code 1228 = .ok (.iaload, 1) := by decide +kernel
theorem d_Law_1229 : decode code 1229 = .ok (.invokevirtual 128, 3) := by decide +kernel
theorem d_Law_1232 : decode code 1232 = .ok (.if_icmp .eq 536, 3) := by decide +kernel
set_option maxHeartbeats 4000000 in
set_option maxRecDepth 100000 in
theorem law_asked {p : Program} {e : Env} {s : State} {m : MethodId} {below : List Frame} {meth : Method} {c : Code} {l : Launch} {D : va_G} {g : Nat → ClassId} {sl : List SL} {b : Nat} {xs : Nat → Int32} {A : Nat → Prop} (h0 : Nat) (r_cwords : Nat) (r_creader : Nat) (r_cchecker : Nat) (r_cfinder : Nat) (r_cwriter : Nat) (r_cmachines : Nat) (r_ctape : Nat) (r_cstock : Nat) (r_csizes : Nat) (r_cmet : Nat) (r_cfound : Nat) (r_cdraft : Nat) (r_cfewestFor : Nat) (r_cfewestNext : Nat) (mm0 : Nat) (mm1 : Nat) (mm2 : Nat) (mm3 : Nat) (ww0 : Nat) (r_m0heap : Nat) (r_m0runs : Nat) (r_m0counts : Nat) (r_m0traceRow : Nat) (f_m0traceCount : Int32) (r_m0startedList : Nat) (f_m0startedCount : Int32) (f_m0present : Int32) (f_m0quantum : Int32) (f_m0stepsDone : Int32) (f_m0turnSteps : Int32) (f_m0turnMost : Int32) (f_m0turnOver : Int32) (r_m0finder : Nat) (r_m0names : Nat) (f_m0fault : Int32) (f_m0wanted : Int32) (f_m0thrown : Int32) (ww1 : Nat) (r_m1heap : Nat) (r_m1runs : Nat) (r_m1counts : Nat) (r_m1traceRow : Nat) (f_m1traceCount : Int32) (r_m1startedList : Nat) (f_m1startedCount : Int32) (f_m1present : Int32) (f_m1quantum : Int32) (f_m1stepsDone : Int32) (f_m1turnSteps : Int32) (f_m1turnMost : Int32) (f_m1turnOver : Int32) (r_m1finder : Nat) (r_m1names : Nat) (f_m1fault : Int32) (f_m1wanted : Int32) (f_m1thrown : Int32) (ww2 : Nat) (r_m2heap : Nat) (r_m2runs : Nat) (r_m2counts : Nat) (r_m2traceRow : Nat) (f_m2traceCount : Int32) (r_m2startedList : Nat) (f_m2startedCount : Int32) (f_m2present : Int32) (f_m2quantum : Int32) (f_m2stepsDone : Int32) (f_m2turnSteps : Int32) (f_m2turnMost : Int32) (f_m2turnOver : Int32) (r_m2finder : Nat) (r_m2names : Nat) (f_m2fault : Int32) (f_m2wanted : Int32) (f_m2thrown : Int32) (r_w0names : Nat) (f_w0wrongClass : Int32) (f_w0wrongMethod : Int32) (f_w0wrongAt : Int32) (r_w0rows : Nat) (r_w0above : Nat) (r_w0fields : Nat) (r_w0methods : Nat) (r_w0codes : Nat) (r_w0handlers : Nat) (r_w0extra : Nat) (r_w0orders : Nat) (r_w0classNamed : Nat) (f_w0breaks : Int32) (r_w0marks : Nat) (r_w1names : Nat) (f_w1wrongClass : Int32) (f_w1wrongMethod : Int32) (f_w1wrongAt : Int32) (r_w1rows : Nat) (r_w1above : Nat) (r_w1fields : Nat) (r_w1methods : Nat) (r_w1codes : Nat) (r_w1handlers : Nat) (r_w1extra : Nat) (r_w1orders : Nat) (r_w1classNamed : Nat) (f_w1breaks : Int32) (r_w1marks : Nat) (r_w2names : Nat) (f_w2wrongClass : Int32) (f_w2wrongMethod : Int32) (f_w2wrongAt : Int32) (r_w2rows : Nat) (r_w2above : Nat) (r_w2fields : Nat) (r_w2methods : Nat) (r_w2codes : Nat) (r_w2handlers : Nat) (r_w2extra : Nat) (r_w2orders : Nat) (r_w2classNamed : Nat) (f_w2breaks : Int32) (r_w2marks : Nat) (h0X : Nat) (fsX : List Value) (owX : Nat) (v0X : Nat) (v1X : Nat) (v2X : Nat) (v3X : Nat) (fw0X : List Value) (fw1X : List Value) (fw2X : List Value) (G : GV l p s m #[Value.ref b] meth c (⟨"ClassWorksLaw", meth.name, ""⟩ : MethodName) code 4 ret g D sl A) (hX : va_X b 6 xs s s.heap) (hbl : b < s.heap.size) (hbA : ¬ A b) (hAA : ∀ q, A q → s.heap.size ≤ q) {H : Heap} {locs : List Loc} {ls : Array Slot} (glenX : fsX.length = 131) (gk0X : fsX[44]? = some (.ref owX)) (gw0X : fw0X.length = 72) (gt0X : fw0X[0]? = some (.int (nI 0))) (gw1X : fw1X.length = 72) (gt1X : fw1X[0]? = some (.int (nI 0))) (gw2X : fw2X.length = 72) (gt2X : fw2X[0]? = some (.int (nI 0))) (hP : va_P D CL [(h0, .inr (11, [.ref r_cwords, .ref r_creader, .ref r_cchecker, .ref r_cfinder, .ref r_cwriter, .ref r_cmachines, .ref r_ctape, .int (nI 0), .int (-2), .int (nI 60000), .ref r_cstock, .ref r_csizes, .ref r_cmet, .ref r_cfound, .int (nI 0), .ref r_cdraft, .int (nI 0), .int (nI 0), .ref r_cfewestFor, .ref r_cfewestNext])), (r_cmachines, .inl (g 4, 4, .inr (.inr (.inr (.inr (va_up (va_up (va_up (va_up (fun _ => none) 0 (some mm0)) 1 (some mm1)) 2 (some mm2)) 3 (some mm3))))))), (mm0, .inr (4, [.ref ww0, .ref r_m0heap, .ref r_m0runs, .ref r_m0counts, .ref r_m0traceRow, .int f_m0traceCount, .ref r_m0startedList, .int f_m0startedCount, .int f_m0present, .int f_m0quantum, .int f_m0stepsDone, .int f_m0turnSteps, .int f_m0turnMost, .int f_m0turnOver, .ref r_m0finder, .ref r_m0names, .int f_m0fault, .int f_m0wanted, .int f_m0thrown])), (mm1, .inr (4, [.ref ww1, .ref r_m1heap, .ref r_m1runs, .ref r_m1counts, .ref r_m1traceRow, .int f_m1traceCount, .ref r_m1startedList, .int f_m1startedCount, .int f_m1present, .int f_m1quantum, .int f_m1stepsDone, .int f_m1turnSteps, .int f_m1turnMost, .int f_m1turnOver, .ref r_m1finder, .ref r_m1names, .int f_m1fault, .int f_m1wanted, .int f_m1thrown])), (mm2, .inr (4, [.ref ww2, .ref r_m2heap, .ref r_m2runs, .ref r_m2counts, .ref r_m2traceRow, .int f_m2traceCount, .ref r_m2startedList, .int f_m2startedCount, .int f_m2present, .int f_m2quantum, .int f_m2stepsDone, .int f_m2turnSteps, .int f_m2turnMost, .int f_m2turnOver, .ref r_m2finder, .ref r_m2names, .int f_m2fault, .int f_m2wanted, .int f_m2thrown])), (ww0, .inr (9, [.ref r_w0names, .int (nI 0), .int (nI 21), .int f_w0wrongClass, .int f_w0wrongMethod, .int f_w0wrongAt, .ref r_w0rows, .ref r_w0above, .ref r_w0fields, .ref r_w0methods, .ref r_w0codes, .ref r_w0handlers, .ref r_w0extra, .ref r_w0orders, .ref r_w0classNamed, .int f_w0breaks, .ref r_w0marks])), (ww1, .inr (9, [.ref r_w1names, .int (nI 0), .int (nI 21), .int f_w1wrongClass, .int f_w1wrongMethod, .int f_w1wrongAt, .ref r_w1rows, .ref r_w1above, .ref r_w1fields, .ref r_w1methods, .ref r_w1codes, .ref r_w1handlers, .ref r_w1extra, .ref r_w1orders, .ref r_w1classNamed, .int f_w1breaks, .ref r_w1marks])), (ww2, .inr (9, [.ref r_w2names, .int (nI 0), .int (nI 21), .int f_w2wrongClass, .int f_w2wrongMethod, .int f_w2wrongAt, .ref r_w2rows, .ref r_w2above, .ref r_w2fields, .ref r_w2methods, .ref r_w2codes, .ref r_w2handlers, .ref r_w2extra, .ref r_w2orders, .ref r_w2classNamed, .int f_w2breaks, .ref r_w2marks])), (h0X, .inr (14, fsX)), (owX, .inl (g 6, 4, .inr (.inr (.inr (.inr (va_up (va_up (va_up (va_up (fun _ => none) 0 (some v0X)) 1 (some v1X)) 2 (some v2X)) 3 (some v3X))))))), (v0X, .inr (13, fw0X)), (v1X, .inr (13, fw1X)), (v2X, .inr (13, fw2X))] H) (hD : va_D A [(h0, .inr (11, [.ref r_cwords, .ref r_creader, .ref r_cchecker, .ref r_cfinder, .ref r_cwriter, .ref r_cmachines, .ref r_ctape, .int (nI 0), .int (-2), .int (nI 60000), .ref r_cstock, .ref r_csizes, .ref r_cmet, .ref r_cfound, .int (nI 0), .ref r_cdraft, .int (nI 0), .int (nI 0), .ref r_cfewestFor, .ref r_cfewestNext])), (r_cmachines, .inl (g 4, 4, .inr (.inr (.inr (.inr (va_up (va_up (va_up (va_up (fun _ => none) 0 (some mm0)) 1 (some mm1)) 2 (some mm2)) 3 (some mm3))))))), (mm0, .inr (4, [.ref ww0, .ref r_m0heap, .ref r_m0runs, .ref r_m0counts, .ref r_m0traceRow, .int f_m0traceCount, .ref r_m0startedList, .int f_m0startedCount, .int f_m0present, .int f_m0quantum, .int f_m0stepsDone, .int f_m0turnSteps, .int f_m0turnMost, .int f_m0turnOver, .ref r_m0finder, .ref r_m0names, .int f_m0fault, .int f_m0wanted, .int f_m0thrown])), (mm1, .inr (4, [.ref ww1, .ref r_m1heap, .ref r_m1runs, .ref r_m1counts, .ref r_m1traceRow, .int f_m1traceCount, .ref r_m1startedList, .int f_m1startedCount, .int f_m1present, .int f_m1quantum, .int f_m1stepsDone, .int f_m1turnSteps, .int f_m1turnMost, .int f_m1turnOver, .ref r_m1finder, .ref r_m1names, .int f_m1fault, .int f_m1wanted, .int f_m1thrown])), (mm2, .inr (4, [.ref ww2, .ref r_m2heap, .ref r_m2runs, .ref r_m2counts, .ref r_m2traceRow, .int f_m2traceCount, .ref r_m2startedList, .int f_m2startedCount, .int f_m2present, .int f_m2quantum, .int f_m2stepsDone, .int f_m2turnSteps, .int f_m2turnMost, .int f_m2turnOver, .ref r_m2finder, .ref r_m2names, .int f_m2fault, .int f_m2wanted, .int f_m2thrown])), (ww0, .inr (9, [.ref r_w0names, .int (nI 0), .int (nI 21), .int f_w0wrongClass, .int f_w0wrongMethod, .int f_w0wrongAt, .ref r_w0rows, .ref r_w0above, .ref r_w0fields, .ref r_w0methods, .ref r_w0codes, .ref r_w0handlers, .ref r_w0extra, .ref r_w0orders, .ref r_w0classNamed, .int f_w0breaks, .ref r_w0marks])), (ww1, .inr (9, [.ref r_w1names, .int (nI 0), .int (nI 21), .int f_w1wrongClass, .int f_w1wrongMethod, .int f_w1wrongAt, .ref r_w1rows, .ref r_w1above, .ref r_w1fields, .ref r_w1methods, .ref r_w1codes, .ref r_w1handlers, .ref r_w1extra, .ref r_w1orders, .ref r_w1classNamed, .int f_w1breaks, .ref r_w1marks])), (ww2, .inr (9, [.ref r_w2names, .int (nI 0), .int (nI 21), .int f_w2wrongClass, .int f_w2wrongMethod, .int f_w2wrongAt, .ref r_w2rows, .ref r_w2above, .ref r_w2fields, .ref r_w2methods, .ref r_w2codes, .ref r_w2handlers, .ref r_w2extra, .ref r_w2orders, .ref r_w2classNamed, .int f_w2breaks, .ref r_w2marks])), (h0X, .inr (14, fsX)), (owX, .inl (g 6, 4, .inr (.inr (.inr (.inr (va_up (va_up (va_up (va_up (fun _ => none) 0 (some v0X)) 1 (some v1X)) 2 (some v2X)) 3 (some v3X))))))), (v0X, .inr (13, fw0X)), (v1X, .inr (13, fw1X)), (v2X, .inr (13, fw2X))]) (hS : va_S A s.heap H locs) (hl : lv_has ls 4 [(0, .ref b), (1, .ref h0), (2, .ref h0X), (3, .int (nI 0))]) : W p l e room_1 s m #[Value.ref b] below meth c H locs 702 488194 (lw_Z below #[Value.ref b] s) (F0 m 1204 ls []) := by
  refine lv_aload_n G.1 G.2.1 d_Law_1204 rfl (lv_at hl 1 rfl) ?_
  refine lv_aload_n G.1 G.2.1 d_Law_1205 rfl (lv_at hl 0 rfl) ?_
  refine lv_iload_n G.1 G.2.1 d_Law_1206 rfl (lv_at hl 3 rfl) ?_
  refine lv_iconst (v := nI 1) G.1 G.2.1 d_Law_1207 (by decide) ?_
  refine lv_iadd G.1 G.2.1 d_Law_1208 ?_
  refine tpi (w := nI 1) (by decide) ?_
  refine va_sld G.1 G.2.1 hX hbl hbA hS (nI_inn (n := 6) (a := 1) (by decide) (by decide)) d_Law_1209 ?_
  refine tpi (w := (xs 1)) (by rw [nI_clamp (by decide)]) ?_
  refine lv_aload_n G.1 G.2.1 d_Law_1210 rfl (lv_at hl 0 rfl) ?_
  refine lv_iload_n G.1 G.2.1 d_Law_1211 rfl (lv_at hl 3 rfl) ?_
  refine lv_iconst (v := nI 2) G.1 G.2.1 d_Law_1212 (by decide) ?_
  refine lv_iadd G.1 G.2.1 d_Law_1213 ?_
  refine tpi (w := nI 2) (by decide) ?_
  refine va_sld G.1 G.2.1 hX hbl hbA hS (nI_inn (n := 6) (a := 2) (by decide) (by decide)) d_Law_1214 ?_
  refine tpi (w := (xs 2)) (by rw [nI_clamp (by decide)]) ?_
  refine W.eq (g2 := F0 m 1215 ls [.int (xs 2), .int (xs 1), .ref h0]) rfl ?_
  refine kEi (wr := [(h0X, .inr (14, fsX)), (owX, .inl (g 6, 4, .inr (.inr (.inr (.inr (va_up (va_up (va_up (va_up (fun _ => none) 0 (some v0X)) 1 (some v1X)) 2 (some v2X)) 3 (some v3X))))))), (v0X, .inr (13, fw0X)), (v1X, .inr (13, fw1X)), (v2X, .inr (13, fw2X))]) G (kV (As := [.int (xs 1), .int (xs 2)]) (rest := []) G hP hD hS [0, 1, 2, 3, 4, 5, 6, 7] rfl rfl (c_Cw_asked l D g h0 (xs 1) (xs 2) r_cwords r_creader r_cchecker r_cfinder r_cwriter r_cmachines r_ctape r_cstock r_csizes r_cmet r_cfound r_cdraft r_cfewestFor r_cfewestNext mm0 mm1 mm2 mm3 ww0 r_m0heap r_m0runs r_m0counts r_m0traceRow f_m0traceCount r_m0startedList f_m0startedCount f_m0present f_m0quantum f_m0stepsDone f_m0turnSteps f_m0turnMost f_m0turnOver r_m0finder r_m0names f_m0fault f_m0wanted f_m0thrown ww1 r_m1heap r_m1runs r_m1counts r_m1traceRow f_m1traceCount r_m1startedList f_m1startedCount f_m1present f_m1quantum f_m1stepsDone f_m1turnSteps f_m1turnMost f_m1turnOver r_m1finder r_m1names f_m1fault f_m1wanted f_m1thrown ww2 r_m2heap r_m2runs r_m2counts r_m2traceRow f_m2traceCount r_m2startedList f_m2startedCount f_m2present f_m2quantum f_m2stepsDone f_m2turnSteps f_m2turnMost f_m2turnOver r_m2finder r_m2names f_m2fault f_m2wanted f_m2thrown r_w0names f_w0wrongClass f_w0wrongMethod f_w0wrongAt r_w0rows r_w0above r_w0fields r_w0methods r_w0codes r_w0handlers r_w0extra r_w0orders r_w0classNamed f_w0breaks r_w0marks r_w1names f_w1wrongClass f_w1wrongMethod f_w1wrongAt r_w1rows r_w1above r_w1fields r_w1methods r_w1codes r_w1handlers r_w1extra r_w1orders r_w1classNamed f_w1breaks r_w1marks r_w2names f_w2wrongClass f_w2wrongMethod f_w2wrongAt r_w2rows r_w2above r_w2fields r_w2methods r_w2codes r_w2handlers r_w2extra r_w2orders r_w2classNamed f_w2breaks r_w2marks H.size ) w_Cw_asked q2327 rfl rfl ⟨Nat.le_of_ble_eq_true rfl, Nat.le_of_ble_eq_true rfl⟩ (fun _ h => absurd h List.not_mem_nil) 0 (ci := 11) rfl rfl rfl hl.1 rfl (Nat.le_of_ble_eq_true rfl) rfl ⟨Nat.le_of_ble_eq_true rfl, (Nat.le_of_ble_eq_true rfl)⟩ d_Law_1215) hP hD hS [0, 1, 2, 3, 4, 5, 6, 7] [8, 9, 10, 11, 12] rfl rfl rfl rfl (fun r_1 u_2 H locs hw hP hD hS hzH => ?_)
  have hw : r_1 = (-1) := hw
  have hP : va_P D CL [(h0X, .inr (14, fsX)), (owX, .inl (g 6, 4, .inr (.inr (.inr (.inr (va_up (va_up (va_up (va_up (fun _ => none) 0 (some v0X)) 1 (some v1X)) 2 (some v2X)) 3 (some v3X))))))), (v0X, .inr (13, fw0X)), (v1X, .inr (13, fw1X)), (v2X, .inr (13, fw2X))] H := hP
  have hD : va_D A [(h0X, .inr (14, fsX)), (owX, .inl (g 6, 4, .inr (.inr (.inr (.inr (va_up (va_up (va_up (va_up (fun _ => none) 0 (some v0X)) 1 (some v1X)) 2 (some v2X)) 3 (some v3X))))))), (v0X, .inr (13, fw0X)), (v1X, .inr (13, fw1X)), (v2X, .inr (13, fw2X))] := hD
  subst hw
  refine tpst (w := [.int (-1)]) rfl ?_
  refine lv_aload_n G.1 G.2.1 d_Law_1218 rfl (lv_at hl 2 rfl) ?_
  refine lv_aload_n G.1 G.2.1 d_Law_1219 rfl (lv_at hl 0 rfl) ?_
  refine lv_iload_n G.1 G.2.1 d_Law_1220 rfl (lv_at hl 3 rfl) ?_
  refine lv_iconst (v := nI 1) G.1 G.2.1 d_Law_1221 (by decide) ?_
  refine lv_iadd G.1 G.2.1 d_Law_1222 ?_
  refine tpi (w := nI 1) (by decide) ?_
  refine va_sld G.1 G.2.1 hX hbl hbA hS (nI_inn (n := 6) (a := 1) (by decide) (by decide)) d_Law_1223 ?_
  refine tpi (w := (xs 1)) (by rw [nI_clamp (by decide)]) ?_
  refine lv_aload_n G.1 G.2.1 d_Law_1224 rfl (lv_at hl 0 rfl) ?_
  refine lv_iload_n G.1 G.2.1 d_Law_1225 rfl (lv_at hl 3 rfl) ?_
  refine lv_iconst (v := nI 2) G.1 G.2.1 d_Law_1226 (by decide) ?_
  refine lv_iadd G.1 G.2.1 d_Law_1227 ?_
  refine tpi (w := nI 2) (by decide) ?_
  refine va_sld G.1 G.2.1 hX hbl hbA hS (nI_inn (n := 6) (a := 2) (by decide) (by decide)) d_Law_1228 ?_
  refine tpi (w := (xs 2)) (by rw [nI_clamp (by decide)]) ?_
  refine W.eq (g2 := F0 m 1229 ls [.int (xs 2), .int (xs 1), .ref h0X, .int (-1)]) rfl ?_
  refine kEi (wr := []) G (kV (As := [.int (xs 1), .int (xs 2)]) (rest := [.int (-1)]) G hP hD hS [0, 1, 2, 3, 4] rfl rfl (c_Mo_asked l D g h0X (xs 1) (xs 2) fsX owX v0X v1X v2X v3X fw0X fw1X fw2X H.size glenX gk0X gw0X gt0X gw1X gt1X gw2X gt2X) w_Mo_asked q4161 rfl rfl ⟨Nat.le_of_ble_eq_true rfl, Nat.le_of_ble_eq_true rfl⟩ (fun _ h => absurd h List.not_mem_nil) 0 (ci := 14) rfl rfl rfl hl.1 rfl (Nat.le_of_ble_eq_true rfl) rfl ⟨Nat.le_of_ble_eq_true rfl, (Nat.le_of_ble_eq_true rfl)⟩ d_Law_1229) hP hD hS [0, 1, 2, 3, 4] [] rfl rfl rfl rfl (fun r_3 u_4 H locs hw hP hD hS hzH => ?_)
  have hw : r_3 = (-1) := hw
  have hP : va_P D CL [] H := hP
  have hD : va_D A [] := hD
  subst hw
  refine tpst (w := [.int (-1), .int (-1)]) rfl ?_
  refine lv_icmp_eq (tgt := 1768) G.1 G.2.1 d_Law_1232 (by decide) (fun c1232 => ?_) (fun c1232 => absurd c1232 (fun h => h rfl))
  refine lv_iinc (v := nI 6) (lv' := [(3, .int (nI 6)), (0, .ref b), (1, .ref h0), (2, .ref h0X)]) G.1 G.2.1 d_Law_1768 hl (k := 3) rfl (show (nI 0) + Int32.ofInt 6 = nI 6 from by decide) (by decide) rfl (fun ls hl => ?_)
  refine lv_goto (tgt := 18) G.1 G.2.1 d_Law_1771 (by decide) ?_
  refine lv_iload_n G.1 G.2.1 d_Law_18 rfl (lv_at hl 0 rfl) ?_
  refine lv_aload_n G.1 G.2.1 d_Law_19 rfl (lv_at hl 1 rfl) ?_
  refine va_slen G.1 G.2.1 hX hbl hbA hS d_Law_20 ?_
  refine tpi (w := nI 6) rfl ?_
  refine lv_bipush (v := nI 6) G.1 G.2.1 d_Law_21 (by decide) ?_
  refine lv_isub G.1 G.2.1 d_Law_23 ?_
  refine tpi (w := nI 0) (by decide) ?_
  refine lv_icmp_gt (tgt := 1774) G.1 G.2.1 d_Law_24 (by decide) (fun c24 => ?_) (fun c24 => absurd c24 (by decide))
  refine lv_iconst (v := nI 1) G.1 G.2.1 d_Law_1774 (by decide) ?_
  refine va_forget (fun q hq => hAA _ (hS.2.2 q hq)) ?_
  refine W.widen (k := 600002) (n := 7302232) (Nat.le_of_ble_eq_true rfl) (Nat.le_of_ble_eq_true rfl) ?_
  exact lw_ret G.1 G.2.1 G.2.2.2.1 G.2.2.2.2.1 d_Law_1775
theorem q2344 : Cond.code y_Cw_trace b_Cw_trace 5 (some .int) ∈ lw_ok := lw_okmem (List.mem_of_getElem? (i := 2344) (by decide +kernel)) rfl
theorem q2342 : Cond.instanceMethod y_Cw_trace ∈ lw_ok := lw_okmem (List.mem_of_getElem? (i := 2342) (by decide +kernel)) rfl
theorem q2343 : Cond.selects y_Cw_trace.cls y_Cw_trace y_Cw_trace ∈ lw_ok := lw_okmem (List.mem_of_getElem? (i := 2343) (by decide +kernel)) rfl
theorem w_Cw_trace : CWv y_Cw_trace b_Cw_trace 5 (some .int) 3 ∧ Cond.instanceMethod y_Cw_trace ∈ lw_ok ∧ Cond.selects y_Cw_trace.cls y_Cw_trace y_Cw_trace ∈ lw_ok := ⟨⟨q2344, q329, by decide +kernel, by decide +kernel, by decide +kernel⟩, q2342, q2343⟩
theorem q2341 : Cond.methodLink "ClassWorksLaw" 129 y_Cw_trace ∈ lw_ok := lw_okmem (List.mem_of_getElem? (i := 2341) (by decide +kernel)) rfl
theorem q4207 : Cond.code y_Mo_trace b_Mo_trace 6 (some .int) ∈ lw_ok := lw_okmem (List.mem_of_getElem? (i := 4207) (by decide +kernel)) rfl
theorem q4205 : Cond.instanceMethod y_Mo_trace ∈ lw_ok := lw_okmem (List.mem_of_getElem? (i := 4205) (by decide +kernel)) rfl
theorem q4206 : Cond.selects y_Mo_trace.cls y_Mo_trace y_Mo_trace ∈ lw_ok := lw_okmem (List.mem_of_getElem? (i := 4206) (by decide +kernel)) rfl
theorem w_Mo_trace : CWv y_Mo_trace b_Mo_trace 6 (some .int) 3 ∧ Cond.instanceMethod y_Mo_trace ∈ lw_ok ∧ Cond.selects y_Mo_trace.cls y_Mo_trace y_Mo_trace ∈ lw_ok := ⟨⟨q4207, q348, by decide +kernel, by decide +kernel, by decide +kernel⟩, q4205, q4206⟩
theorem q4204 : Cond.methodLink "ClassWorksLaw" 132 y_Mo_trace ∈ lw_ok := lw_okmem (List.mem_of_getElem? (i := 4204) (by decide +kernel)) rfl
theorem d_Law_1237 : decode code 1237 = .ok (.aload_n 1, 1) := by decide +kernel
theorem d_Law_1238 : decode code 1238 = .ok (.aload_n 0, 1) := by decide +kernel
theorem d_Law_1239 : decode code 1239 = .ok (.iload_n 3, 1) := by decide +kernel
theorem d_Law_1240 : decode code 1240 = .ok (.iconst 1, 1) := by decide +kernel
theorem d_Law_1241 : decode code 1241 = .ok (.iadd, 1) := by decide +kernel
theorem d_Law_1242 : decode code 1242 = .ok (.iaload, 1) := by decide +kernel
theorem d_Law_1243 : decode code 1243 = .ok (.aload_n 0, 1) := by decide +kernel
theorem d_Law_1244 : decode code 1244 = .ok (.iload_n 3, 1) := by decide +kernel
theorem d_Law_1245 : decode code 1245 = .ok (.iconst 2, 1) := by decide +kernel
theorem d_Law_1246 : decode code 1246 = .ok (.iadd, 1) := by decide +kernel
theorem d_Law_1247 : decode code 1247 = .ok (.iaload, 1) := by decide +kernel
theorem d_Law_1248 : decode code 1248 = .ok (.aload_n 0, 1) := by decide +kernel
theorem d_Law_1249 : decode code 1249 = .ok (.iload_n 3, 1) := by decide +kernel
theorem d_Law_1250 : decode code 1250 = .ok (.iconst 3, 1) := by decide +kernel
theorem d_Law_1251 : decode code 1251 = .ok (.iadd, 1) := by decide +kernel
theorem d_Law_1252 : decode code 1252 = .ok (.iaload, 1) := by decide +kernel
theorem d_Law_1253 : decode code 1253 = .ok (.invokevirtual 129, 3) := by decide +kernel
theorem d_Law_1256 : decode code 1256 = .ok (.aload_n 2, 1) := by decide +kernel
theorem d_Law_1257 : decode code 1257 = .ok (.aload_n 0, 1) := by decide +kernel
theorem d_Law_1258 : decode code 1258 = .ok (.iload_n 3, 1) := by decide +kernel
theorem d_Law_1259 : decode code 1259 = .ok (.iconst 1, 1) := by decide +kernel
theorem d_Law_1260 : decode code 1260 = .ok (.iadd, 1) := by decide +kernel
theorem d_Law_1261 : decode code 1261 = .ok (.iaload, 1) := by decide +kernel
theorem d_Law_1262 : decode code 1262 = .ok (.aload_n 0, 1) := by decide +kernel
theorem d_Law_1263 : decode code 1263 = .ok (.iload_n 3, 1) := by decide +kernel
theorem d_Law_1264 : decode code 1264 = .ok (.iconst 2, 1) := by decide +kernel
theorem d_Law_1265 : decode code 1265 = .ok (.iadd, 1) := by decide +kernel
theorem d_Law_1266 : decode code 1266 = .ok (.iaload, 1) := by decide +kernel
theorem d_Law_1267 : decode code 1267 = .ok (.aload_n 0, 1) := by decide +kernel
theorem d_Law_1268 : decode code 1268 = .ok (.iload_n 3, 1) := by decide +kernel
theorem d_Law_1269 : decode code 1269 = .ok (.iconst 3, 1) := by decide +kernel
theorem d_Law_1270 : decode code 1270 = .ok (.iadd, 1) := by decide +kernel
theorem d_Law_1271 : decode code 1271 = .ok (.iaload, 1) := by decide +kernel
theorem d_Law_1272 : decode code 1272 = .ok (.invokevirtual 132, 3) := by decide +kernel
theorem d_Law_1275 : decode code 1275 = .ok (.if_icmp .eq 493, 3) := by decide +kernel
set_option maxHeartbeats 4000000 in
set_option maxRecDepth 100000 in
theorem law_trace {p : Program} {e : Env} {s : State} {m : MethodId} {below : List Frame} {meth : Method} {c : Code} {l : Launch} {D : va_G} {g : Nat → ClassId} {sl : List SL} {b : Nat} {xs : Nat → Int32} {A : Nat → Prop} (h0 : Nat) (r_cwords : Nat) (r_creader : Nat) (r_cchecker : Nat) (r_cfinder : Nat) (r_cwriter : Nat) (r_cmachines : Nat) (r_ctape : Nat) (r_cstock : Nat) (r_csizes : Nat) (r_cmet : Nat) (r_cfound : Nat) (r_cdraft : Nat) (r_cfewestFor : Nat) (r_cfewestNext : Nat) (mm0 : Nat) (mm1 : Nat) (mm2 : Nat) (mm3 : Nat) (ww0 : Nat) (r_m0heap : Nat) (r_m0runs : Nat) (r_m0counts : Nat) (r_m0traceRow : Nat) (f_m0traceCount : Int32) (r_m0startedList : Nat) (f_m0startedCount : Int32) (f_m0present : Int32) (f_m0quantum : Int32) (f_m0stepsDone : Int32) (f_m0turnSteps : Int32) (f_m0turnMost : Int32) (f_m0turnOver : Int32) (r_m0finder : Nat) (r_m0names : Nat) (f_m0fault : Int32) (f_m0wanted : Int32) (f_m0thrown : Int32) (ww1 : Nat) (r_m1heap : Nat) (r_m1runs : Nat) (r_m1counts : Nat) (r_m1traceRow : Nat) (f_m1traceCount : Int32) (r_m1startedList : Nat) (f_m1startedCount : Int32) (f_m1present : Int32) (f_m1quantum : Int32) (f_m1stepsDone : Int32) (f_m1turnSteps : Int32) (f_m1turnMost : Int32) (f_m1turnOver : Int32) (r_m1finder : Nat) (r_m1names : Nat) (f_m1fault : Int32) (f_m1wanted : Int32) (f_m1thrown : Int32) (ww2 : Nat) (r_m2heap : Nat) (r_m2runs : Nat) (r_m2counts : Nat) (r_m2traceRow : Nat) (f_m2traceCount : Int32) (r_m2startedList : Nat) (f_m2startedCount : Int32) (f_m2present : Int32) (f_m2quantum : Int32) (f_m2stepsDone : Int32) (f_m2turnSteps : Int32) (f_m2turnMost : Int32) (f_m2turnOver : Int32) (r_m2finder : Nat) (r_m2names : Nat) (f_m2fault : Int32) (f_m2wanted : Int32) (f_m2thrown : Int32) (r_w0names : Nat) (f_w0wrongClass : Int32) (f_w0wrongMethod : Int32) (f_w0wrongAt : Int32) (r_w0rows : Nat) (r_w0above : Nat) (r_w0fields : Nat) (r_w0methods : Nat) (r_w0codes : Nat) (r_w0handlers : Nat) (r_w0extra : Nat) (r_w0orders : Nat) (r_w0classNamed : Nat) (f_w0breaks : Int32) (r_w0marks : Nat) (r_w1names : Nat) (f_w1wrongClass : Int32) (f_w1wrongMethod : Int32) (f_w1wrongAt : Int32) (r_w1rows : Nat) (r_w1above : Nat) (r_w1fields : Nat) (r_w1methods : Nat) (r_w1codes : Nat) (r_w1handlers : Nat) (r_w1extra : Nat) (r_w1orders : Nat) (r_w1classNamed : Nat) (f_w1breaks : Int32) (r_w1marks : Nat) (r_w2names : Nat) (f_w2wrongClass : Int32) (f_w2wrongMethod : Int32) (f_w2wrongAt : Int32) (r_w2rows : Nat) (r_w2above : Nat) (r_w2fields : Nat) (r_w2methods : Nat) (r_w2codes : Nat) (r_w2handlers : Nat) (r_w2extra : Nat) (r_w2orders : Nat) (r_w2classNamed : Nat) (f_w2breaks : Int32) (r_w2marks : Nat) (h0X : Nat) (fsX : List Value) (owX : Nat) (v0X : Nat) (v1X : Nat) (v2X : Nat) (v3X : Nat) (fw0X : List Value) (fw1X : List Value) (fw2X : List Value) (G : GV l p s m #[Value.ref b] meth c (⟨"ClassWorksLaw", meth.name, ""⟩ : MethodName) code 4 ret g D sl A) (hX : va_X b 6 xs s s.heap) (hbl : b < s.heap.size) (hbA : ¬ A b) (hAA : ∀ q, A q → s.heap.size ≤ q) {H : Heap} {locs : List Loc} {ls : Array Slot} (glenX : fsX.length = 131) (gk0X : fsX[44]? = some (.ref owX)) (gw0X : fw0X.length = 72) (gt0X : fw0X[0]? = some (.int (nI 0))) (gw1X : fw1X.length = 72) (gt1X : fw1X[0]? = some (.int (nI 0))) (gw2X : fw2X.length = 72) (gt2X : fw2X[0]? = some (.int (nI 0))) (hP : va_P D CL [(h0, .inr (11, [.ref r_cwords, .ref r_creader, .ref r_cchecker, .ref r_cfinder, .ref r_cwriter, .ref r_cmachines, .ref r_ctape, .int (nI 0), .int (-2), .int (nI 60000), .ref r_cstock, .ref r_csizes, .ref r_cmet, .ref r_cfound, .int (nI 0), .ref r_cdraft, .int (nI 0), .int (nI 0), .ref r_cfewestFor, .ref r_cfewestNext])), (r_cmachines, .inl (g 4, 4, .inr (.inr (.inr (.inr (va_up (va_up (va_up (va_up (fun _ => none) 0 (some mm0)) 1 (some mm1)) 2 (some mm2)) 3 (some mm3))))))), (mm0, .inr (4, [.ref ww0, .ref r_m0heap, .ref r_m0runs, .ref r_m0counts, .ref r_m0traceRow, .int f_m0traceCount, .ref r_m0startedList, .int f_m0startedCount, .int f_m0present, .int f_m0quantum, .int f_m0stepsDone, .int f_m0turnSteps, .int f_m0turnMost, .int f_m0turnOver, .ref r_m0finder, .ref r_m0names, .int f_m0fault, .int f_m0wanted, .int f_m0thrown])), (mm1, .inr (4, [.ref ww1, .ref r_m1heap, .ref r_m1runs, .ref r_m1counts, .ref r_m1traceRow, .int f_m1traceCount, .ref r_m1startedList, .int f_m1startedCount, .int f_m1present, .int f_m1quantum, .int f_m1stepsDone, .int f_m1turnSteps, .int f_m1turnMost, .int f_m1turnOver, .ref r_m1finder, .ref r_m1names, .int f_m1fault, .int f_m1wanted, .int f_m1thrown])), (mm2, .inr (4, [.ref ww2, .ref r_m2heap, .ref r_m2runs, .ref r_m2counts, .ref r_m2traceRow, .int f_m2traceCount, .ref r_m2startedList, .int f_m2startedCount, .int f_m2present, .int f_m2quantum, .int f_m2stepsDone, .int f_m2turnSteps, .int f_m2turnMost, .int f_m2turnOver, .ref r_m2finder, .ref r_m2names, .int f_m2fault, .int f_m2wanted, .int f_m2thrown])), (ww0, .inr (9, [.ref r_w0names, .int (nI 0), .int (nI 21), .int f_w0wrongClass, .int f_w0wrongMethod, .int f_w0wrongAt, .ref r_w0rows, .ref r_w0above, .ref r_w0fields, .ref r_w0methods, .ref r_w0codes, .ref r_w0handlers, .ref r_w0extra, .ref r_w0orders, .ref r_w0classNamed, .int f_w0breaks, .ref r_w0marks])), (ww1, .inr (9, [.ref r_w1names, .int (nI 0), .int (nI 21), .int f_w1wrongClass, .int f_w1wrongMethod, .int f_w1wrongAt, .ref r_w1rows, .ref r_w1above, .ref r_w1fields, .ref r_w1methods, .ref r_w1codes, .ref r_w1handlers, .ref r_w1extra, .ref r_w1orders, .ref r_w1classNamed, .int f_w1breaks, .ref r_w1marks])), (ww2, .inr (9, [.ref r_w2names, .int (nI 0), .int (nI 21), .int f_w2wrongClass, .int f_w2wrongMethod, .int f_w2wrongAt, .ref r_w2rows, .ref r_w2above, .ref r_w2fields, .ref r_w2methods, .ref r_w2codes, .ref r_w2handlers, .ref r_w2extra, .ref r_w2orders, .ref r_w2classNamed, .int f_w2breaks, .ref r_w2marks])), (h0X, .inr (14, fsX)), (owX, .inl (g 6, 4, .inr (.inr (.inr (.inr (va_up (va_up (va_up (va_up (fun _ => none) 0 (some v0X)) 1 (some v1X)) 2 (some v2X)) 3 (some v3X))))))), (v0X, .inr (13, fw0X)), (v1X, .inr (13, fw1X)), (v2X, .inr (13, fw2X))] H) (hD : va_D A [(h0, .inr (11, [.ref r_cwords, .ref r_creader, .ref r_cchecker, .ref r_cfinder, .ref r_cwriter, .ref r_cmachines, .ref r_ctape, .int (nI 0), .int (-2), .int (nI 60000), .ref r_cstock, .ref r_csizes, .ref r_cmet, .ref r_cfound, .int (nI 0), .ref r_cdraft, .int (nI 0), .int (nI 0), .ref r_cfewestFor, .ref r_cfewestNext])), (r_cmachines, .inl (g 4, 4, .inr (.inr (.inr (.inr (va_up (va_up (va_up (va_up (fun _ => none) 0 (some mm0)) 1 (some mm1)) 2 (some mm2)) 3 (some mm3))))))), (mm0, .inr (4, [.ref ww0, .ref r_m0heap, .ref r_m0runs, .ref r_m0counts, .ref r_m0traceRow, .int f_m0traceCount, .ref r_m0startedList, .int f_m0startedCount, .int f_m0present, .int f_m0quantum, .int f_m0stepsDone, .int f_m0turnSteps, .int f_m0turnMost, .int f_m0turnOver, .ref r_m0finder, .ref r_m0names, .int f_m0fault, .int f_m0wanted, .int f_m0thrown])), (mm1, .inr (4, [.ref ww1, .ref r_m1heap, .ref r_m1runs, .ref r_m1counts, .ref r_m1traceRow, .int f_m1traceCount, .ref r_m1startedList, .int f_m1startedCount, .int f_m1present, .int f_m1quantum, .int f_m1stepsDone, .int f_m1turnSteps, .int f_m1turnMost, .int f_m1turnOver, .ref r_m1finder, .ref r_m1names, .int f_m1fault, .int f_m1wanted, .int f_m1thrown])), (mm2, .inr (4, [.ref ww2, .ref r_m2heap, .ref r_m2runs, .ref r_m2counts, .ref r_m2traceRow, .int f_m2traceCount, .ref r_m2startedList, .int f_m2startedCount, .int f_m2present, .int f_m2quantum, .int f_m2stepsDone, .int f_m2turnSteps, .int f_m2turnMost, .int f_m2turnOver, .ref r_m2finder, .ref r_m2names, .int f_m2fault, .int f_m2wanted, .int f_m2thrown])), (ww0, .inr (9, [.ref r_w0names, .int (nI 0), .int (nI 21), .int f_w0wrongClass, .int f_w0wrongMethod, .int f_w0wrongAt, .ref r_w0rows, .ref r_w0above, .ref r_w0fields, .ref r_w0methods, .ref r_w0codes, .ref r_w0handlers, .ref r_w0extra, .ref r_w0orders, .ref r_w0classNamed, .int f_w0breaks, .ref r_w0marks])), (ww1, .inr (9, [.ref r_w1names, .int (nI 0), .int (nI 21), .int f_w1wrongClass, .int f_w1wrongMethod, .int f_w1wrongAt, .ref r_w1rows, .ref r_w1above, .ref r_w1fields, .ref r_w1methods, .ref r_w1codes, .ref r_w1handlers, .ref r_w1extra, .ref r_w1orders, .ref r_w1classNamed, .int f_w1breaks, .ref r_w1marks])), (ww2, .inr (9, [.ref r_w2names, .int (nI 0), .int (nI 21), .int f_w2wrongClass, .int f_w2wrongMethod, .int f_w2wrongAt, .ref r_w2rows, .ref r_w2above, .ref r_w2fields, .ref r_w2methods, .ref r_w2codes, .ref r_w2handlers, .ref r_w2extra, .ref r_w2orders, .ref r_w2classNamed, .int f_w2breaks, .ref r_w2marks])), (h0X, .inr (14, fsX)), (owX, .inl (g 6, 4, .inr (.inr (.inr (.inr (va_up (va_up (va_up (va_up (fun _ => none) 0 (some v0X)) 1 (some v1X)) 2 (some v2X)) 3 (some v3X))))))), (v0X, .inr (13, fw0X)), (v1X, .inr (13, fw1X)), (v2X, .inr (13, fw2X))]) (hS : va_S A s.heap H locs) (hl : lv_has ls 4 [(0, .ref b), (1, .ref h0), (2, .ref h0X), (3, .int (nI 0))]) : W p l e room_1 s m #[Value.ref b] below meth c H locs 702 488194 (lw_Z below #[Value.ref b] s) (F0 m 1237 ls []) := by
  refine lv_aload_n G.1 G.2.1 d_Law_1237 rfl (lv_at hl 1 rfl) ?_
  refine lv_aload_n G.1 G.2.1 d_Law_1238 rfl (lv_at hl 0 rfl) ?_
  refine lv_iload_n G.1 G.2.1 d_Law_1239 rfl (lv_at hl 3 rfl) ?_
  refine lv_iconst (v := nI 1) G.1 G.2.1 d_Law_1240 (by decide) ?_
  refine lv_iadd G.1 G.2.1 d_Law_1241 ?_
  refine tpi (w := nI 1) (by decide) ?_
  refine va_sld G.1 G.2.1 hX hbl hbA hS (nI_inn (n := 6) (a := 1) (by decide) (by decide)) d_Law_1242 ?_
  refine tpi (w := (xs 1)) (by rw [nI_clamp (by decide)]) ?_
  refine lv_aload_n G.1 G.2.1 d_Law_1243 rfl (lv_at hl 0 rfl) ?_
  refine lv_iload_n G.1 G.2.1 d_Law_1244 rfl (lv_at hl 3 rfl) ?_
  refine lv_iconst (v := nI 2) G.1 G.2.1 d_Law_1245 (by decide) ?_
  refine lv_iadd G.1 G.2.1 d_Law_1246 ?_
  refine tpi (w := nI 2) (by decide) ?_
  refine va_sld G.1 G.2.1 hX hbl hbA hS (nI_inn (n := 6) (a := 2) (by decide) (by decide)) d_Law_1247 ?_
  refine tpi (w := (xs 2)) (by rw [nI_clamp (by decide)]) ?_
  refine W.eq (g2 := F0 m 1248 ls [.int (xs 2), .int (xs 1), .ref h0]) rfl ?_
  refine lv_aload_n G.1 G.2.1 d_Law_1248 rfl (lv_at hl 0 rfl) ?_
  refine lv_iload_n G.1 G.2.1 d_Law_1249 rfl (lv_at hl 3 rfl) ?_
  refine lv_iconst (v := nI 3) G.1 G.2.1 d_Law_1250 (by decide) ?_
  refine lv_iadd G.1 G.2.1 d_Law_1251 ?_
  refine tpi (w := nI 3) (by decide) ?_
  refine va_sld G.1 G.2.1 hX hbl hbA hS (nI_inn (n := 6) (a := 3) (by decide) (by decide)) d_Law_1252 ?_
  refine tpi (w := (xs 3)) (by rw [nI_clamp (by decide)]) ?_
  refine kEi (wr := [(h0X, .inr (14, fsX)), (owX, .inl (g 6, 4, .inr (.inr (.inr (.inr (va_up (va_up (va_up (va_up (fun _ => none) 0 (some v0X)) 1 (some v1X)) 2 (some v2X)) 3 (some v3X))))))), (v0X, .inr (13, fw0X)), (v1X, .inr (13, fw1X)), (v2X, .inr (13, fw2X))]) G (kV (As := [.int (xs 1), .int (xs 2), .int (xs 3)]) (rest := []) G hP hD hS [0, 1, 2, 3, 4, 5, 6, 7] rfl rfl (c_Cw_trace l D g h0 (xs 1) (xs 2) (xs 3) r_cwords r_creader r_cchecker r_cfinder r_cwriter r_cmachines r_ctape r_cstock r_csizes r_cmet r_cfound r_cdraft r_cfewestFor r_cfewestNext mm0 mm1 mm2 mm3 ww0 r_m0heap r_m0runs r_m0counts r_m0traceRow f_m0traceCount r_m0startedList f_m0startedCount f_m0present f_m0quantum f_m0stepsDone f_m0turnSteps f_m0turnMost f_m0turnOver r_m0finder r_m0names f_m0fault f_m0wanted f_m0thrown ww1 r_m1heap r_m1runs r_m1counts r_m1traceRow f_m1traceCount r_m1startedList f_m1startedCount f_m1present f_m1quantum f_m1stepsDone f_m1turnSteps f_m1turnMost f_m1turnOver r_m1finder r_m1names f_m1fault f_m1wanted f_m1thrown ww2 r_m2heap r_m2runs r_m2counts r_m2traceRow f_m2traceCount r_m2startedList f_m2startedCount f_m2present f_m2quantum f_m2stepsDone f_m2turnSteps f_m2turnMost f_m2turnOver r_m2finder r_m2names f_m2fault f_m2wanted f_m2thrown r_w0names f_w0wrongClass f_w0wrongMethod f_w0wrongAt r_w0rows r_w0above r_w0fields r_w0methods r_w0codes r_w0handlers r_w0extra r_w0orders r_w0classNamed f_w0breaks r_w0marks r_w1names f_w1wrongClass f_w1wrongMethod f_w1wrongAt r_w1rows r_w1above r_w1fields r_w1methods r_w1codes r_w1handlers r_w1extra r_w1orders r_w1classNamed f_w1breaks r_w1marks r_w2names f_w2wrongClass f_w2wrongMethod f_w2wrongAt r_w2rows r_w2above r_w2fields r_w2methods r_w2codes r_w2handlers r_w2extra r_w2orders r_w2classNamed f_w2breaks r_w2marks H.size ) w_Cw_trace q2341 rfl rfl ⟨Nat.le_of_ble_eq_true rfl, Nat.le_of_ble_eq_true rfl⟩ (fun _ h => absurd h List.not_mem_nil) 0 (ci := 11) rfl rfl rfl hl.1 rfl (Nat.le_of_ble_eq_true rfl) rfl ⟨Nat.le_of_ble_eq_true rfl, (Nat.le_of_ble_eq_true rfl)⟩ d_Law_1253) hP hD hS [0, 1, 2, 3, 4, 5, 6, 7] [8, 9, 10, 11, 12] rfl rfl rfl rfl (fun r_1 u_2 H locs hw hP hD hS hzH => ?_)
  have hw : r_1 = (-1) := hw
  have hP : va_P D CL [(h0X, .inr (14, fsX)), (owX, .inl (g 6, 4, .inr (.inr (.inr (.inr (va_up (va_up (va_up (va_up (fun _ => none) 0 (some v0X)) 1 (some v1X)) 2 (some v2X)) 3 (some v3X))))))), (v0X, .inr (13, fw0X)), (v1X, .inr (13, fw1X)), (v2X, .inr (13, fw2X))] H := hP
  have hD : va_D A [(h0X, .inr (14, fsX)), (owX, .inl (g 6, 4, .inr (.inr (.inr (.inr (va_up (va_up (va_up (va_up (fun _ => none) 0 (some v0X)) 1 (some v1X)) 2 (some v2X)) 3 (some v3X))))))), (v0X, .inr (13, fw0X)), (v1X, .inr (13, fw1X)), (v2X, .inr (13, fw2X))] := hD
  subst hw
  refine tpst (w := [.int (-1)]) rfl ?_
  refine lv_aload_n G.1 G.2.1 d_Law_1256 rfl (lv_at hl 2 rfl) ?_
  refine lv_aload_n G.1 G.2.1 d_Law_1257 rfl (lv_at hl 0 rfl) ?_
  refine lv_iload_n G.1 G.2.1 d_Law_1258 rfl (lv_at hl 3 rfl) ?_
  refine lv_iconst (v := nI 1) G.1 G.2.1 d_Law_1259 (by decide) ?_
  refine lv_iadd G.1 G.2.1 d_Law_1260 ?_
  refine tpi (w := nI 1) (by decide) ?_
  refine va_sld G.1 G.2.1 hX hbl hbA hS (nI_inn (n := 6) (a := 1) (by decide) (by decide)) d_Law_1261 ?_
  refine tpi (w := (xs 1)) (by rw [nI_clamp (by decide)]) ?_
  refine W.eq (g2 := F0 m 1262 ls [.int (xs 1), .ref h0X, .int (-1)]) rfl ?_
  refine lv_aload_n G.1 G.2.1 d_Law_1262 rfl (lv_at hl 0 rfl) ?_
  refine lv_iload_n G.1 G.2.1 d_Law_1263 rfl (lv_at hl 3 rfl) ?_
  refine lv_iconst (v := nI 2) G.1 G.2.1 d_Law_1264 (by decide) ?_
  refine lv_iadd G.1 G.2.1 d_Law_1265 ?_
  refine tpi (w := nI 2) (by decide) ?_
  refine va_sld G.1 G.2.1 hX hbl hbA hS (nI_inn (n := 6) (a := 2) (by decide) (by decide)) d_Law_1266 ?_
  refine tpi (w := (xs 2)) (by rw [nI_clamp (by decide)]) ?_
  refine lv_aload_n G.1 G.2.1 d_Law_1267 rfl (lv_at hl 0 rfl) ?_
  refine lv_iload_n G.1 G.2.1 d_Law_1268 rfl (lv_at hl 3 rfl) ?_
  refine lv_iconst (v := nI 3) G.1 G.2.1 d_Law_1269 (by decide) ?_
  refine lv_iadd G.1 G.2.1 d_Law_1270 ?_
  refine tpi (w := nI 3) (by decide) ?_
  refine va_sld G.1 G.2.1 hX hbl hbA hS (nI_inn (n := 6) (a := 3) (by decide) (by decide)) d_Law_1271 ?_
  refine tpi (w := (xs 3)) (by rw [nI_clamp (by decide)]) ?_
  refine kEi (wr := []) G (kV (As := [.int (xs 1), .int (xs 2), .int (xs 3)]) (rest := [.int (-1)]) G hP hD hS [0, 1, 2, 3, 4] rfl rfl (c_Mo_trace l D g h0X (xs 1) (xs 2) (xs 3) fsX owX v0X v1X v2X v3X fw0X fw1X fw2X H.size glenX gk0X gw0X gt0X gw1X gt1X gw2X gt2X) w_Mo_trace q4204 rfl rfl ⟨Nat.le_of_ble_eq_true rfl, Nat.le_of_ble_eq_true rfl⟩ (fun _ h => absurd h List.not_mem_nil) 0 (ci := 14) rfl rfl rfl hl.1 rfl (Nat.le_of_ble_eq_true rfl) rfl ⟨Nat.le_of_ble_eq_true rfl, (Nat.le_of_ble_eq_true rfl)⟩ d_Law_1272) hP hD hS [0, 1, 2, 3, 4] [] rfl rfl rfl rfl (fun r_3 u_4 H locs hw hP hD hS hzH => ?_)
  have hw : r_3 = (-1) := hw
  have hP : va_P D CL [] H := hP
  have hD : va_D A [] := hD
  subst hw
  refine tpst (w := [.int (-1), .int (-1)]) rfl ?_
  refine lv_icmp_eq (tgt := 1768) G.1 G.2.1 d_Law_1275 (by decide) (fun c1275 => ?_) (fun c1275 => absurd c1275 (fun h => h rfl))
  refine W.eq (g2 := F0 m 1768 ls []) rfl ?_
  refine lv_iinc (v := nI 6) (lv' := [(3, .int (nI 6)), (0, .ref b), (1, .ref h0), (2, .ref h0X)]) G.1 G.2.1 d_Law_1768 hl (k := 3) rfl (show (nI 0) + Int32.ofInt 6 = nI 6 from by decide) (by decide) rfl (fun ls hl => ?_)
  refine lv_goto (tgt := 18) G.1 G.2.1 d_Law_1771 (by decide) ?_
  refine lv_iload_n G.1 G.2.1 d_Law_18 rfl (lv_at hl 0 rfl) ?_
  refine lv_aload_n G.1 G.2.1 d_Law_19 rfl (lv_at hl 1 rfl) ?_
  refine va_slen G.1 G.2.1 hX hbl hbA hS d_Law_20 ?_
  refine tpi (w := nI 6) rfl ?_
  refine lv_bipush (v := nI 6) G.1 G.2.1 d_Law_21 (by decide) ?_
  refine lv_isub G.1 G.2.1 d_Law_23 ?_
  refine tpi (w := nI 0) (by decide) ?_
  refine lv_icmp_gt (tgt := 1774) G.1 G.2.1 d_Law_24 (by decide) (fun c24 => ?_) (fun c24 => absurd c24 (by decide))
  refine lv_iconst (v := nI 1) G.1 G.2.1 d_Law_1774 (by decide) ?_
  refine va_forget (fun q hq => hAA _ (hS.2.2 q hq)) ?_
  refine W.widen (k := 600002) (n := 7302232) (Nat.le_of_ble_eq_true rfl) (Nat.le_of_ble_eq_true rfl) ?_
  exact lw_ret G.1 G.2.1 G.2.2.2.1 G.2.2.2.2.1 d_Law_1775
theorem q2348 : Cond.code y_Cw_done b_Cw_done 4 (some .int) ∈ lw_ok := lw_okmem (List.mem_of_getElem? (i := 2348) (by decide +kernel)) rfl
theorem q2346 : Cond.instanceMethod y_Cw_done ∈ lw_ok := lw_okmem (List.mem_of_getElem? (i := 2346) (by decide +kernel)) rfl
theorem q2347 : Cond.selects y_Cw_done.cls y_Cw_done y_Cw_done ∈ lw_ok := lw_okmem (List.mem_of_getElem? (i := 2347) (by decide +kernel)) rfl
theorem w_Cw_done : CWv y_Cw_done b_Cw_done 4 (some .int) 2 ∧ Cond.instanceMethod y_Cw_done ∈ lw_ok ∧ Cond.selects y_Cw_done.cls y_Cw_done y_Cw_done ∈ lw_ok := ⟨⟨q2348, q329, by decide +kernel, by decide +kernel, by decide +kernel⟩, q2346, q2347⟩
theorem q2345 : Cond.methodLink "ClassWorksLaw" 133 y_Cw_done ∈ lw_ok := lw_okmem (List.mem_of_getElem? (i := 2345) (by decide +kernel)) rfl
theorem q4211 : Cond.code y_Mo_done b_Mo_done 3 (some .int) ∈ lw_ok := lw_okmem (List.mem_of_getElem? (i := 4211) (by decide +kernel)) rfl
theorem q4209 : Cond.instanceMethod y_Mo_done ∈ lw_ok := lw_okmem (List.mem_of_getElem? (i := 4209) (by decide +kernel)) rfl
theorem q4210 : Cond.selects y_Mo_done.cls y_Mo_done y_Mo_done ∈ lw_ok := lw_okmem (List.mem_of_getElem? (i := 4210) (by decide +kernel)) rfl
theorem w_Mo_done : CWv y_Mo_done b_Mo_done 3 (some .int) 2 ∧ Cond.instanceMethod y_Mo_done ∈ lw_ok ∧ Cond.selects y_Mo_done.cls y_Mo_done y_Mo_done ∈ lw_ok := ⟨⟨q4211, q348, by decide +kernel, by decide +kernel, by decide +kernel⟩, q4209, q4210⟩
theorem q4208 : Cond.methodLink "ClassWorksLaw" 136 y_Mo_done ∈ lw_ok := lw_okmem (List.mem_of_getElem? (i := 4208) (by decide +kernel)) rfl
theorem d_Law_1280 : decode code 1280 = .ok (.aload_n 1, 1) := by decide +kernel
theorem d_Law_1281 : decode code 1281 = .ok (.aload_n 0, 1) := by decide +kernel
theorem d_Law_1282 : decode code 1282 = .ok (.iload_n 3, 1) := by decide +kernel
theorem d_Law_1283 : decode code 1283 = .ok (.iconst 1, 1) := by decide +kernel
theorem d_Law_1284 : decode code 1284 = .ok (.iadd, 1) := by decide +kernel
theorem d_Law_1285 : decode code 1285 = .ok (.iaload, 1) := by decide +kernel
theorem d_Law_1286 : decode code 1286 = .ok (.aload_n 0, 1) := by decide +kernel
theorem d_Law_1287 : decode code 1287 = .ok (.iload_n 3, 1) := by decide +kernel
theorem d_Law_1288 : decode code 1288 = .ok (.iconst 2, 1) := by decide +kernel
theorem d_Law_1289 : decode code 1289 = .ok (.iadd, 1) := by decide +kernel
theorem d_Law_1290 : decode code 1290 = .ok (.iaload, 1) := by decide +kernel
theorem d_Law_1291 : decode code 1291 = .ok (.invokevirtual 133, 3) := by decide +kernel
theorem d_Law_1294 : decode code 1294 = .ok (.aload_n 2, 1) := by decide +kernel
theorem d_Law_1295 : decode code 1295 = .ok (.aload_n 0, 1) := by decide +kernel
theorem d_Law_1296 : decode code 1296 = .ok (.iload_n 3, 1) := by decide +kernel
theorem d_Law_1297 : decode code 1297 = .ok (.iconst 1, 1) := by decide +kernel
theorem d_Law_1298 : decode code 1298 = .ok (.iadd, 1) := by decide +kernel
theorem d_Law_1299 : decode code 1299 = .ok (.iaload, 1) := by decide +kernel
theorem d_Law_1300 : decode code 1300 = .ok (.aload_n 0, 1) := by decide +kernel
theorem d_Law_1301 : decode code 1301 = .ok (.iload_n 3, 1) := by decide +kernel
theorem d_Law_1302 : decode code 1302 = .ok (.iconst 2, 1) := by decide +kernel
theorem d_Law_1303 : decode code 1303 = .ok (.iadd, 1) := by decide +kernel
theorem d_Law_1304 : decode code 1304 = .ok (.iaload, 1) := by decide +kernel
theorem d_Law_1305 : decode code 1305 = .ok (.invokevirtual 136, 3) := by decide +kernel
theorem d_Law_1308 : decode code 1308 = .ok (.if_icmp .eq 460, 3) := by decide +kernel
set_option maxHeartbeats 4000000 in
set_option maxRecDepth 100000 in
theorem law_done {p : Program} {e : Env} {s : State} {m : MethodId} {below : List Frame} {meth : Method} {c : Code} {l : Launch} {D : va_G} {g : Nat → ClassId} {sl : List SL} {b : Nat} {xs : Nat → Int32} {A : Nat → Prop} (h0 : Nat) (r_cwords : Nat) (r_creader : Nat) (r_cchecker : Nat) (r_cfinder : Nat) (r_cwriter : Nat) (r_cmachines : Nat) (r_ctape : Nat) (r_cstock : Nat) (r_csizes : Nat) (r_cmet : Nat) (r_cfound : Nat) (r_cdraft : Nat) (r_cfewestFor : Nat) (r_cfewestNext : Nat) (mm0 : Nat) (mm1 : Nat) (mm2 : Nat) (mm3 : Nat) (ww0 : Nat) (r_m0heap : Nat) (r_m0runs : Nat) (r_m0counts : Nat) (r_m0traceRow : Nat) (f_m0traceCount : Int32) (r_m0startedList : Nat) (f_m0startedCount : Int32) (f_m0present : Int32) (f_m0quantum : Int32) (f_m0stepsDone : Int32) (f_m0turnSteps : Int32) (f_m0turnMost : Int32) (f_m0turnOver : Int32) (r_m0finder : Nat) (r_m0names : Nat) (f_m0fault : Int32) (f_m0wanted : Int32) (f_m0thrown : Int32) (ww1 : Nat) (r_m1heap : Nat) (r_m1runs : Nat) (r_m1counts : Nat) (r_m1traceRow : Nat) (f_m1traceCount : Int32) (r_m1startedList : Nat) (f_m1startedCount : Int32) (f_m1present : Int32) (f_m1quantum : Int32) (f_m1stepsDone : Int32) (f_m1turnSteps : Int32) (f_m1turnMost : Int32) (f_m1turnOver : Int32) (r_m1finder : Nat) (r_m1names : Nat) (f_m1fault : Int32) (f_m1wanted : Int32) (f_m1thrown : Int32) (ww2 : Nat) (r_m2heap : Nat) (r_m2runs : Nat) (r_m2counts : Nat) (r_m2traceRow : Nat) (f_m2traceCount : Int32) (r_m2startedList : Nat) (f_m2startedCount : Int32) (f_m2present : Int32) (f_m2quantum : Int32) (f_m2stepsDone : Int32) (f_m2turnSteps : Int32) (f_m2turnMost : Int32) (f_m2turnOver : Int32) (r_m2finder : Nat) (r_m2names : Nat) (f_m2fault : Int32) (f_m2wanted : Int32) (f_m2thrown : Int32) (r_w0names : Nat) (f_w0wrongClass : Int32) (f_w0wrongMethod : Int32) (f_w0wrongAt : Int32) (r_w0rows : Nat) (r_w0above : Nat) (r_w0fields : Nat) (r_w0methods : Nat) (r_w0codes : Nat) (r_w0handlers : Nat) (r_w0extra : Nat) (r_w0orders : Nat) (r_w0classNamed : Nat) (f_w0breaks : Int32) (r_w0marks : Nat) (r_w1names : Nat) (f_w1wrongClass : Int32) (f_w1wrongMethod : Int32) (f_w1wrongAt : Int32) (r_w1rows : Nat) (r_w1above : Nat) (r_w1fields : Nat) (r_w1methods : Nat) (r_w1codes : Nat) (r_w1handlers : Nat) (r_w1extra : Nat) (r_w1orders : Nat) (r_w1classNamed : Nat) (f_w1breaks : Int32) (r_w1marks : Nat) (r_w2names : Nat) (f_w2wrongClass : Int32) (f_w2wrongMethod : Int32) (f_w2wrongAt : Int32) (r_w2rows : Nat) (r_w2above : Nat) (r_w2fields : Nat) (r_w2methods : Nat) (r_w2codes : Nat) (r_w2handlers : Nat) (r_w2extra : Nat) (r_w2orders : Nat) (r_w2classNamed : Nat) (f_w2breaks : Int32) (r_w2marks : Nat) (h0X : Nat) (fsX : List Value) (owX : Nat) (v0X : Nat) (v1X : Nat) (v2X : Nat) (v3X : Nat) (fw0X : List Value) (fw1X : List Value) (fw2X : List Value) (G : GV l p s m #[Value.ref b] meth c (⟨"ClassWorksLaw", meth.name, ""⟩ : MethodName) code 4 ret g D sl A) (hX : va_X b 6 xs s s.heap) (hbl : b < s.heap.size) (hbA : ¬ A b) (hAA : ∀ q, A q → s.heap.size ≤ q) {H : Heap} {locs : List Loc} {ls : Array Slot} (glenX : fsX.length = 131) (gk0X : fsX[44]? = some (.ref owX)) (gw0X : fw0X.length = 72) (gt0X : fw0X[0]? = some (.int (nI 0))) (gw1X : fw1X.length = 72) (gt1X : fw1X[0]? = some (.int (nI 0))) (gw2X : fw2X.length = 72) (gt2X : fw2X[0]? = some (.int (nI 0))) (hP : va_P D CL [(h0, .inr (11, [.ref r_cwords, .ref r_creader, .ref r_cchecker, .ref r_cfinder, .ref r_cwriter, .ref r_cmachines, .ref r_ctape, .int (nI 0), .int (-2), .int (nI 60000), .ref r_cstock, .ref r_csizes, .ref r_cmet, .ref r_cfound, .int (nI 0), .ref r_cdraft, .int (nI 0), .int (nI 0), .ref r_cfewestFor, .ref r_cfewestNext])), (r_cmachines, .inl (g 4, 4, .inr (.inr (.inr (.inr (va_up (va_up (va_up (va_up (fun _ => none) 0 (some mm0)) 1 (some mm1)) 2 (some mm2)) 3 (some mm3))))))), (mm0, .inr (4, [.ref ww0, .ref r_m0heap, .ref r_m0runs, .ref r_m0counts, .ref r_m0traceRow, .int f_m0traceCount, .ref r_m0startedList, .int f_m0startedCount, .int f_m0present, .int f_m0quantum, .int f_m0stepsDone, .int f_m0turnSteps, .int f_m0turnMost, .int f_m0turnOver, .ref r_m0finder, .ref r_m0names, .int f_m0fault, .int f_m0wanted, .int f_m0thrown])), (mm1, .inr (4, [.ref ww1, .ref r_m1heap, .ref r_m1runs, .ref r_m1counts, .ref r_m1traceRow, .int f_m1traceCount, .ref r_m1startedList, .int f_m1startedCount, .int f_m1present, .int f_m1quantum, .int f_m1stepsDone, .int f_m1turnSteps, .int f_m1turnMost, .int f_m1turnOver, .ref r_m1finder, .ref r_m1names, .int f_m1fault, .int f_m1wanted, .int f_m1thrown])), (mm2, .inr (4, [.ref ww2, .ref r_m2heap, .ref r_m2runs, .ref r_m2counts, .ref r_m2traceRow, .int f_m2traceCount, .ref r_m2startedList, .int f_m2startedCount, .int f_m2present, .int f_m2quantum, .int f_m2stepsDone, .int f_m2turnSteps, .int f_m2turnMost, .int f_m2turnOver, .ref r_m2finder, .ref r_m2names, .int f_m2fault, .int f_m2wanted, .int f_m2thrown])), (ww0, .inr (9, [.ref r_w0names, .int (nI 0), .int (nI 21), .int f_w0wrongClass, .int f_w0wrongMethod, .int f_w0wrongAt, .ref r_w0rows, .ref r_w0above, .ref r_w0fields, .ref r_w0methods, .ref r_w0codes, .ref r_w0handlers, .ref r_w0extra, .ref r_w0orders, .ref r_w0classNamed, .int f_w0breaks, .ref r_w0marks])), (ww1, .inr (9, [.ref r_w1names, .int (nI 0), .int (nI 21), .int f_w1wrongClass, .int f_w1wrongMethod, .int f_w1wrongAt, .ref r_w1rows, .ref r_w1above, .ref r_w1fields, .ref r_w1methods, .ref r_w1codes, .ref r_w1handlers, .ref r_w1extra, .ref r_w1orders, .ref r_w1classNamed, .int f_w1breaks, .ref r_w1marks])), (ww2, .inr (9, [.ref r_w2names, .int (nI 0), .int (nI 21), .int f_w2wrongClass, .int f_w2wrongMethod, .int f_w2wrongAt, .ref r_w2rows, .ref r_w2above, .ref r_w2fields, .ref r_w2methods, .ref r_w2codes, .ref r_w2handlers, .ref r_w2extra, .ref r_w2orders, .ref r_w2classNamed, .int f_w2breaks, .ref r_w2marks])), (h0X, .inr (14, fsX)), (owX, .inl (g 6, 4, .inr (.inr (.inr (.inr (va_up (va_up (va_up (va_up (fun _ => none) 0 (some v0X)) 1 (some v1X)) 2 (some v2X)) 3 (some v3X))))))), (v0X, .inr (13, fw0X)), (v1X, .inr (13, fw1X)), (v2X, .inr (13, fw2X))] H) (hD : va_D A [(h0, .inr (11, [.ref r_cwords, .ref r_creader, .ref r_cchecker, .ref r_cfinder, .ref r_cwriter, .ref r_cmachines, .ref r_ctape, .int (nI 0), .int (-2), .int (nI 60000), .ref r_cstock, .ref r_csizes, .ref r_cmet, .ref r_cfound, .int (nI 0), .ref r_cdraft, .int (nI 0), .int (nI 0), .ref r_cfewestFor, .ref r_cfewestNext])), (r_cmachines, .inl (g 4, 4, .inr (.inr (.inr (.inr (va_up (va_up (va_up (va_up (fun _ => none) 0 (some mm0)) 1 (some mm1)) 2 (some mm2)) 3 (some mm3))))))), (mm0, .inr (4, [.ref ww0, .ref r_m0heap, .ref r_m0runs, .ref r_m0counts, .ref r_m0traceRow, .int f_m0traceCount, .ref r_m0startedList, .int f_m0startedCount, .int f_m0present, .int f_m0quantum, .int f_m0stepsDone, .int f_m0turnSteps, .int f_m0turnMost, .int f_m0turnOver, .ref r_m0finder, .ref r_m0names, .int f_m0fault, .int f_m0wanted, .int f_m0thrown])), (mm1, .inr (4, [.ref ww1, .ref r_m1heap, .ref r_m1runs, .ref r_m1counts, .ref r_m1traceRow, .int f_m1traceCount, .ref r_m1startedList, .int f_m1startedCount, .int f_m1present, .int f_m1quantum, .int f_m1stepsDone, .int f_m1turnSteps, .int f_m1turnMost, .int f_m1turnOver, .ref r_m1finder, .ref r_m1names, .int f_m1fault, .int f_m1wanted, .int f_m1thrown])), (mm2, .inr (4, [.ref ww2, .ref r_m2heap, .ref r_m2runs, .ref r_m2counts, .ref r_m2traceRow, .int f_m2traceCount, .ref r_m2startedList, .int f_m2startedCount, .int f_m2present, .int f_m2quantum, .int f_m2stepsDone, .int f_m2turnSteps, .int f_m2turnMost, .int f_m2turnOver, .ref r_m2finder, .ref r_m2names, .int f_m2fault, .int f_m2wanted, .int f_m2thrown])), (ww0, .inr (9, [.ref r_w0names, .int (nI 0), .int (nI 21), .int f_w0wrongClass, .int f_w0wrongMethod, .int f_w0wrongAt, .ref r_w0rows, .ref r_w0above, .ref r_w0fields, .ref r_w0methods, .ref r_w0codes, .ref r_w0handlers, .ref r_w0extra, .ref r_w0orders, .ref r_w0classNamed, .int f_w0breaks, .ref r_w0marks])), (ww1, .inr (9, [.ref r_w1names, .int (nI 0), .int (nI 21), .int f_w1wrongClass, .int f_w1wrongMethod, .int f_w1wrongAt, .ref r_w1rows, .ref r_w1above, .ref r_w1fields, .ref r_w1methods, .ref r_w1codes, .ref r_w1handlers, .ref r_w1extra, .ref r_w1orders, .ref r_w1classNamed, .int f_w1breaks, .ref r_w1marks])), (ww2, .inr (9, [.ref r_w2names, .int (nI 0), .int (nI 21), .int f_w2wrongClass, .int f_w2wrongMethod, .int f_w2wrongAt, .ref r_w2rows, .ref r_w2above, .ref r_w2fields, .ref r_w2methods, .ref r_w2codes, .ref r_w2handlers, .ref r_w2extra, .ref r_w2orders, .ref r_w2classNamed, .int f_w2breaks, .ref r_w2marks])), (h0X, .inr (14, fsX)), (owX, .inl (g 6, 4, .inr (.inr (.inr (.inr (va_up (va_up (va_up (va_up (fun _ => none) 0 (some v0X)) 1 (some v1X)) 2 (some v2X)) 3 (some v3X))))))), (v0X, .inr (13, fw0X)), (v1X, .inr (13, fw1X)), (v2X, .inr (13, fw2X))]) (hS : va_S A s.heap H locs) (hl : lv_has ls 4 [(0, .ref b), (1, .ref h0), (2, .ref h0X), (3, .int (nI 0))]) : W p l e room_1 s m #[Value.ref b] below meth c H locs 702 488194 (lw_Z below #[Value.ref b] s) (F0 m 1280 ls []) := by
  refine lv_aload_n G.1 G.2.1 d_Law_1280 rfl (lv_at hl 1 rfl) ?_
  refine lv_aload_n G.1 G.2.1 d_Law_1281 rfl (lv_at hl 0 rfl) ?_
  refine lv_iload_n G.1 G.2.1 d_Law_1282 rfl (lv_at hl 3 rfl) ?_
  refine lv_iconst (v := nI 1) G.1 G.2.1 d_Law_1283 (by decide) ?_
  refine lv_iadd G.1 G.2.1 d_Law_1284 ?_
  refine tpi (w := nI 1) (by decide) ?_
  refine va_sld G.1 G.2.1 hX hbl hbA hS (nI_inn (n := 6) (a := 1) (by decide) (by decide)) d_Law_1285 ?_
  refine tpi (w := (xs 1)) (by rw [nI_clamp (by decide)]) ?_
  refine lv_aload_n G.1 G.2.1 d_Law_1286 rfl (lv_at hl 0 rfl) ?_
  refine lv_iload_n G.1 G.2.1 d_Law_1287 rfl (lv_at hl 3 rfl) ?_
  refine lv_iconst (v := nI 2) G.1 G.2.1 d_Law_1288 (by decide) ?_
  refine lv_iadd G.1 G.2.1 d_Law_1289 ?_
  refine tpi (w := nI 2) (by decide) ?_
  refine va_sld G.1 G.2.1 hX hbl hbA hS (nI_inn (n := 6) (a := 2) (by decide) (by decide)) d_Law_1290 ?_
  refine tpi (w := (xs 2)) (by rw [nI_clamp (by decide)]) ?_
  refine W.eq (g2 := F0 m 1291 ls [.int (xs 2), .int (xs 1), .ref h0]) rfl ?_
  refine kEi (wr := [(h0X, .inr (14, fsX)), (owX, .inl (g 6, 4, .inr (.inr (.inr (.inr (va_up (va_up (va_up (va_up (fun _ => none) 0 (some v0X)) 1 (some v1X)) 2 (some v2X)) 3 (some v3X))))))), (v0X, .inr (13, fw0X)), (v1X, .inr (13, fw1X)), (v2X, .inr (13, fw2X))]) G (kV (As := [.int (xs 1), .int (xs 2)]) (rest := []) G hP hD hS [0, 1, 2, 3, 4, 5, 6, 7] rfl rfl (c_Cw_done l D g h0 (xs 1) (xs 2) r_cwords r_creader r_cchecker r_cfinder r_cwriter r_cmachines r_ctape r_cstock r_csizes r_cmet r_cfound r_cdraft r_cfewestFor r_cfewestNext mm0 mm1 mm2 mm3 ww0 r_m0heap r_m0runs r_m0counts r_m0traceRow f_m0traceCount r_m0startedList f_m0startedCount f_m0present f_m0quantum f_m0stepsDone f_m0turnSteps f_m0turnMost f_m0turnOver r_m0finder r_m0names f_m0fault f_m0wanted f_m0thrown ww1 r_m1heap r_m1runs r_m1counts r_m1traceRow f_m1traceCount r_m1startedList f_m1startedCount f_m1present f_m1quantum f_m1stepsDone f_m1turnSteps f_m1turnMost f_m1turnOver r_m1finder r_m1names f_m1fault f_m1wanted f_m1thrown ww2 r_m2heap r_m2runs r_m2counts r_m2traceRow f_m2traceCount r_m2startedList f_m2startedCount f_m2present f_m2quantum f_m2stepsDone f_m2turnSteps f_m2turnMost f_m2turnOver r_m2finder r_m2names f_m2fault f_m2wanted f_m2thrown r_w0names f_w0wrongClass f_w0wrongMethod f_w0wrongAt r_w0rows r_w0above r_w0fields r_w0methods r_w0codes r_w0handlers r_w0extra r_w0orders r_w0classNamed f_w0breaks r_w0marks r_w1names f_w1wrongClass f_w1wrongMethod f_w1wrongAt r_w1rows r_w1above r_w1fields r_w1methods r_w1codes r_w1handlers r_w1extra r_w1orders r_w1classNamed f_w1breaks r_w1marks r_w2names f_w2wrongClass f_w2wrongMethod f_w2wrongAt r_w2rows r_w2above r_w2fields r_w2methods r_w2codes r_w2handlers r_w2extra r_w2orders r_w2classNamed f_w2breaks r_w2marks H.size ) w_Cw_done q2345 rfl rfl ⟨Nat.le_of_ble_eq_true rfl, Nat.le_of_ble_eq_true rfl⟩ (fun _ h => absurd h List.not_mem_nil) 0 (ci := 11) rfl rfl rfl hl.1 rfl (Nat.le_of_ble_eq_true rfl) rfl ⟨Nat.le_of_ble_eq_true rfl, (Nat.le_of_ble_eq_true rfl)⟩ d_Law_1291) hP hD hS [0, 1, 2, 3, 4, 5, 6, 7] [8, 9, 10, 11, 12] rfl rfl rfl rfl (fun r_1 u_2 H locs hw hP hD hS hzH => ?_)
  have hw : r_1 = (-1) := hw
  have hP : va_P D CL [(h0X, .inr (14, fsX)), (owX, .inl (g 6, 4, .inr (.inr (.inr (.inr (va_up (va_up (va_up (va_up (fun _ => none) 0 (some v0X)) 1 (some v1X)) 2 (some v2X)) 3 (some v3X))))))), (v0X, .inr (13, fw0X)), (v1X, .inr (13, fw1X)), (v2X, .inr (13, fw2X))] H := hP
  have hD : va_D A [(h0X, .inr (14, fsX)), (owX, .inl (g 6, 4, .inr (.inr (.inr (.inr (va_up (va_up (va_up (va_up (fun _ => none) 0 (some v0X)) 1 (some v1X)) 2 (some v2X)) 3 (some v3X))))))), (v0X, .inr (13, fw0X)), (v1X, .inr (13, fw1X)), (v2X, .inr (13, fw2X))] := hD
  subst hw
  refine tpst (w := [.int (-1)]) rfl ?_
  refine lv_aload_n G.1 G.2.1 d_Law_1294 rfl (lv_at hl 2 rfl) ?_
  refine lv_aload_n G.1 G.2.1 d_Law_1295 rfl (lv_at hl 0 rfl) ?_
  refine lv_iload_n G.1 G.2.1 d_Law_1296 rfl (lv_at hl 3 rfl) ?_
  refine lv_iconst (v := nI 1) G.1 G.2.1 d_Law_1297 (by decide) ?_
  refine lv_iadd G.1 G.2.1 d_Law_1298 ?_
  refine tpi (w := nI 1) (by decide) ?_
  refine va_sld G.1 G.2.1 hX hbl hbA hS (nI_inn (n := 6) (a := 1) (by decide) (by decide)) d_Law_1299 ?_
  refine tpi (w := (xs 1)) (by rw [nI_clamp (by decide)]) ?_
  refine lv_aload_n G.1 G.2.1 d_Law_1300 rfl (lv_at hl 0 rfl) ?_
  refine lv_iload_n G.1 G.2.1 d_Law_1301 rfl (lv_at hl 3 rfl) ?_
  refine lv_iconst (v := nI 2) G.1 G.2.1 d_Law_1302 (by decide) ?_
  refine lv_iadd G.1 G.2.1 d_Law_1303 ?_
  refine tpi (w := nI 2) (by decide) ?_
  refine va_sld G.1 G.2.1 hX hbl hbA hS (nI_inn (n := 6) (a := 2) (by decide) (by decide)) d_Law_1304 ?_
  refine tpi (w := (xs 2)) (by rw [nI_clamp (by decide)]) ?_
  refine W.eq (g2 := F0 m 1305 ls [.int (xs 2), .int (xs 1), .ref h0X, .int (-1)]) rfl ?_
  refine kEi (wr := []) G (kV (As := [.int (xs 1), .int (xs 2)]) (rest := [.int (-1)]) G hP hD hS [0, 1, 2, 3, 4] rfl rfl (c_Mo_done l D g h0X (xs 1) (xs 2) fsX owX v0X v1X v2X v3X fw0X fw1X fw2X H.size glenX gk0X gw0X gt0X gw1X gt1X gw2X gt2X) w_Mo_done q4208 rfl rfl ⟨Nat.le_of_ble_eq_true rfl, Nat.le_of_ble_eq_true rfl⟩ (fun _ h => absurd h List.not_mem_nil) 0 (ci := 14) rfl rfl rfl hl.1 rfl (Nat.le_of_ble_eq_true rfl) rfl ⟨Nat.le_of_ble_eq_true rfl, (Nat.le_of_ble_eq_true rfl)⟩ d_Law_1305) hP hD hS [0, 1, 2, 3, 4] [] rfl rfl rfl rfl (fun r_3 u_4 H locs hw hP hD hS hzH => ?_)
  have hw : r_3 = (-1) := hw
  have hP : va_P D CL [] H := hP
  have hD : va_D A [] := hD
  subst hw
  refine tpst (w := [.int (-1), .int (-1)]) rfl ?_
  refine lv_icmp_eq (tgt := 1768) G.1 G.2.1 d_Law_1308 (by decide) (fun c1308 => ?_) (fun c1308 => absurd c1308 (fun h => h rfl))
  refine lv_iinc (v := nI 6) (lv' := [(3, .int (nI 6)), (0, .ref b), (1, .ref h0), (2, .ref h0X)]) G.1 G.2.1 d_Law_1768 hl (k := 3) rfl (show (nI 0) + Int32.ofInt 6 = nI 6 from by decide) (by decide) rfl (fun ls hl => ?_)
  refine lv_goto (tgt := 18) G.1 G.2.1 d_Law_1771 (by decide) ?_
  refine lv_iload_n G.1 G.2.1 d_Law_18 rfl (lv_at hl 0 rfl) ?_
  refine lv_aload_n G.1 G.2.1 d_Law_19 rfl (lv_at hl 1 rfl) ?_
  refine va_slen G.1 G.2.1 hX hbl hbA hS d_Law_20 ?_
  refine tpi (w := nI 6) rfl ?_
  refine lv_bipush (v := nI 6) G.1 G.2.1 d_Law_21 (by decide) ?_
  refine lv_isub G.1 G.2.1 d_Law_23 ?_
  refine tpi (w := nI 0) (by decide) ?_
  refine lv_icmp_gt (tgt := 1774) G.1 G.2.1 d_Law_24 (by decide) (fun c24 => ?_) (fun c24 => absurd c24 (by decide))
  refine lv_iconst (v := nI 1) G.1 G.2.1 d_Law_1774 (by decide) ?_
  refine va_forget (fun q hq => hAA _ (hS.2.2 q hq)) ?_
  refine W.widen (k := 600002) (n := 7302232) (Nat.le_of_ble_eq_true rfl) (Nat.le_of_ble_eq_true rfl) ?_
  exact lw_ret G.1 G.2.1 G.2.2.2.1 G.2.2.2.2.1 d_Law_1775
theorem q2352 : Cond.code y_Cw_collect b_Cw_collect 3 (some .int) ∈ lw_ok := lw_okmem (List.mem_of_getElem? (i := 2352) (by decide +kernel)) rfl
theorem q2350 : Cond.instanceMethod y_Cw_collect ∈ lw_ok := lw_okmem (List.mem_of_getElem? (i := 2350) (by decide +kernel)) rfl
theorem q2351 : Cond.selects y_Cw_collect.cls y_Cw_collect y_Cw_collect ∈ lw_ok := lw_okmem (List.mem_of_getElem? (i := 2351) (by decide +kernel)) rfl
theorem w_Cw_collect : CWv y_Cw_collect b_Cw_collect 3 (some .int) 1 ∧ Cond.instanceMethod y_Cw_collect ∈ lw_ok ∧ Cond.selects y_Cw_collect.cls y_Cw_collect y_Cw_collect ∈ lw_ok := ⟨⟨q2352, q329, by decide +kernel, by decide +kernel, by decide +kernel⟩, q2350, q2351⟩
theorem q2349 : Cond.methodLink "ClassWorksLaw" 137 y_Cw_collect ∈ lw_ok := lw_okmem (List.mem_of_getElem? (i := 2349) (by decide +kernel)) rfl
theorem q4188 : Cond.code y_Mo_collect b_Mo_collect 7 (some .int) ∈ lw_ok := lw_okmem (List.mem_of_getElem? (i := 4188) (by decide +kernel)) rfl
theorem q4186 : Cond.instanceMethod y_Mo_collect ∈ lw_ok := lw_okmem (List.mem_of_getElem? (i := 4186) (by decide +kernel)) rfl
theorem q4187 : Cond.selects y_Mo_collect.cls y_Mo_collect y_Mo_collect ∈ lw_ok := lw_okmem (List.mem_of_getElem? (i := 4187) (by decide +kernel)) rfl
theorem w_Mo_collect : CWv y_Mo_collect b_Mo_collect 7 (some .int) 1 ∧ Cond.instanceMethod y_Mo_collect ∈ lw_ok ∧ Cond.selects y_Mo_collect.cls y_Mo_collect y_Mo_collect ∈ lw_ok := ⟨⟨q4188, q348, by decide +kernel, by decide +kernel, by decide +kernel⟩, q4186, q4187⟩
theorem q4185 : Cond.methodLink "ClassWorksLaw" 140 y_Mo_collect ∈ lw_ok := lw_okmem (List.mem_of_getElem? (i := 4185) (by decide +kernel)) rfl
theorem d_Law_1313 : decode code 1313 = .ok (.aload_n 1, 1) := by decide +kernel
theorem d_Law_1314 : decode code 1314 = .ok (.aload_n 0, 1) := by decide +kernel
theorem d_Law_1315 : decode code 1315 = .ok (.iload_n 3, 1) := by decide +kernel
theorem d_Law_1316 : decode code 1316 = .ok (.iconst 1, 1) := by decide +kernel
theorem d_Law_1317 : decode code 1317 = .ok (.iadd, 1) := by decide +kernel
theorem d_Law_1318 : decode code 1318 = .ok (.iaload, 1) := by decide +kernel
theorem d_Law_1319 : decode code 1319 = .ok (.invokevirtual 137, 3) := by decide +kernel
theorem d_Law_1322 : decode code 1322 = .ok (.aload_n 2, 1) := by decide +kernel
theorem d_Law_1323 : decode code 1323 = .ok (.aload_n 0, 1) := by decide +kernel
theorem d_Law_1324 : decode code 1324 = .ok (.iload_n 3, 1) := by decide +kernel
theorem d_Law_1325 : decode code 1325 = .ok (.iconst 1, 1) := by decide +kernel
theorem d_Law_1326 : decode code 1326 = .ok (.iadd, 1) := by decide +kernel
theorem d_Law_1327 : decode code 1327 = .ok (.iaload, 1) := by decide +kernel
theorem d_Law_1328 : decode code 1328 = .ok (.invokevirtual 140, 3) := by decide +kernel
theorem d_Law_1331 : decode code 1331 = .ok (.if_icmp .eq 437, 3) := by decide +kernel
set_option maxHeartbeats 4000000 in
set_option maxRecDepth 100000 in
theorem law_collect {p : Program} {e : Env} {s : State} {m : MethodId} {below : List Frame} {meth : Method} {c : Code} {l : Launch} {D : va_G} {g : Nat → ClassId} {sl : List SL} {b : Nat} {xs : Nat → Int32} {A : Nat → Prop} (h0 : Nat) (r_cwords : Nat) (r_creader : Nat) (r_cchecker : Nat) (r_cfinder : Nat) (r_cwriter : Nat) (r_cmachines : Nat) (r_ctape : Nat) (r_cstock : Nat) (r_csizes : Nat) (r_cmet : Nat) (r_cfound : Nat) (r_cdraft : Nat) (r_cfewestFor : Nat) (r_cfewestNext : Nat) (mm0 : Nat) (mm1 : Nat) (mm2 : Nat) (mm3 : Nat) (ww0 : Nat) (r_m0heap : Nat) (r_m0runs : Nat) (r_m0counts : Nat) (r_m0traceRow : Nat) (f_m0traceCount : Int32) (r_m0startedList : Nat) (f_m0startedCount : Int32) (f_m0present : Int32) (f_m0quantum : Int32) (f_m0stepsDone : Int32) (f_m0turnSteps : Int32) (f_m0turnMost : Int32) (f_m0turnOver : Int32) (r_m0finder : Nat) (r_m0names : Nat) (f_m0fault : Int32) (f_m0wanted : Int32) (f_m0thrown : Int32) (ww1 : Nat) (r_m1heap : Nat) (r_m1runs : Nat) (r_m1counts : Nat) (r_m1traceRow : Nat) (f_m1traceCount : Int32) (r_m1startedList : Nat) (f_m1startedCount : Int32) (f_m1present : Int32) (f_m1quantum : Int32) (f_m1stepsDone : Int32) (f_m1turnSteps : Int32) (f_m1turnMost : Int32) (f_m1turnOver : Int32) (r_m1finder : Nat) (r_m1names : Nat) (f_m1fault : Int32) (f_m1wanted : Int32) (f_m1thrown : Int32) (ww2 : Nat) (r_m2heap : Nat) (r_m2runs : Nat) (r_m2counts : Nat) (r_m2traceRow : Nat) (f_m2traceCount : Int32) (r_m2startedList : Nat) (f_m2startedCount : Int32) (f_m2present : Int32) (f_m2quantum : Int32) (f_m2stepsDone : Int32) (f_m2turnSteps : Int32) (f_m2turnMost : Int32) (f_m2turnOver : Int32) (r_m2finder : Nat) (r_m2names : Nat) (f_m2fault : Int32) (f_m2wanted : Int32) (f_m2thrown : Int32) (r_w0names : Nat) (f_w0wrongClass : Int32) (f_w0wrongMethod : Int32) (f_w0wrongAt : Int32) (r_w0rows : Nat) (r_w0above : Nat) (r_w0fields : Nat) (r_w0methods : Nat) (r_w0codes : Nat) (r_w0handlers : Nat) (r_w0extra : Nat) (r_w0orders : Nat) (r_w0classNamed : Nat) (f_w0breaks : Int32) (r_w0marks : Nat) (r_w1names : Nat) (f_w1wrongClass : Int32) (f_w1wrongMethod : Int32) (f_w1wrongAt : Int32) (r_w1rows : Nat) (r_w1above : Nat) (r_w1fields : Nat) (r_w1methods : Nat) (r_w1codes : Nat) (r_w1handlers : Nat) (r_w1extra : Nat) (r_w1orders : Nat) (r_w1classNamed : Nat) (f_w1breaks : Int32) (r_w1marks : Nat) (r_w2names : Nat) (f_w2wrongClass : Int32) (f_w2wrongMethod : Int32) (f_w2wrongAt : Int32) (r_w2rows : Nat) (r_w2above : Nat) (r_w2fields : Nat) (r_w2methods : Nat) (r_w2codes : Nat) (r_w2handlers : Nat) (r_w2extra : Nat) (r_w2orders : Nat) (r_w2classNamed : Nat) (f_w2breaks : Int32) (r_w2marks : Nat) (h0X : Nat) (fsX : List Value) (owX : Nat) (v0X : Nat) (v1X : Nat) (v2X : Nat) (v3X : Nat) (fw0X : List Value) (fw1X : List Value) (fw2X : List Value) (G : GV l p s m #[Value.ref b] meth c (⟨"ClassWorksLaw", meth.name, ""⟩ : MethodName) code 4 ret g D sl A) (hX : va_X b 6 xs s s.heap) (hbl : b < s.heap.size) (hbA : ¬ A b) (hAA : ∀ q, A q → s.heap.size ≤ q) {H : Heap} {locs : List Loc} {ls : Array Slot} (glenX : fsX.length = 131) (gk0X : fsX[44]? = some (.ref owX)) (gw0X : fw0X.length = 72) (gt0X : fw0X[0]? = some (.int (nI 0))) (gw1X : fw1X.length = 72) (gt1X : fw1X[0]? = some (.int (nI 0))) (gw2X : fw2X.length = 72) (gt2X : fw2X[0]? = some (.int (nI 0))) (hP : va_P D CL [(h0, .inr (11, [.ref r_cwords, .ref r_creader, .ref r_cchecker, .ref r_cfinder, .ref r_cwriter, .ref r_cmachines, .ref r_ctape, .int (nI 0), .int (-2), .int (nI 60000), .ref r_cstock, .ref r_csizes, .ref r_cmet, .ref r_cfound, .int (nI 0), .ref r_cdraft, .int (nI 0), .int (nI 0), .ref r_cfewestFor, .ref r_cfewestNext])), (r_cmachines, .inl (g 4, 4, .inr (.inr (.inr (.inr (va_up (va_up (va_up (va_up (fun _ => none) 0 (some mm0)) 1 (some mm1)) 2 (some mm2)) 3 (some mm3))))))), (mm0, .inr (4, [.ref ww0, .ref r_m0heap, .ref r_m0runs, .ref r_m0counts, .ref r_m0traceRow, .int f_m0traceCount, .ref r_m0startedList, .int f_m0startedCount, .int f_m0present, .int f_m0quantum, .int f_m0stepsDone, .int f_m0turnSteps, .int f_m0turnMost, .int f_m0turnOver, .ref r_m0finder, .ref r_m0names, .int f_m0fault, .int f_m0wanted, .int f_m0thrown])), (mm1, .inr (4, [.ref ww1, .ref r_m1heap, .ref r_m1runs, .ref r_m1counts, .ref r_m1traceRow, .int f_m1traceCount, .ref r_m1startedList, .int f_m1startedCount, .int f_m1present, .int f_m1quantum, .int f_m1stepsDone, .int f_m1turnSteps, .int f_m1turnMost, .int f_m1turnOver, .ref r_m1finder, .ref r_m1names, .int f_m1fault, .int f_m1wanted, .int f_m1thrown])), (mm2, .inr (4, [.ref ww2, .ref r_m2heap, .ref r_m2runs, .ref r_m2counts, .ref r_m2traceRow, .int f_m2traceCount, .ref r_m2startedList, .int f_m2startedCount, .int f_m2present, .int f_m2quantum, .int f_m2stepsDone, .int f_m2turnSteps, .int f_m2turnMost, .int f_m2turnOver, .ref r_m2finder, .ref r_m2names, .int f_m2fault, .int f_m2wanted, .int f_m2thrown])), (ww0, .inr (9, [.ref r_w0names, .int (nI 0), .int (nI 21), .int f_w0wrongClass, .int f_w0wrongMethod, .int f_w0wrongAt, .ref r_w0rows, .ref r_w0above, .ref r_w0fields, .ref r_w0methods, .ref r_w0codes, .ref r_w0handlers, .ref r_w0extra, .ref r_w0orders, .ref r_w0classNamed, .int f_w0breaks, .ref r_w0marks])), (ww1, .inr (9, [.ref r_w1names, .int (nI 0), .int (nI 21), .int f_w1wrongClass, .int f_w1wrongMethod, .int f_w1wrongAt, .ref r_w1rows, .ref r_w1above, .ref r_w1fields, .ref r_w1methods, .ref r_w1codes, .ref r_w1handlers, .ref r_w1extra, .ref r_w1orders, .ref r_w1classNamed, .int f_w1breaks, .ref r_w1marks])), (ww2, .inr (9, [.ref r_w2names, .int (nI 0), .int (nI 21), .int f_w2wrongClass, .int f_w2wrongMethod, .int f_w2wrongAt, .ref r_w2rows, .ref r_w2above, .ref r_w2fields, .ref r_w2methods, .ref r_w2codes, .ref r_w2handlers, .ref r_w2extra, .ref r_w2orders, .ref r_w2classNamed, .int f_w2breaks, .ref r_w2marks])), (h0X, .inr (14, fsX)), (owX, .inl (g 6, 4, .inr (.inr (.inr (.inr (va_up (va_up (va_up (va_up (fun _ => none) 0 (some v0X)) 1 (some v1X)) 2 (some v2X)) 3 (some v3X))))))), (v0X, .inr (13, fw0X)), (v1X, .inr (13, fw1X)), (v2X, .inr (13, fw2X))] H) (hD : va_D A [(h0, .inr (11, [.ref r_cwords, .ref r_creader, .ref r_cchecker, .ref r_cfinder, .ref r_cwriter, .ref r_cmachines, .ref r_ctape, .int (nI 0), .int (-2), .int (nI 60000), .ref r_cstock, .ref r_csizes, .ref r_cmet, .ref r_cfound, .int (nI 0), .ref r_cdraft, .int (nI 0), .int (nI 0), .ref r_cfewestFor, .ref r_cfewestNext])), (r_cmachines, .inl (g 4, 4, .inr (.inr (.inr (.inr (va_up (va_up (va_up (va_up (fun _ => none) 0 (some mm0)) 1 (some mm1)) 2 (some mm2)) 3 (some mm3))))))), (mm0, .inr (4, [.ref ww0, .ref r_m0heap, .ref r_m0runs, .ref r_m0counts, .ref r_m0traceRow, .int f_m0traceCount, .ref r_m0startedList, .int f_m0startedCount, .int f_m0present, .int f_m0quantum, .int f_m0stepsDone, .int f_m0turnSteps, .int f_m0turnMost, .int f_m0turnOver, .ref r_m0finder, .ref r_m0names, .int f_m0fault, .int f_m0wanted, .int f_m0thrown])), (mm1, .inr (4, [.ref ww1, .ref r_m1heap, .ref r_m1runs, .ref r_m1counts, .ref r_m1traceRow, .int f_m1traceCount, .ref r_m1startedList, .int f_m1startedCount, .int f_m1present, .int f_m1quantum, .int f_m1stepsDone, .int f_m1turnSteps, .int f_m1turnMost, .int f_m1turnOver, .ref r_m1finder, .ref r_m1names, .int f_m1fault, .int f_m1wanted, .int f_m1thrown])), (mm2, .inr (4, [.ref ww2, .ref r_m2heap, .ref r_m2runs, .ref r_m2counts, .ref r_m2traceRow, .int f_m2traceCount, .ref r_m2startedList, .int f_m2startedCount, .int f_m2present, .int f_m2quantum, .int f_m2stepsDone, .int f_m2turnSteps, .int f_m2turnMost, .int f_m2turnOver, .ref r_m2finder, .ref r_m2names, .int f_m2fault, .int f_m2wanted, .int f_m2thrown])), (ww0, .inr (9, [.ref r_w0names, .int (nI 0), .int (nI 21), .int f_w0wrongClass, .int f_w0wrongMethod, .int f_w0wrongAt, .ref r_w0rows, .ref r_w0above, .ref r_w0fields, .ref r_w0methods, .ref r_w0codes, .ref r_w0handlers, .ref r_w0extra, .ref r_w0orders, .ref r_w0classNamed, .int f_w0breaks, .ref r_w0marks])), (ww1, .inr (9, [.ref r_w1names, .int (nI 0), .int (nI 21), .int f_w1wrongClass, .int f_w1wrongMethod, .int f_w1wrongAt, .ref r_w1rows, .ref r_w1above, .ref r_w1fields, .ref r_w1methods, .ref r_w1codes, .ref r_w1handlers, .ref r_w1extra, .ref r_w1orders, .ref r_w1classNamed, .int f_w1breaks, .ref r_w1marks])), (ww2, .inr (9, [.ref r_w2names, .int (nI 0), .int (nI 21), .int f_w2wrongClass, .int f_w2wrongMethod, .int f_w2wrongAt, .ref r_w2rows, .ref r_w2above, .ref r_w2fields, .ref r_w2methods, .ref r_w2codes, .ref r_w2handlers, .ref r_w2extra, .ref r_w2orders, .ref r_w2classNamed, .int f_w2breaks, .ref r_w2marks])), (h0X, .inr (14, fsX)), (owX, .inl (g 6, 4, .inr (.inr (.inr (.inr (va_up (va_up (va_up (va_up (fun _ => none) 0 (some v0X)) 1 (some v1X)) 2 (some v2X)) 3 (some v3X))))))), (v0X, .inr (13, fw0X)), (v1X, .inr (13, fw1X)), (v2X, .inr (13, fw2X))]) (hS : va_S A s.heap H locs) (hl : lv_has ls 4 [(0, .ref b), (1, .ref h0), (2, .ref h0X), (3, .int (nI 0))]) : W p l e room_1 s m #[Value.ref b] below meth c H locs 702 488194 (lw_Z below #[Value.ref b] s) (F0 m 1313 ls []) := by
  refine lv_aload_n G.1 G.2.1 d_Law_1313 rfl (lv_at hl 1 rfl) ?_
  refine lv_aload_n G.1 G.2.1 d_Law_1314 rfl (lv_at hl 0 rfl) ?_
  refine lv_iload_n G.1 G.2.1 d_Law_1315 rfl (lv_at hl 3 rfl) ?_
  refine lv_iconst (v := nI 1) G.1 G.2.1 d_Law_1316 (by decide) ?_
  refine lv_iadd G.1 G.2.1 d_Law_1317 ?_
  refine tpi (w := nI 1) (by decide) ?_
  refine va_sld G.1 G.2.1 hX hbl hbA hS (nI_inn (n := 6) (a := 1) (by decide) (by decide)) d_Law_1318 ?_
  refine tpi (w := (xs 1)) (by rw [nI_clamp (by decide)]) ?_
  refine kEi (wr := [(h0X, .inr (14, fsX)), (owX, .inl (g 6, 4, .inr (.inr (.inr (.inr (va_up (va_up (va_up (va_up (fun _ => none) 0 (some v0X)) 1 (some v1X)) 2 (some v2X)) 3 (some v3X))))))), (v0X, .inr (13, fw0X)), (v1X, .inr (13, fw1X)), (v2X, .inr (13, fw2X))]) G (kV (As := [.int (xs 1)]) (rest := []) G hP hD hS [0, 1, 2, 3, 4, 5, 6, 7] rfl rfl (c_Cw_collect l D g h0 (xs 1) r_cwords r_creader r_cchecker r_cfinder r_cwriter r_cmachines r_ctape r_cstock r_csizes r_cmet r_cfound r_cdraft r_cfewestFor r_cfewestNext mm0 mm1 mm2 mm3 ww0 r_m0heap r_m0runs r_m0counts r_m0traceRow f_m0traceCount r_m0startedList f_m0startedCount f_m0present f_m0quantum f_m0stepsDone f_m0turnSteps f_m0turnMost f_m0turnOver r_m0finder r_m0names f_m0fault f_m0wanted f_m0thrown ww1 r_m1heap r_m1runs r_m1counts r_m1traceRow f_m1traceCount r_m1startedList f_m1startedCount f_m1present f_m1quantum f_m1stepsDone f_m1turnSteps f_m1turnMost f_m1turnOver r_m1finder r_m1names f_m1fault f_m1wanted f_m1thrown ww2 r_m2heap r_m2runs r_m2counts r_m2traceRow f_m2traceCount r_m2startedList f_m2startedCount f_m2present f_m2quantum f_m2stepsDone f_m2turnSteps f_m2turnMost f_m2turnOver r_m2finder r_m2names f_m2fault f_m2wanted f_m2thrown r_w0names f_w0wrongClass f_w0wrongMethod f_w0wrongAt r_w0rows r_w0above r_w0fields r_w0methods r_w0codes r_w0handlers r_w0extra r_w0orders r_w0classNamed f_w0breaks r_w0marks r_w1names f_w1wrongClass f_w1wrongMethod f_w1wrongAt r_w1rows r_w1above r_w1fields r_w1methods r_w1codes r_w1handlers r_w1extra r_w1orders r_w1classNamed f_w1breaks r_w1marks r_w2names f_w2wrongClass f_w2wrongMethod f_w2wrongAt r_w2rows r_w2above r_w2fields r_w2methods r_w2codes r_w2handlers r_w2extra r_w2orders r_w2classNamed f_w2breaks r_w2marks H.size ) w_Cw_collect q2349 rfl rfl ⟨Nat.le_of_ble_eq_true rfl, Nat.le_of_ble_eq_true rfl⟩ (fun _ h => absurd h List.not_mem_nil) 0 (ci := 11) rfl rfl rfl hl.1 rfl (Nat.le_of_ble_eq_true rfl) rfl ⟨Nat.le_of_ble_eq_true rfl, (Nat.le_of_ble_eq_true rfl)⟩ d_Law_1319) hP hD hS [0, 1, 2, 3, 4, 5, 6, 7] [8, 9, 10, 11, 12] rfl rfl rfl rfl (fun r_1 u_2 H locs hw hP hD hS hzH => ?_)
  have hw : r_1 = (-1) := hw
  have hP : va_P D CL [(h0X, .inr (14, fsX)), (owX, .inl (g 6, 4, .inr (.inr (.inr (.inr (va_up (va_up (va_up (va_up (fun _ => none) 0 (some v0X)) 1 (some v1X)) 2 (some v2X)) 3 (some v3X))))))), (v0X, .inr (13, fw0X)), (v1X, .inr (13, fw1X)), (v2X, .inr (13, fw2X))] H := hP
  have hD : va_D A [(h0X, .inr (14, fsX)), (owX, .inl (g 6, 4, .inr (.inr (.inr (.inr (va_up (va_up (va_up (va_up (fun _ => none) 0 (some v0X)) 1 (some v1X)) 2 (some v2X)) 3 (some v3X))))))), (v0X, .inr (13, fw0X)), (v1X, .inr (13, fw1X)), (v2X, .inr (13, fw2X))] := hD
  subst hw
  refine tpst (w := [.int (-1)]) rfl ?_
  refine lv_aload_n G.1 G.2.1 d_Law_1322 rfl (lv_at hl 2 rfl) ?_
  refine lv_aload_n G.1 G.2.1 d_Law_1323 rfl (lv_at hl 0 rfl) ?_
  refine lv_iload_n G.1 G.2.1 d_Law_1324 rfl (lv_at hl 3 rfl) ?_
  refine lv_iconst (v := nI 1) G.1 G.2.1 d_Law_1325 (by decide) ?_
  refine W.eq (g2 := F0 m 1326 ls [.int (nI 1), .int (nI 0), .ref b, .ref h0X, .int (-1)]) rfl ?_
  refine lv_iadd G.1 G.2.1 d_Law_1326 ?_
  refine tpi (w := nI 1) (by decide) ?_
  refine va_sld G.1 G.2.1 hX hbl hbA hS (nI_inn (n := 6) (a := 1) (by decide) (by decide)) d_Law_1327 ?_
  refine tpi (w := (xs 1)) (by rw [nI_clamp (by decide)]) ?_
  refine kEi (wr := []) G (kV (As := [.int (xs 1)]) (rest := [.int (-1)]) G hP hD hS [0, 1, 2, 3, 4] rfl rfl (c_Mo_collect l D g h0X (xs 1) fsX owX v0X v1X v2X v3X fw0X fw1X fw2X H.size glenX gk0X gw0X gt0X gw1X gt1X gw2X gt2X) w_Mo_collect q4185 rfl rfl ⟨Nat.le_of_ble_eq_true rfl, Nat.le_of_ble_eq_true rfl⟩ (fun _ h => absurd h List.not_mem_nil) 0 (ci := 14) rfl rfl rfl hl.1 rfl (Nat.le_of_ble_eq_true rfl) rfl ⟨Nat.le_of_ble_eq_true rfl, (Nat.le_of_ble_eq_true rfl)⟩ d_Law_1328) hP hD hS [0, 1, 2, 3, 4] [] rfl rfl rfl rfl (fun r_3 u_4 H locs hw hP hD hS hzH => ?_)
  have hw : r_3 = (-1) := hw
  have hP : va_P D CL [] H := hP
  have hD : va_D A [] := hD
  subst hw
  refine tpst (w := [.int (-1), .int (-1)]) rfl ?_
  refine lv_icmp_eq (tgt := 1768) G.1 G.2.1 d_Law_1331 (by decide) (fun c1331 => ?_) (fun c1331 => absurd c1331 (fun h => h rfl))
  refine lv_iinc (v := nI 6) (lv' := [(3, .int (nI 6)), (0, .ref b), (1, .ref h0), (2, .ref h0X)]) G.1 G.2.1 d_Law_1768 hl (k := 3) rfl (show (nI 0) + Int32.ofInt 6 = nI 6 from by decide) (by decide) rfl (fun ls hl => ?_)
  refine lv_goto (tgt := 18) G.1 G.2.1 d_Law_1771 (by decide) ?_
  refine lv_iload_n G.1 G.2.1 d_Law_18 rfl (lv_at hl 0 rfl) ?_
  refine lv_aload_n G.1 G.2.1 d_Law_19 rfl (lv_at hl 1 rfl) ?_
  refine va_slen G.1 G.2.1 hX hbl hbA hS d_Law_20 ?_
  refine tpi (w := nI 6) rfl ?_
  refine lv_bipush (v := nI 6) G.1 G.2.1 d_Law_21 (by decide) ?_
  refine lv_isub G.1 G.2.1 d_Law_23 ?_
  refine tpi (w := nI 0) (by decide) ?_
  refine lv_icmp_gt (tgt := 1774) G.1 G.2.1 d_Law_24 (by decide) (fun c24 => ?_) (fun c24 => absurd c24 (by decide))
  refine W.eq (g2 := F0 m 1774 ls []) rfl ?_
  refine lv_iconst (v := nI 1) G.1 G.2.1 d_Law_1774 (by decide) ?_
  refine va_forget (fun q hq => hAA _ (hS.2.2 q hq)) ?_
  refine W.widen (k := 600002) (n := 7302232) (Nat.le_of_ble_eq_true rfl) (Nat.le_of_ble_eq_true rfl) ?_
  exact lw_ret G.1 G.2.1 G.2.2.2.1 G.2.2.2.2.1 d_Law_1775
theorem q2390 : Cond.code y_Cw_differ b_Cw_differ 8 (some .int) ∈ lw_ok := lw_okmem (List.mem_of_getElem? (i := 2390) (by decide +kernel)) rfl
theorem q2388 : Cond.instanceMethod y_Cw_differ ∈ lw_ok := lw_okmem (List.mem_of_getElem? (i := 2388) (by decide +kernel)) rfl
theorem q2389 : Cond.selects y_Cw_differ.cls y_Cw_differ y_Cw_differ ∈ lw_ok := lw_okmem (List.mem_of_getElem? (i := 2389) (by decide +kernel)) rfl
theorem w_Cw_differ : CWv y_Cw_differ b_Cw_differ 8 (some .int) 5 ∧ Cond.instanceMethod y_Cw_differ ∈ lw_ok ∧ Cond.selects y_Cw_differ.cls y_Cw_differ y_Cw_differ ∈ lw_ok := ⟨⟨q2390, q329, by decide +kernel, by decide +kernel, by decide +kernel⟩, q2388, q2389⟩
theorem q2387 : Cond.methodLink "ClassWorksLaw" 141 y_Cw_differ ∈ lw_ok := lw_okmem (List.mem_of_getElem? (i := 2387) (by decide +kernel)) rfl
theorem q4196 : Cond.code y_Mo_differ b_Mo_differ 11 (some .int) ∈ lw_ok := lw_okmem (List.mem_of_getElem? (i := 4196) (by decide +kernel)) rfl
theorem q4194 : Cond.instanceMethod y_Mo_differ ∈ lw_ok := lw_okmem (List.mem_of_getElem? (i := 4194) (by decide +kernel)) rfl
theorem q4195 : Cond.selects y_Mo_differ.cls y_Mo_differ y_Mo_differ ∈ lw_ok := lw_okmem (List.mem_of_getElem? (i := 4195) (by decide +kernel)) rfl
theorem w_Mo_differ : CWv y_Mo_differ b_Mo_differ 11 (some .int) 5 ∧ Cond.instanceMethod y_Mo_differ ∈ lw_ok ∧ Cond.selects y_Mo_differ.cls y_Mo_differ y_Mo_differ ∈ lw_ok := ⟨⟨q4196, q348, by decide +kernel, by decide +kernel, by decide +kernel⟩, q4194, q4195⟩
theorem q4193 : Cond.methodLink "ClassWorksLaw" 144 y_Mo_differ ∈ lw_ok := lw_okmem (List.mem_of_getElem? (i := 4193) (by decide +kernel)) rfl
theorem d_Law_1336 : decode code 1336 = .ok (.aload_n 1, 1) := by decide +kernel
theorem d_Law_1337 : decode code 1337 = .ok (.aload_n 0, 1) := by decide +kernel
theorem d_Law_1338 : decode code 1338 = .ok (.iload_n 3, 1) := by decide +kernel
theorem d_Law_1339 : decode code 1339 = .ok (.iconst 1, 1) := by decide +kernel
theorem d_Law_1340 : decode code 1340 = .ok (.iadd, 1) := by decide +kernel
theorem d_Law_1341 : decode code 1341 = .ok (.iaload, 1) := by decide +kernel
theorem d_Law_1342 : decode code 1342 = .ok (.aload_n 0, 1) := by decide +kernel
theorem d_Law_1343 : decode code 1343 = .ok (.iload_n 3, 1) := by decide +kernel
theorem d_Law_1344 : decode code 1344 = .ok (.iconst 2, 1) := by decide +kernel
theorem d_Law_1345 : decode code 1345 = .ok (.iadd, 1) := by decide +kernel
theorem d_Law_1346 : decode code 1346 = .ok (.iaload, 1) := by decide +kernel
theorem d_Law_1347 : decode code 1347 = .ok (.aload_n 0, 1) := by decide +kernel
theorem d_Law_1348 : decode code 1348 = .ok (.iload_n 3, 1) := by decide +kernel
theorem d_Law_1349 : decode code 1349 = .ok (.iconst 3, 1) := by decide +kernel
theorem d_Law_1350 : decode code 1350 = .ok (.iadd, 1) := by decide +kernel
theorem d_Law_1351 : decode code 1351 = .ok (.iaload, 1) := by decide +kernel
theorem d_Law_1352 : decode code 1352 = .ok (.aload_n 0, 1) := by decide +kernel
theorem d_Law_1353 : decode code 1353 = .ok (.iload_n 3, 1) := by decide +kernel
theorem d_Law_1354 : decode code 1354 = .ok (.iconst 4, 1) := by decide +kernel
theorem d_Law_1355 : decode code 1355 = .ok (.iadd, 1) := by decide +kernel
theorem d_Law_1356 : decode code 1356 = .ok (.iaload, 1) := by decide +kernel
theorem d_Law_1357 : decode code 1357 = .ok (.aload_n 0, 1) := by decide +kernel
theorem d_Law_1358 : decode code 1358 = .ok (.iload_n 3, 1) := by decide +kernel
theorem d_Law_1359 : decode code 1359 = .ok (.iconst 5, 1) := by decide +kernel
theorem d_Law_1360 : decode code 1360 = .ok (.iadd, 1) := by decide +kernel
theorem d_Law_1361 : decode code 1361 = .ok (.iaload, 1) := by decide +kernel
theorem d_Law_1362 : decode code 1362 = .ok (.invokevirtual 141, 3) := by decide +kernel
theorem d_Law_1365 : decode code 1365 = .ok (.aload_n 2, 1) := by decide +kernel
theorem d_Law_1366 : decode code 1366 = .ok (.aload_n 0, 1) := by decide +kernel
theorem d_Law_1367 : decode code 1367 = .ok (.iload_n 3, 1) := by decide +kernel
theorem d_Law_1368 : decode code 1368 = .ok (.iconst 1, 1) := by decide +kernel
theorem d_Law_1369 : decode code 1369 = .ok (.iadd, 1) := by decide +kernel
theorem d_Law_1370 : decode code 1370 = .ok (.iaload, 1) := by decide +kernel
theorem d_Law_1371 : decode code 1371 = .ok (.aload_n 0, 1) := by decide +kernel
theorem d_Law_1372 : decode code 1372 = .ok (.iload_n 3, 1) := by decide +kernel
theorem d_Law_1373 : decode code 1373 = .ok (.iconst 2, 1) := by decide +kernel
theorem d_Law_1374 : decode code 1374 = .ok (.iadd, 1) := by decide +kernel
theorem d_Law_1375 : decode code 1375 = .ok (.iaload, 1) := by decide +kernel
theorem d_Law_1376 : decode code 1376 = .ok (.aload_n 0, 1) := by decide +kernel
theorem d_Law_1377 : decode code 1377 = .ok (.iload_n 3, 1) := by decide +kernel
theorem d_Law_1378 : decode code 1378 = .ok (.iconst 3, 1) := by decide +kernel
theorem d_Law_1379 : decode code 1379 = .ok (.iadd, 1) := by decide +kernel
theorem d_Law_1380 : decode code 1380 = .ok (.iaload, 1) := by decide +kernel
theorem d_Law_1381 : decode code 1381 = .ok (.aload_n 0, 1) := by decide +kernel
theorem d_Law_1382 : decode code 1382 = .ok (.iload_n 3, 1) := by decide +kernel
theorem d_Law_1383 : decode code 1383 = .ok (.iconst 4, 1) := by decide +kernel
theorem d_Law_1384 : decode code 1384 = .ok (.iadd, 1) := by decide +kernel
theorem d_Law_1385 : decode code 1385 = .ok (.iaload, 1) := by decide +kernel
theorem d_Law_1386 : decode code 1386 = .ok (.aload_n 0, 1) := by decide +kernel
theorem d_Law_1387 : decode code 1387 = .ok (.iload_n 3, 1) := by decide +kernel
theorem d_Law_1388 : decode code 1388 = .ok (.iconst 5, 1) := by decide +kernel
theorem d_Law_1389 : decode code 1389 = .ok (.iadd, 1) := by decide +kernel
theorem d_Law_1390 : decode code 1390 = .ok (.iaload, 1) := by decide +kernel
theorem d_Law_1391 : decode code 1391 = .ok (.invokevirtual 144, 3) := by decide +kernel
theorem d_Law_1394 : decode code 1394 = .ok (.if_icmp .eq 374, 3) := by decide +kernel
set_option maxHeartbeats 4000000 in
set_option maxRecDepth 100000 in
theorem law_differ {p : Program} {e : Env} {s : State} {m : MethodId} {below : List Frame} {meth : Method} {c : Code} {l : Launch} {D : va_G} {g : Nat → ClassId} {sl : List SL} {b : Nat} {xs : Nat → Int32} {A : Nat → Prop} (h0 : Nat) (r_cwords : Nat) (r_creader : Nat) (r_cchecker : Nat) (r_cfinder : Nat) (r_cwriter : Nat) (r_cmachines : Nat) (r_ctape : Nat) (r_cstock : Nat) (r_csizes : Nat) (r_cmet : Nat) (r_cfound : Nat) (r_cdraft : Nat) (r_cfewestFor : Nat) (r_cfewestNext : Nat) (mm0 : Nat) (mm1 : Nat) (mm2 : Nat) (mm3 : Nat) (ww0 : Nat) (r_m0heap : Nat) (r_m0runs : Nat) (r_m0counts : Nat) (r_m0traceRow : Nat) (f_m0traceCount : Int32) (r_m0startedList : Nat) (f_m0startedCount : Int32) (f_m0present : Int32) (f_m0quantum : Int32) (f_m0stepsDone : Int32) (f_m0turnSteps : Int32) (f_m0turnMost : Int32) (f_m0turnOver : Int32) (r_m0finder : Nat) (r_m0names : Nat) (f_m0fault : Int32) (f_m0wanted : Int32) (f_m0thrown : Int32) (ww1 : Nat) (r_m1heap : Nat) (r_m1runs : Nat) (r_m1counts : Nat) (r_m1traceRow : Nat) (f_m1traceCount : Int32) (r_m1startedList : Nat) (f_m1startedCount : Int32) (f_m1present : Int32) (f_m1quantum : Int32) (f_m1stepsDone : Int32) (f_m1turnSteps : Int32) (f_m1turnMost : Int32) (f_m1turnOver : Int32) (r_m1finder : Nat) (r_m1names : Nat) (f_m1fault : Int32) (f_m1wanted : Int32) (f_m1thrown : Int32) (ww2 : Nat) (r_m2heap : Nat) (r_m2runs : Nat) (r_m2counts : Nat) (r_m2traceRow : Nat) (f_m2traceCount : Int32) (r_m2startedList : Nat) (f_m2startedCount : Int32) (f_m2present : Int32) (f_m2quantum : Int32) (f_m2stepsDone : Int32) (f_m2turnSteps : Int32) (f_m2turnMost : Int32) (f_m2turnOver : Int32) (r_m2finder : Nat) (r_m2names : Nat) (f_m2fault : Int32) (f_m2wanted : Int32) (f_m2thrown : Int32) (r_w0names : Nat) (f_w0wrongClass : Int32) (f_w0wrongMethod : Int32) (f_w0wrongAt : Int32) (r_w0rows : Nat) (r_w0above : Nat) (r_w0fields : Nat) (r_w0methods : Nat) (r_w0codes : Nat) (r_w0handlers : Nat) (r_w0extra : Nat) (r_w0orders : Nat) (r_w0classNamed : Nat) (f_w0breaks : Int32) (r_w0marks : Nat) (r_w1names : Nat) (f_w1wrongClass : Int32) (f_w1wrongMethod : Int32) (f_w1wrongAt : Int32) (r_w1rows : Nat) (r_w1above : Nat) (r_w1fields : Nat) (r_w1methods : Nat) (r_w1codes : Nat) (r_w1handlers : Nat) (r_w1extra : Nat) (r_w1orders : Nat) (r_w1classNamed : Nat) (f_w1breaks : Int32) (r_w1marks : Nat) (r_w2names : Nat) (f_w2wrongClass : Int32) (f_w2wrongMethod : Int32) (f_w2wrongAt : Int32) (r_w2rows : Nat) (r_w2above : Nat) (r_w2fields : Nat) (r_w2methods : Nat) (r_w2codes : Nat) (r_w2handlers : Nat) (r_w2extra : Nat) (r_w2orders : Nat) (r_w2classNamed : Nat) (f_w2breaks : Int32) (r_w2marks : Nat) (h0X : Nat) (fsX : List Value) (owX : Nat) (v0X : Nat) (v1X : Nat) (v2X : Nat) (v3X : Nat) (fw0X : List Value) (fw1X : List Value) (fw2X : List Value) (G : GV l p s m #[Value.ref b] meth c (⟨"ClassWorksLaw", meth.name, ""⟩ : MethodName) code 4 ret g D sl A) (hX : va_X b 6 xs s s.heap) (hbl : b < s.heap.size) (hbA : ¬ A b) (hAA : ∀ q, A q → s.heap.size ≤ q) {H : Heap} {locs : List Loc} {ls : Array Slot} (glenX : fsX.length = 131) (gk0X : fsX[44]? = some (.ref owX)) (gw0X : fw0X.length = 72) (gt0X : fw0X[0]? = some (.int (nI 0))) (gw1X : fw1X.length = 72) (gt1X : fw1X[0]? = some (.int (nI 0))) (gw2X : fw2X.length = 72) (gt2X : fw2X[0]? = some (.int (nI 0))) (hP : va_P D CL [(h0, .inr (11, [.ref r_cwords, .ref r_creader, .ref r_cchecker, .ref r_cfinder, .ref r_cwriter, .ref r_cmachines, .ref r_ctape, .int (nI 0), .int (-2), .int (nI 60000), .ref r_cstock, .ref r_csizes, .ref r_cmet, .ref r_cfound, .int (nI 0), .ref r_cdraft, .int (nI 0), .int (nI 0), .ref r_cfewestFor, .ref r_cfewestNext])), (r_cmachines, .inl (g 4, 4, .inr (.inr (.inr (.inr (va_up (va_up (va_up (va_up (fun _ => none) 0 (some mm0)) 1 (some mm1)) 2 (some mm2)) 3 (some mm3))))))), (mm0, .inr (4, [.ref ww0, .ref r_m0heap, .ref r_m0runs, .ref r_m0counts, .ref r_m0traceRow, .int f_m0traceCount, .ref r_m0startedList, .int f_m0startedCount, .int f_m0present, .int f_m0quantum, .int f_m0stepsDone, .int f_m0turnSteps, .int f_m0turnMost, .int f_m0turnOver, .ref r_m0finder, .ref r_m0names, .int f_m0fault, .int f_m0wanted, .int f_m0thrown])), (mm1, .inr (4, [.ref ww1, .ref r_m1heap, .ref r_m1runs, .ref r_m1counts, .ref r_m1traceRow, .int f_m1traceCount, .ref r_m1startedList, .int f_m1startedCount, .int f_m1present, .int f_m1quantum, .int f_m1stepsDone, .int f_m1turnSteps, .int f_m1turnMost, .int f_m1turnOver, .ref r_m1finder, .ref r_m1names, .int f_m1fault, .int f_m1wanted, .int f_m1thrown])), (mm2, .inr (4, [.ref ww2, .ref r_m2heap, .ref r_m2runs, .ref r_m2counts, .ref r_m2traceRow, .int f_m2traceCount, .ref r_m2startedList, .int f_m2startedCount, .int f_m2present, .int f_m2quantum, .int f_m2stepsDone, .int f_m2turnSteps, .int f_m2turnMost, .int f_m2turnOver, .ref r_m2finder, .ref r_m2names, .int f_m2fault, .int f_m2wanted, .int f_m2thrown])), (ww0, .inr (9, [.ref r_w0names, .int (nI 0), .int (nI 21), .int f_w0wrongClass, .int f_w0wrongMethod, .int f_w0wrongAt, .ref r_w0rows, .ref r_w0above, .ref r_w0fields, .ref r_w0methods, .ref r_w0codes, .ref r_w0handlers, .ref r_w0extra, .ref r_w0orders, .ref r_w0classNamed, .int f_w0breaks, .ref r_w0marks])), (ww1, .inr (9, [.ref r_w1names, .int (nI 0), .int (nI 21), .int f_w1wrongClass, .int f_w1wrongMethod, .int f_w1wrongAt, .ref r_w1rows, .ref r_w1above, .ref r_w1fields, .ref r_w1methods, .ref r_w1codes, .ref r_w1handlers, .ref r_w1extra, .ref r_w1orders, .ref r_w1classNamed, .int f_w1breaks, .ref r_w1marks])), (ww2, .inr (9, [.ref r_w2names, .int (nI 0), .int (nI 21), .int f_w2wrongClass, .int f_w2wrongMethod, .int f_w2wrongAt, .ref r_w2rows, .ref r_w2above, .ref r_w2fields, .ref r_w2methods, .ref r_w2codes, .ref r_w2handlers, .ref r_w2extra, .ref r_w2orders, .ref r_w2classNamed, .int f_w2breaks, .ref r_w2marks])), (h0X, .inr (14, fsX)), (owX, .inl (g 6, 4, .inr (.inr (.inr (.inr (va_up (va_up (va_up (va_up (fun _ => none) 0 (some v0X)) 1 (some v1X)) 2 (some v2X)) 3 (some v3X))))))), (v0X, .inr (13, fw0X)), (v1X, .inr (13, fw1X)), (v2X, .inr (13, fw2X))] H) (hD : va_D A [(h0, .inr (11, [.ref r_cwords, .ref r_creader, .ref r_cchecker, .ref r_cfinder, .ref r_cwriter, .ref r_cmachines, .ref r_ctape, .int (nI 0), .int (-2), .int (nI 60000), .ref r_cstock, .ref r_csizes, .ref r_cmet, .ref r_cfound, .int (nI 0), .ref r_cdraft, .int (nI 0), .int (nI 0), .ref r_cfewestFor, .ref r_cfewestNext])), (r_cmachines, .inl (g 4, 4, .inr (.inr (.inr (.inr (va_up (va_up (va_up (va_up (fun _ => none) 0 (some mm0)) 1 (some mm1)) 2 (some mm2)) 3 (some mm3))))))), (mm0, .inr (4, [.ref ww0, .ref r_m0heap, .ref r_m0runs, .ref r_m0counts, .ref r_m0traceRow, .int f_m0traceCount, .ref r_m0startedList, .int f_m0startedCount, .int f_m0present, .int f_m0quantum, .int f_m0stepsDone, .int f_m0turnSteps, .int f_m0turnMost, .int f_m0turnOver, .ref r_m0finder, .ref r_m0names, .int f_m0fault, .int f_m0wanted, .int f_m0thrown])), (mm1, .inr (4, [.ref ww1, .ref r_m1heap, .ref r_m1runs, .ref r_m1counts, .ref r_m1traceRow, .int f_m1traceCount, .ref r_m1startedList, .int f_m1startedCount, .int f_m1present, .int f_m1quantum, .int f_m1stepsDone, .int f_m1turnSteps, .int f_m1turnMost, .int f_m1turnOver, .ref r_m1finder, .ref r_m1names, .int f_m1fault, .int f_m1wanted, .int f_m1thrown])), (mm2, .inr (4, [.ref ww2, .ref r_m2heap, .ref r_m2runs, .ref r_m2counts, .ref r_m2traceRow, .int f_m2traceCount, .ref r_m2startedList, .int f_m2startedCount, .int f_m2present, .int f_m2quantum, .int f_m2stepsDone, .int f_m2turnSteps, .int f_m2turnMost, .int f_m2turnOver, .ref r_m2finder, .ref r_m2names, .int f_m2fault, .int f_m2wanted, .int f_m2thrown])), (ww0, .inr (9, [.ref r_w0names, .int (nI 0), .int (nI 21), .int f_w0wrongClass, .int f_w0wrongMethod, .int f_w0wrongAt, .ref r_w0rows, .ref r_w0above, .ref r_w0fields, .ref r_w0methods, .ref r_w0codes, .ref r_w0handlers, .ref r_w0extra, .ref r_w0orders, .ref r_w0classNamed, .int f_w0breaks, .ref r_w0marks])), (ww1, .inr (9, [.ref r_w1names, .int (nI 0), .int (nI 21), .int f_w1wrongClass, .int f_w1wrongMethod, .int f_w1wrongAt, .ref r_w1rows, .ref r_w1above, .ref r_w1fields, .ref r_w1methods, .ref r_w1codes, .ref r_w1handlers, .ref r_w1extra, .ref r_w1orders, .ref r_w1classNamed, .int f_w1breaks, .ref r_w1marks])), (ww2, .inr (9, [.ref r_w2names, .int (nI 0), .int (nI 21), .int f_w2wrongClass, .int f_w2wrongMethod, .int f_w2wrongAt, .ref r_w2rows, .ref r_w2above, .ref r_w2fields, .ref r_w2methods, .ref r_w2codes, .ref r_w2handlers, .ref r_w2extra, .ref r_w2orders, .ref r_w2classNamed, .int f_w2breaks, .ref r_w2marks])), (h0X, .inr (14, fsX)), (owX, .inl (g 6, 4, .inr (.inr (.inr (.inr (va_up (va_up (va_up (va_up (fun _ => none) 0 (some v0X)) 1 (some v1X)) 2 (some v2X)) 3 (some v3X))))))), (v0X, .inr (13, fw0X)), (v1X, .inr (13, fw1X)), (v2X, .inr (13, fw2X))]) (hS : va_S A s.heap H locs) (hl : lv_has ls 4 [(0, .ref b), (1, .ref h0), (2, .ref h0X), (3, .int (nI 0))]) : W p l e room_1 s m #[Value.ref b] below meth c H locs 702 488194 (lw_Z below #[Value.ref b] s) (F0 m 1336 ls []) := by
  refine lv_aload_n G.1 G.2.1 d_Law_1336 rfl (lv_at hl 1 rfl) ?_
  refine lv_aload_n G.1 G.2.1 d_Law_1337 rfl (lv_at hl 0 rfl) ?_
  refine lv_iload_n G.1 G.2.1 d_Law_1338 rfl (lv_at hl 3 rfl) ?_
  refine lv_iconst (v := nI 1) G.1 G.2.1 d_Law_1339 (by decide) ?_
  refine lv_iadd G.1 G.2.1 d_Law_1340 ?_
  refine tpi (w := nI 1) (by decide) ?_
  refine va_sld G.1 G.2.1 hX hbl hbA hS (nI_inn (n := 6) (a := 1) (by decide) (by decide)) d_Law_1341 ?_
  refine tpi (w := (xs 1)) (by rw [nI_clamp (by decide)]) ?_
  refine lv_aload_n G.1 G.2.1 d_Law_1342 rfl (lv_at hl 0 rfl) ?_
  refine lv_iload_n G.1 G.2.1 d_Law_1343 rfl (lv_at hl 3 rfl) ?_
  refine lv_iconst (v := nI 2) G.1 G.2.1 d_Law_1344 (by decide) ?_
  refine lv_iadd G.1 G.2.1 d_Law_1345 ?_
  refine tpi (w := nI 2) (by decide) ?_
  refine va_sld G.1 G.2.1 hX hbl hbA hS (nI_inn (n := 6) (a := 2) (by decide) (by decide)) d_Law_1346 ?_
  refine tpi (w := (xs 2)) (by rw [nI_clamp (by decide)]) ?_
  refine W.eq (g2 := F0 m 1347 ls [.int (xs 2), .int (xs 1), .ref h0]) rfl ?_
  refine lv_aload_n G.1 G.2.1 d_Law_1347 rfl (lv_at hl 0 rfl) ?_
  refine lv_iload_n G.1 G.2.1 d_Law_1348 rfl (lv_at hl 3 rfl) ?_
  refine lv_iconst (v := nI 3) G.1 G.2.1 d_Law_1349 (by decide) ?_
  refine lv_iadd G.1 G.2.1 d_Law_1350 ?_
  refine tpi (w := nI 3) (by decide) ?_
  refine va_sld G.1 G.2.1 hX hbl hbA hS (nI_inn (n := 6) (a := 3) (by decide) (by decide)) d_Law_1351 ?_
  refine tpi (w := (xs 3)) (by rw [nI_clamp (by decide)]) ?_
  refine lv_aload_n G.1 G.2.1 d_Law_1352 rfl (lv_at hl 0 rfl) ?_
  refine lv_iload_n G.1 G.2.1 d_Law_1353 rfl (lv_at hl 3 rfl) ?_
  refine lv_iconst (v := nI 4) G.1 G.2.1 d_Law_1354 (by decide) ?_
  refine lv_iadd G.1 G.2.1 d_Law_1355 ?_
  refine tpi (w := nI 4) (by decide) ?_
  refine va_sld G.1 G.2.1 hX hbl hbA hS (nI_inn (n := 6) (a := 4) (by decide) (by decide)) d_Law_1356 ?_
  refine tpi (w := (xs 4)) (by rw [nI_clamp (by decide)]) ?_
  refine lv_aload_n G.1 G.2.1 d_Law_1357 rfl (lv_at hl 0 rfl) ?_
  refine lv_iload_n G.1 G.2.1 d_Law_1358 rfl (lv_at hl 3 rfl) ?_
  refine W.eq (g2 := F0 m 1359 ls [.int (nI 0), .ref b, .int (xs 4), .int (xs 3), .int (xs 2), .int (xs 1), .ref h0]) rfl ?_
  refine lv_iconst (v := nI 5) G.1 G.2.1 d_Law_1359 (by decide) ?_
  refine lv_iadd G.1 G.2.1 d_Law_1360 ?_
  refine tpi (w := nI 5) (by decide) ?_
  refine va_sld G.1 G.2.1 hX hbl hbA hS (nI_inn (n := 6) (a := 5) (by decide) (by decide)) d_Law_1361 ?_
  refine tpi (w := (xs 5)) (by rw [nI_clamp (by decide)]) ?_
  refine kEi (wr := [(h0X, .inr (14, fsX)), (owX, .inl (g 6, 4, .inr (.inr (.inr (.inr (va_up (va_up (va_up (va_up (fun _ => none) 0 (some v0X)) 1 (some v1X)) 2 (some v2X)) 3 (some v3X))))))), (v0X, .inr (13, fw0X)), (v1X, .inr (13, fw1X)), (v2X, .inr (13, fw2X))]) G (kV (As := [.int (xs 1), .int (xs 2), .int (xs 3), .int (xs 4), .int (xs 5)]) (rest := []) G hP hD hS [0, 1, 2, 3, 4, 5, 6, 7] rfl rfl (c_Cw_differ l D g h0 (xs 1) (xs 2) (xs 3) (xs 4) (xs 5) r_cwords r_creader r_cchecker r_cfinder r_cwriter r_cmachines r_ctape r_cstock r_csizes r_cmet r_cfound r_cdraft r_cfewestFor r_cfewestNext mm0 mm1 mm2 mm3 ww0 r_m0heap r_m0runs r_m0counts r_m0traceRow f_m0traceCount r_m0startedList f_m0startedCount f_m0present f_m0quantum f_m0stepsDone f_m0turnSteps f_m0turnMost f_m0turnOver r_m0finder r_m0names f_m0fault f_m0wanted f_m0thrown ww1 r_m1heap r_m1runs r_m1counts r_m1traceRow f_m1traceCount r_m1startedList f_m1startedCount f_m1present f_m1quantum f_m1stepsDone f_m1turnSteps f_m1turnMost f_m1turnOver r_m1finder r_m1names f_m1fault f_m1wanted f_m1thrown ww2 r_m2heap r_m2runs r_m2counts r_m2traceRow f_m2traceCount r_m2startedList f_m2startedCount f_m2present f_m2quantum f_m2stepsDone f_m2turnSteps f_m2turnMost f_m2turnOver r_m2finder r_m2names f_m2fault f_m2wanted f_m2thrown r_w0names f_w0wrongClass f_w0wrongMethod f_w0wrongAt r_w0rows r_w0above r_w0fields r_w0methods r_w0codes r_w0handlers r_w0extra r_w0orders r_w0classNamed f_w0breaks r_w0marks r_w1names f_w1wrongClass f_w1wrongMethod f_w1wrongAt r_w1rows r_w1above r_w1fields r_w1methods r_w1codes r_w1handlers r_w1extra r_w1orders r_w1classNamed f_w1breaks r_w1marks r_w2names f_w2wrongClass f_w2wrongMethod f_w2wrongAt r_w2rows r_w2above r_w2fields r_w2methods r_w2codes r_w2handlers r_w2extra r_w2orders r_w2classNamed f_w2breaks r_w2marks H.size ) w_Cw_differ q2387 rfl rfl ⟨Nat.le_of_ble_eq_true rfl, Nat.le_of_ble_eq_true rfl⟩ (fun _ h => absurd h List.not_mem_nil) 0 (ci := 11) rfl rfl rfl hl.1 rfl (Nat.le_of_ble_eq_true rfl) rfl ⟨Nat.le_of_ble_eq_true rfl, (Nat.le_of_ble_eq_true rfl)⟩ d_Law_1362) hP hD hS [0, 1, 2, 3, 4, 5, 6, 7] [8, 9, 10, 11, 12] rfl rfl rfl rfl (fun r_1 u_2 H locs hw hP hD hS hzH => ?_)
  have hw : r_1 = (-1) := hw
  have hP : va_P D CL [(h0X, .inr (14, fsX)), (owX, .inl (g 6, 4, .inr (.inr (.inr (.inr (va_up (va_up (va_up (va_up (fun _ => none) 0 (some v0X)) 1 (some v1X)) 2 (some v2X)) 3 (some v3X))))))), (v0X, .inr (13, fw0X)), (v1X, .inr (13, fw1X)), (v2X, .inr (13, fw2X))] H := hP
  have hD : va_D A [(h0X, .inr (14, fsX)), (owX, .inl (g 6, 4, .inr (.inr (.inr (.inr (va_up (va_up (va_up (va_up (fun _ => none) 0 (some v0X)) 1 (some v1X)) 2 (some v2X)) 3 (some v3X))))))), (v0X, .inr (13, fw0X)), (v1X, .inr (13, fw1X)), (v2X, .inr (13, fw2X))] := hD
  subst hw
  refine tpst (w := [.int (-1)]) rfl ?_
  refine lv_aload_n G.1 G.2.1 d_Law_1365 rfl (lv_at hl 2 rfl) ?_
  refine lv_aload_n G.1 G.2.1 d_Law_1366 rfl (lv_at hl 0 rfl) ?_
  refine lv_iload_n G.1 G.2.1 d_Law_1367 rfl (lv_at hl 3 rfl) ?_
  refine lv_iconst (v := nI 1) G.1 G.2.1 d_Law_1368 (by decide) ?_
  refine lv_iadd G.1 G.2.1 d_Law_1369 ?_
  refine tpi (w := nI 1) (by decide) ?_
  refine va_sld G.1 G.2.1 hX hbl hbA hS (nI_inn (n := 6) (a := 1) (by decide) (by decide)) d_Law_1370 ?_
  refine tpi (w := (xs 1)) (by rw [nI_clamp (by decide)]) ?_
  refine lv_aload_n G.1 G.2.1 d_Law_1371 rfl (lv_at hl 0 rfl) ?_
  refine lv_iload_n G.1 G.2.1 d_Law_1372 rfl (lv_at hl 3 rfl) ?_
  refine W.eq (g2 := F0 m 1373 ls [.int (nI 0), .ref b, .int (xs 1), .ref h0X, .int (-1)]) rfl ?_
  refine lv_iconst (v := nI 2) G.1 G.2.1 d_Law_1373 (by decide) ?_
  refine lv_iadd G.1 G.2.1 d_Law_1374 ?_
  refine tpi (w := nI 2) (by decide) ?_
  refine va_sld G.1 G.2.1 hX hbl hbA hS (nI_inn (n := 6) (a := 2) (by decide) (by decide)) d_Law_1375 ?_
  refine tpi (w := (xs 2)) (by rw [nI_clamp (by decide)]) ?_
  refine lv_aload_n G.1 G.2.1 d_Law_1376 rfl (lv_at hl 0 rfl) ?_
  refine lv_iload_n G.1 G.2.1 d_Law_1377 rfl (lv_at hl 3 rfl) ?_
  refine lv_iconst (v := nI 3) G.1 G.2.1 d_Law_1378 (by decide) ?_
  refine lv_iadd G.1 G.2.1 d_Law_1379 ?_
  refine tpi (w := nI 3) (by decide) ?_
  refine va_sld G.1 G.2.1 hX hbl hbA hS (nI_inn (n := 6) (a := 3) (by decide) (by decide)) d_Law_1380 ?_
  refine tpi (w := (xs 3)) (by rw [nI_clamp (by decide)]) ?_
  refine lv_aload_n G.1 G.2.1 d_Law_1381 rfl (lv_at hl 0 rfl) ?_
  refine lv_iload_n G.1 G.2.1 d_Law_1382 rfl (lv_at hl 3 rfl) ?_
  refine lv_iconst (v := nI 4) G.1 G.2.1 d_Law_1383 (by decide) ?_
  refine lv_iadd G.1 G.2.1 d_Law_1384 ?_
  refine tpi (w := nI 4) (by decide) ?_
  refine W.eq (g2 := F0 m 1385 ls [.int (nI 4), .ref b, .int (xs 3), .int (xs 2), .int (xs 1), .ref h0X, .int (-1)]) rfl ?_
  refine va_sld G.1 G.2.1 hX hbl hbA hS (nI_inn (n := 6) (a := 4) (by decide) (by decide)) d_Law_1385 ?_
  refine tpi (w := (xs 4)) (by rw [nI_clamp (by decide)]) ?_
  refine lv_aload_n G.1 G.2.1 d_Law_1386 rfl (lv_at hl 0 rfl) ?_
  refine lv_iload_n G.1 G.2.1 d_Law_1387 rfl (lv_at hl 3 rfl) ?_
  refine lv_iconst (v := nI 5) G.1 G.2.1 d_Law_1388 (by decide) ?_
  refine lv_iadd G.1 G.2.1 d_Law_1389 ?_
  refine tpi (w := nI 5) (by decide) ?_
  refine va_sld G.1 G.2.1 hX hbl hbA hS (nI_inn (n := 6) (a := 5) (by decide) (by decide)) d_Law_1390 ?_
  refine tpi (w := (xs 5)) (by rw [nI_clamp (by decide)]) ?_
  refine kEi (wr := []) G (kV (As := [.int (xs 1), .int (xs 2), .int (xs 3), .int (xs 4), .int (xs 5)]) (rest := [.int (-1)]) G hP hD hS [0, 1, 2, 3, 4] rfl rfl (c_Mo_differ l D g h0X (xs 1) (xs 2) (xs 3) (xs 4) (xs 5) fsX owX v0X v1X v2X v3X fw0X fw1X fw2X H.size glenX gk0X gw0X gt0X gw1X gt1X gw2X gt2X) w_Mo_differ q4193 rfl rfl ⟨Nat.le_of_ble_eq_true rfl, Nat.le_of_ble_eq_true rfl⟩ (fun _ h => absurd h List.not_mem_nil) 0 (ci := 14) rfl rfl rfl hl.1 rfl (Nat.le_of_ble_eq_true rfl) rfl ⟨Nat.le_of_ble_eq_true rfl, (Nat.le_of_ble_eq_true rfl)⟩ d_Law_1391) hP hD hS [0, 1, 2, 3, 4] [] rfl rfl rfl rfl (fun r_3 u_4 H locs hw hP hD hS hzH => ?_)
  have hw : r_3 = (-1) := hw
  have hP : va_P D CL [] H := hP
  have hD : va_D A [] := hD
  subst hw
  refine tpst (w := [.int (-1), .int (-1)]) rfl ?_
  refine lv_icmp_eq (tgt := 1768) G.1 G.2.1 d_Law_1394 (by decide) (fun c1394 => ?_) (fun c1394 => absurd c1394 (fun h => h rfl))
  refine lv_iinc (v := nI 6) (lv' := [(3, .int (nI 6)), (0, .ref b), (1, .ref h0), (2, .ref h0X)]) G.1 G.2.1 d_Law_1768 hl (k := 3) rfl (show (nI 0) + Int32.ofInt 6 = nI 6 from by decide) (by decide) rfl (fun ls hl => ?_)
  refine lv_goto (tgt := 18) G.1 G.2.1 d_Law_1771 (by decide) ?_
  refine lv_iload_n G.1 G.2.1 d_Law_18 rfl (lv_at hl 0 rfl) ?_
  refine lv_aload_n G.1 G.2.1 d_Law_19 rfl (lv_at hl 1 rfl) ?_
  refine W.eq (g2 := F0 m 20 ls [.ref b, .int (nI 6)]) rfl ?_
  refine va_slen G.1 G.2.1 hX hbl hbA hS d_Law_20 ?_
  refine tpi (w := nI 6) rfl ?_
  refine lv_bipush (v := nI 6) G.1 G.2.1 d_Law_21 (by decide) ?_
  refine lv_isub G.1 G.2.1 d_Law_23 ?_
  refine tpi (w := nI 0) (by decide) ?_
  refine lv_icmp_gt (tgt := 1774) G.1 G.2.1 d_Law_24 (by decide) (fun c24 => ?_) (fun c24 => absurd c24 (by decide))
  refine lv_iconst (v := nI 1) G.1 G.2.1 d_Law_1774 (by decide) ?_
  refine va_forget (fun q hq => hAA _ (hS.2.2 q hq)) ?_
  refine W.widen (k := 600002) (n := 7302232) (Nat.le_of_ble_eq_true rfl) (Nat.le_of_ble_eq_true rfl) ?_
  exact lw_ret G.1 G.2.1 G.2.2.2.1 G.2.2.2.2.1 d_Law_1775
theorem q2424 : Cond.code y_Cw_reach b_Cw_reach 5 (some .int) ∈ lw_ok := lw_okmem (List.mem_of_getElem? (i := 2424) (by decide +kernel)) rfl
theorem q2422 : Cond.instanceMethod y_Cw_reach ∈ lw_ok := lw_okmem (List.mem_of_getElem? (i := 2422) (by decide +kernel)) rfl
theorem q2423 : Cond.selects y_Cw_reach.cls y_Cw_reach y_Cw_reach ∈ lw_ok := lw_okmem (List.mem_of_getElem? (i := 2423) (by decide +kernel)) rfl
theorem w_Cw_reach : CWv y_Cw_reach b_Cw_reach 5 (some .int) 3 ∧ Cond.instanceMethod y_Cw_reach ∈ lw_ok ∧ Cond.selects y_Cw_reach.cls y_Cw_reach y_Cw_reach ∈ lw_ok := ⟨⟨q2424, q329, by decide +kernel, by decide +kernel, by decide +kernel⟩, q2422, q2423⟩
theorem q2421 : Cond.methodLink "ClassWorksLaw" 145 y_Cw_reach ∈ lw_ok := lw_okmem (List.mem_of_getElem? (i := 2421) (by decide +kernel)) rfl
theorem q4168 : Cond.code y_Mo_reach b_Mo_reach 7 (some .int) ∈ lw_ok := lw_okmem (List.mem_of_getElem? (i := 4168) (by decide +kernel)) rfl
theorem q4166 : Cond.instanceMethod y_Mo_reach ∈ lw_ok := lw_okmem (List.mem_of_getElem? (i := 4166) (by decide +kernel)) rfl
theorem q4167 : Cond.selects y_Mo_reach.cls y_Mo_reach y_Mo_reach ∈ lw_ok := lw_okmem (List.mem_of_getElem? (i := 4167) (by decide +kernel)) rfl
theorem w_Mo_reach : CWv y_Mo_reach b_Mo_reach 7 (some .int) 3 ∧ Cond.instanceMethod y_Mo_reach ∈ lw_ok ∧ Cond.selects y_Mo_reach.cls y_Mo_reach y_Mo_reach ∈ lw_ok := ⟨⟨q4168, q348, by decide +kernel, by decide +kernel, by decide +kernel⟩, q4166, q4167⟩
theorem q4165 : Cond.methodLink "ClassWorksLaw" 148 y_Mo_reach ∈ lw_ok := lw_okmem (List.mem_of_getElem? (i := 4165) (by decide +kernel)) rfl
theorem d_Law_1399 : decode code 1399 = .ok (.aload_n 1, 1) := by decide +kernel
theorem d_Law_1400 : decode code 1400 = .ok (.aload_n 0, 1) := by decide +kernel
theorem d_Law_1401 : decode code 1401 = .ok (.iload_n 3, 1) := by decide +kernel
theorem d_Law_1402 : decode code 1402 = .ok (.iconst 1, 1) := by decide +kernel
theorem d_Law_1403 : decode code 1403 = .ok (.iadd, 1) := by decide +kernel
theorem d_Law_1404 : decode code 1404 = .ok (.iaload, 1) := by decide +kernel
theorem d_Law_1405 : decode code 1405 = .ok (.aload_n 0, 1) := by decide +kernel
theorem d_Law_1406 : decode code 1406 = .ok (.iload_n 3, 1) := by decide +kernel
theorem d_Law_1407 : decode code 1407 = .ok (.iconst 2, 1) := by decide +kernel
theorem d_Law_1408 : decode code 1408 = .ok (.iadd, 1) := by decide +kernel
theorem d_Law_1409 : decode code 1409 = .ok (.iaload, 1) := by decide +kernel
theorem d_Law_1410 : decode code 1410 = .ok (.aload_n 0, 1) := by decide +kernel
theorem d_Law_1411 : decode code 1411 = .ok (.iload_n 3, 1) := by decide +kernel
theorem d_Law_1412 : decode code 1412 = .ok (.iconst 3, 1) := by decide +kernel
theorem d_Law_1413 : decode code 1413 = .ok (.iadd, 1) := by decide +kernel
theorem d_Law_1414 : decode code 1414 = .ok (.iaload, 1) := by decide +kernel
theorem d_Law_1415 : decode code 1415 = .ok (.invokevirtual 145, 3) := by decide +kernel
theorem d_Law_1418 : decode code 1418 = .ok (.aload_n 2, 1) := by decide +kernel
theorem d_Law_1419 : decode code 1419 = .ok (.aload_n 0, 1) := by decide +kernel
theorem d_Law_1420 : decode code 1420 = .ok (.iload_n 3, 1) := by decide +kernel
theorem d_Law_1421 : decode code 1421 = .ok (.iconst 1, 1) := by decide +kernel
theorem d_Law_1422 : decode code 1422 = .ok (.iadd, 1) := by decide +kernel
theorem d_Law_1423 : decode code 1423 = .ok (.iaload, 1) := by decide +kernel
theorem d_Law_1424 : decode code 1424 = .ok (.aload_n 0, 1) := by decide +kernel
theorem d_Law_1425 : decode code 1425 = .ok (.iload_n 3, 1) := by decide +kernel
theorem d_Law_1426 : decode code 1426 = .ok (.iconst 2, 1) := by decide +kernel
theorem d_Law_1427 : decode code 1427 = .ok (.iadd, 1) := by decide +kernel
theorem d_Law_1428 : decode code 1428 = .ok (.iaload, 1) := by decide +kernel
theorem d_Law_1429 : decode code 1429 = .ok (.aload_n 0, 1) := by decide +kernel
theorem d_Law_1430 : decode code 1430 = .ok (.iload_n 3, 1) := by decide +kernel
theorem d_Law_1431 : decode code 1431 = .ok (.iconst 3, 1) := by decide +kernel
theorem d_Law_1432 : decode code 1432 = .ok (.iadd, 1) := by decide +kernel
theorem d_Law_1433 : decode code 1433 = .ok (.iaload, 1) := by decide +kernel
theorem d_Law_1434 : decode code 1434 = .ok (.invokevirtual 148, 3) := by decide +kernel
theorem d_Law_1437 : decode code 1437 = .ok (.if_icmp .eq 331, 3) := by decide +kernel
set_option maxHeartbeats 4000000 in
set_option maxRecDepth 100000 in
theorem law_reach {p : Program} {e : Env} {s : State} {m : MethodId} {below : List Frame} {meth : Method} {c : Code} {l : Launch} {D : va_G} {g : Nat → ClassId} {sl : List SL} {b : Nat} {xs : Nat → Int32} {A : Nat → Prop} (h0 : Nat) (r_cwords : Nat) (r_creader : Nat) (r_cchecker : Nat) (r_cfinder : Nat) (r_cwriter : Nat) (r_cmachines : Nat) (r_ctape : Nat) (r_cstock : Nat) (r_csizes : Nat) (r_cmet : Nat) (r_cfound : Nat) (r_cdraft : Nat) (r_cfewestFor : Nat) (r_cfewestNext : Nat) (mm0 : Nat) (mm1 : Nat) (mm2 : Nat) (mm3 : Nat) (ww0 : Nat) (r_m0heap : Nat) (r_m0runs : Nat) (r_m0counts : Nat) (r_m0traceRow : Nat) (f_m0traceCount : Int32) (r_m0startedList : Nat) (f_m0startedCount : Int32) (f_m0present : Int32) (f_m0quantum : Int32) (f_m0stepsDone : Int32) (f_m0turnSteps : Int32) (f_m0turnMost : Int32) (f_m0turnOver : Int32) (r_m0finder : Nat) (r_m0names : Nat) (f_m0fault : Int32) (f_m0wanted : Int32) (f_m0thrown : Int32) (ww1 : Nat) (r_m1heap : Nat) (r_m1runs : Nat) (r_m1counts : Nat) (r_m1traceRow : Nat) (f_m1traceCount : Int32) (r_m1startedList : Nat) (f_m1startedCount : Int32) (f_m1present : Int32) (f_m1quantum : Int32) (f_m1stepsDone : Int32) (f_m1turnSteps : Int32) (f_m1turnMost : Int32) (f_m1turnOver : Int32) (r_m1finder : Nat) (r_m1names : Nat) (f_m1fault : Int32) (f_m1wanted : Int32) (f_m1thrown : Int32) (ww2 : Nat) (r_m2heap : Nat) (r_m2runs : Nat) (r_m2counts : Nat) (r_m2traceRow : Nat) (f_m2traceCount : Int32) (r_m2startedList : Nat) (f_m2startedCount : Int32) (f_m2present : Int32) (f_m2quantum : Int32) (f_m2stepsDone : Int32) (f_m2turnSteps : Int32) (f_m2turnMost : Int32) (f_m2turnOver : Int32) (r_m2finder : Nat) (r_m2names : Nat) (f_m2fault : Int32) (f_m2wanted : Int32) (f_m2thrown : Int32) (r_w0names : Nat) (f_w0wrongClass : Int32) (f_w0wrongMethod : Int32) (f_w0wrongAt : Int32) (r_w0rows : Nat) (r_w0above : Nat) (r_w0fields : Nat) (r_w0methods : Nat) (r_w0codes : Nat) (r_w0handlers : Nat) (r_w0extra : Nat) (r_w0orders : Nat) (r_w0classNamed : Nat) (f_w0breaks : Int32) (r_w0marks : Nat) (r_w1names : Nat) (f_w1wrongClass : Int32) (f_w1wrongMethod : Int32) (f_w1wrongAt : Int32) (r_w1rows : Nat) (r_w1above : Nat) (r_w1fields : Nat) (r_w1methods : Nat) (r_w1codes : Nat) (r_w1handlers : Nat) (r_w1extra : Nat) (r_w1orders : Nat) (r_w1classNamed : Nat) (f_w1breaks : Int32) (r_w1marks : Nat) (r_w2names : Nat) (f_w2wrongClass : Int32) (f_w2wrongMethod : Int32) (f_w2wrongAt : Int32) (r_w2rows : Nat) (r_w2above : Nat) (r_w2fields : Nat) (r_w2methods : Nat) (r_w2codes : Nat) (r_w2handlers : Nat) (r_w2extra : Nat) (r_w2orders : Nat) (r_w2classNamed : Nat) (f_w2breaks : Int32) (r_w2marks : Nat) (h0X : Nat) (fsX : List Value) (owX : Nat) (v0X : Nat) (v1X : Nat) (v2X : Nat) (v3X : Nat) (fw0X : List Value) (fw1X : List Value) (fw2X : List Value) (G : GV l p s m #[Value.ref b] meth c (⟨"ClassWorksLaw", meth.name, ""⟩ : MethodName) code 4 ret g D sl A) (hX : va_X b 6 xs s s.heap) (hbl : b < s.heap.size) (hbA : ¬ A b) (hAA : ∀ q, A q → s.heap.size ≤ q) {H : Heap} {locs : List Loc} {ls : Array Slot} (glenX : fsX.length = 131) (gk0X : fsX[44]? = some (.ref owX)) (gw0X : fw0X.length = 72) (gt0X : fw0X[0]? = some (.int (nI 0))) (gw1X : fw1X.length = 72) (gt1X : fw1X[0]? = some (.int (nI 0))) (gw2X : fw2X.length = 72) (gt2X : fw2X[0]? = some (.int (nI 0))) (hP : va_P D CL [(h0, .inr (11, [.ref r_cwords, .ref r_creader, .ref r_cchecker, .ref r_cfinder, .ref r_cwriter, .ref r_cmachines, .ref r_ctape, .int (nI 0), .int (-2), .int (nI 60000), .ref r_cstock, .ref r_csizes, .ref r_cmet, .ref r_cfound, .int (nI 0), .ref r_cdraft, .int (nI 0), .int (nI 0), .ref r_cfewestFor, .ref r_cfewestNext])), (r_cmachines, .inl (g 4, 4, .inr (.inr (.inr (.inr (va_up (va_up (va_up (va_up (fun _ => none) 0 (some mm0)) 1 (some mm1)) 2 (some mm2)) 3 (some mm3))))))), (mm0, .inr (4, [.ref ww0, .ref r_m0heap, .ref r_m0runs, .ref r_m0counts, .ref r_m0traceRow, .int f_m0traceCount, .ref r_m0startedList, .int f_m0startedCount, .int f_m0present, .int f_m0quantum, .int f_m0stepsDone, .int f_m0turnSteps, .int f_m0turnMost, .int f_m0turnOver, .ref r_m0finder, .ref r_m0names, .int f_m0fault, .int f_m0wanted, .int f_m0thrown])), (mm1, .inr (4, [.ref ww1, .ref r_m1heap, .ref r_m1runs, .ref r_m1counts, .ref r_m1traceRow, .int f_m1traceCount, .ref r_m1startedList, .int f_m1startedCount, .int f_m1present, .int f_m1quantum, .int f_m1stepsDone, .int f_m1turnSteps, .int f_m1turnMost, .int f_m1turnOver, .ref r_m1finder, .ref r_m1names, .int f_m1fault, .int f_m1wanted, .int f_m1thrown])), (mm2, .inr (4, [.ref ww2, .ref r_m2heap, .ref r_m2runs, .ref r_m2counts, .ref r_m2traceRow, .int f_m2traceCount, .ref r_m2startedList, .int f_m2startedCount, .int f_m2present, .int f_m2quantum, .int f_m2stepsDone, .int f_m2turnSteps, .int f_m2turnMost, .int f_m2turnOver, .ref r_m2finder, .ref r_m2names, .int f_m2fault, .int f_m2wanted, .int f_m2thrown])), (ww0, .inr (9, [.ref r_w0names, .int (nI 0), .int (nI 21), .int f_w0wrongClass, .int f_w0wrongMethod, .int f_w0wrongAt, .ref r_w0rows, .ref r_w0above, .ref r_w0fields, .ref r_w0methods, .ref r_w0codes, .ref r_w0handlers, .ref r_w0extra, .ref r_w0orders, .ref r_w0classNamed, .int f_w0breaks, .ref r_w0marks])), (ww1, .inr (9, [.ref r_w1names, .int (nI 0), .int (nI 21), .int f_w1wrongClass, .int f_w1wrongMethod, .int f_w1wrongAt, .ref r_w1rows, .ref r_w1above, .ref r_w1fields, .ref r_w1methods, .ref r_w1codes, .ref r_w1handlers, .ref r_w1extra, .ref r_w1orders, .ref r_w1classNamed, .int f_w1breaks, .ref r_w1marks])), (ww2, .inr (9, [.ref r_w2names, .int (nI 0), .int (nI 21), .int f_w2wrongClass, .int f_w2wrongMethod, .int f_w2wrongAt, .ref r_w2rows, .ref r_w2above, .ref r_w2fields, .ref r_w2methods, .ref r_w2codes, .ref r_w2handlers, .ref r_w2extra, .ref r_w2orders, .ref r_w2classNamed, .int f_w2breaks, .ref r_w2marks])), (h0X, .inr (14, fsX)), (owX, .inl (g 6, 4, .inr (.inr (.inr (.inr (va_up (va_up (va_up (va_up (fun _ => none) 0 (some v0X)) 1 (some v1X)) 2 (some v2X)) 3 (some v3X))))))), (v0X, .inr (13, fw0X)), (v1X, .inr (13, fw1X)), (v2X, .inr (13, fw2X))] H) (hD : va_D A [(h0, .inr (11, [.ref r_cwords, .ref r_creader, .ref r_cchecker, .ref r_cfinder, .ref r_cwriter, .ref r_cmachines, .ref r_ctape, .int (nI 0), .int (-2), .int (nI 60000), .ref r_cstock, .ref r_csizes, .ref r_cmet, .ref r_cfound, .int (nI 0), .ref r_cdraft, .int (nI 0), .int (nI 0), .ref r_cfewestFor, .ref r_cfewestNext])), (r_cmachines, .inl (g 4, 4, .inr (.inr (.inr (.inr (va_up (va_up (va_up (va_up (fun _ => none) 0 (some mm0)) 1 (some mm1)) 2 (some mm2)) 3 (some mm3))))))), (mm0, .inr (4, [.ref ww0, .ref r_m0heap, .ref r_m0runs, .ref r_m0counts, .ref r_m0traceRow, .int f_m0traceCount, .ref r_m0startedList, .int f_m0startedCount, .int f_m0present, .int f_m0quantum, .int f_m0stepsDone, .int f_m0turnSteps, .int f_m0turnMost, .int f_m0turnOver, .ref r_m0finder, .ref r_m0names, .int f_m0fault, .int f_m0wanted, .int f_m0thrown])), (mm1, .inr (4, [.ref ww1, .ref r_m1heap, .ref r_m1runs, .ref r_m1counts, .ref r_m1traceRow, .int f_m1traceCount, .ref r_m1startedList, .int f_m1startedCount, .int f_m1present, .int f_m1quantum, .int f_m1stepsDone, .int f_m1turnSteps, .int f_m1turnMost, .int f_m1turnOver, .ref r_m1finder, .ref r_m1names, .int f_m1fault, .int f_m1wanted, .int f_m1thrown])), (mm2, .inr (4, [.ref ww2, .ref r_m2heap, .ref r_m2runs, .ref r_m2counts, .ref r_m2traceRow, .int f_m2traceCount, .ref r_m2startedList, .int f_m2startedCount, .int f_m2present, .int f_m2quantum, .int f_m2stepsDone, .int f_m2turnSteps, .int f_m2turnMost, .int f_m2turnOver, .ref r_m2finder, .ref r_m2names, .int f_m2fault, .int f_m2wanted, .int f_m2thrown])), (ww0, .inr (9, [.ref r_w0names, .int (nI 0), .int (nI 21), .int f_w0wrongClass, .int f_w0wrongMethod, .int f_w0wrongAt, .ref r_w0rows, .ref r_w0above, .ref r_w0fields, .ref r_w0methods, .ref r_w0codes, .ref r_w0handlers, .ref r_w0extra, .ref r_w0orders, .ref r_w0classNamed, .int f_w0breaks, .ref r_w0marks])), (ww1, .inr (9, [.ref r_w1names, .int (nI 0), .int (nI 21), .int f_w1wrongClass, .int f_w1wrongMethod, .int f_w1wrongAt, .ref r_w1rows, .ref r_w1above, .ref r_w1fields, .ref r_w1methods, .ref r_w1codes, .ref r_w1handlers, .ref r_w1extra, .ref r_w1orders, .ref r_w1classNamed, .int f_w1breaks, .ref r_w1marks])), (ww2, .inr (9, [.ref r_w2names, .int (nI 0), .int (nI 21), .int f_w2wrongClass, .int f_w2wrongMethod, .int f_w2wrongAt, .ref r_w2rows, .ref r_w2above, .ref r_w2fields, .ref r_w2methods, .ref r_w2codes, .ref r_w2handlers, .ref r_w2extra, .ref r_w2orders, .ref r_w2classNamed, .int f_w2breaks, .ref r_w2marks])), (h0X, .inr (14, fsX)), (owX, .inl (g 6, 4, .inr (.inr (.inr (.inr (va_up (va_up (va_up (va_up (fun _ => none) 0 (some v0X)) 1 (some v1X)) 2 (some v2X)) 3 (some v3X))))))), (v0X, .inr (13, fw0X)), (v1X, .inr (13, fw1X)), (v2X, .inr (13, fw2X))]) (hS : va_S A s.heap H locs) (hl : lv_has ls 4 [(0, .ref b), (1, .ref h0), (2, .ref h0X), (3, .int (nI 0))]) : W p l e room_1 s m #[Value.ref b] below meth c H locs 702 488194 (lw_Z below #[Value.ref b] s) (F0 m 1399 ls []) := by
  refine lv_aload_n G.1 G.2.1 d_Law_1399 rfl (lv_at hl 1 rfl) ?_
  refine lv_aload_n G.1 G.2.1 d_Law_1400 rfl (lv_at hl 0 rfl) ?_
  refine lv_iload_n G.1 G.2.1 d_Law_1401 rfl (lv_at hl 3 rfl) ?_
  refine lv_iconst (v := nI 1) G.1 G.2.1 d_Law_1402 (by decide) ?_
  refine lv_iadd G.1 G.2.1 d_Law_1403 ?_
  refine tpi (w := nI 1) (by decide) ?_
  refine va_sld G.1 G.2.1 hX hbl hbA hS (nI_inn (n := 6) (a := 1) (by decide) (by decide)) d_Law_1404 ?_
  refine tpi (w := (xs 1)) (by rw [nI_clamp (by decide)]) ?_
  refine lv_aload_n G.1 G.2.1 d_Law_1405 rfl (lv_at hl 0 rfl) ?_
  refine lv_iload_n G.1 G.2.1 d_Law_1406 rfl (lv_at hl 3 rfl) ?_
  refine lv_iconst (v := nI 2) G.1 G.2.1 d_Law_1407 (by decide) ?_
  refine lv_iadd G.1 G.2.1 d_Law_1408 ?_
  refine tpi (w := nI 2) (by decide) ?_
  refine va_sld G.1 G.2.1 hX hbl hbA hS (nI_inn (n := 6) (a := 2) (by decide) (by decide)) d_Law_1409 ?_
  refine tpi (w := (xs 2)) (by rw [nI_clamp (by decide)]) ?_
  refine W.eq (g2 := F0 m 1410 ls [.int (xs 2), .int (xs 1), .ref h0]) rfl ?_
  refine lv_aload_n G.1 G.2.1 d_Law_1410 rfl (lv_at hl 0 rfl) ?_
  refine lv_iload_n G.1 G.2.1 d_Law_1411 rfl (lv_at hl 3 rfl) ?_
  refine lv_iconst (v := nI 3) G.1 G.2.1 d_Law_1412 (by decide) ?_
  refine lv_iadd G.1 G.2.1 d_Law_1413 ?_
  refine tpi (w := nI 3) (by decide) ?_
  refine va_sld G.1 G.2.1 hX hbl hbA hS (nI_inn (n := 6) (a := 3) (by decide) (by decide)) d_Law_1414 ?_
  refine tpi (w := (xs 3)) (by rw [nI_clamp (by decide)]) ?_
  refine kEi (wr := [(h0X, .inr (14, fsX)), (owX, .inl (g 6, 4, .inr (.inr (.inr (.inr (va_up (va_up (va_up (va_up (fun _ => none) 0 (some v0X)) 1 (some v1X)) 2 (some v2X)) 3 (some v3X))))))), (v0X, .inr (13, fw0X)), (v1X, .inr (13, fw1X)), (v2X, .inr (13, fw2X))]) G (kV (As := [.int (xs 1), .int (xs 2), .int (xs 3)]) (rest := []) G hP hD hS [0, 1, 2, 3, 4, 5, 6, 7] rfl rfl (c_Cw_reach l D g h0 (xs 1) (xs 2) (xs 3) r_cwords r_creader r_cchecker r_cfinder r_cwriter r_cmachines r_ctape r_cstock r_csizes r_cmet r_cfound r_cdraft r_cfewestFor r_cfewestNext mm0 mm1 mm2 mm3 ww0 r_m0heap r_m0runs r_m0counts r_m0traceRow f_m0traceCount r_m0startedList f_m0startedCount f_m0present f_m0quantum f_m0stepsDone f_m0turnSteps f_m0turnMost f_m0turnOver r_m0finder r_m0names f_m0fault f_m0wanted f_m0thrown ww1 r_m1heap r_m1runs r_m1counts r_m1traceRow f_m1traceCount r_m1startedList f_m1startedCount f_m1present f_m1quantum f_m1stepsDone f_m1turnSteps f_m1turnMost f_m1turnOver r_m1finder r_m1names f_m1fault f_m1wanted f_m1thrown ww2 r_m2heap r_m2runs r_m2counts r_m2traceRow f_m2traceCount r_m2startedList f_m2startedCount f_m2present f_m2quantum f_m2stepsDone f_m2turnSteps f_m2turnMost f_m2turnOver r_m2finder r_m2names f_m2fault f_m2wanted f_m2thrown r_w0names f_w0wrongClass f_w0wrongMethod f_w0wrongAt r_w0rows r_w0above r_w0fields r_w0methods r_w0codes r_w0handlers r_w0extra r_w0orders r_w0classNamed f_w0breaks r_w0marks r_w1names f_w1wrongClass f_w1wrongMethod f_w1wrongAt r_w1rows r_w1above r_w1fields r_w1methods r_w1codes r_w1handlers r_w1extra r_w1orders r_w1classNamed f_w1breaks r_w1marks r_w2names f_w2wrongClass f_w2wrongMethod f_w2wrongAt r_w2rows r_w2above r_w2fields r_w2methods r_w2codes r_w2handlers r_w2extra r_w2orders r_w2classNamed f_w2breaks r_w2marks H.size ) w_Cw_reach q2421 rfl rfl ⟨Nat.le_of_ble_eq_true rfl, Nat.le_of_ble_eq_true rfl⟩ (fun _ h => absurd h List.not_mem_nil) 0 (ci := 11) rfl rfl rfl hl.1 rfl (Nat.le_of_ble_eq_true rfl) rfl ⟨Nat.le_of_ble_eq_true rfl, (Nat.le_of_ble_eq_true rfl)⟩ d_Law_1415) hP hD hS [0, 1, 2, 3, 4, 5, 6, 7] [8, 9, 10, 11, 12] rfl rfl rfl rfl (fun r_1 u_2 H locs hw hP hD hS hzH => ?_)
  have hw : r_1 = (-1) := hw
  have hP : va_P D CL [(h0X, .inr (14, fsX)), (owX, .inl (g 6, 4, .inr (.inr (.inr (.inr (va_up (va_up (va_up (va_up (fun _ => none) 0 (some v0X)) 1 (some v1X)) 2 (some v2X)) 3 (some v3X))))))), (v0X, .inr (13, fw0X)), (v1X, .inr (13, fw1X)), (v2X, .inr (13, fw2X))] H := hP
  have hD : va_D A [(h0X, .inr (14, fsX)), (owX, .inl (g 6, 4, .inr (.inr (.inr (.inr (va_up (va_up (va_up (va_up (fun _ => none) 0 (some v0X)) 1 (some v1X)) 2 (some v2X)) 3 (some v3X))))))), (v0X, .inr (13, fw0X)), (v1X, .inr (13, fw1X)), (v2X, .inr (13, fw2X))] := hD
  subst hw
  refine tpst (w := [.int (-1)]) rfl ?_
  refine lv_aload_n G.1 G.2.1 d_Law_1418 rfl (lv_at hl 2 rfl) ?_
  refine lv_aload_n G.1 G.2.1 d_Law_1419 rfl (lv_at hl 0 rfl) ?_
  refine lv_iload_n G.1 G.2.1 d_Law_1420 rfl (lv_at hl 3 rfl) ?_
  refine lv_iconst (v := nI 1) G.1 G.2.1 d_Law_1421 (by decide) ?_
  refine lv_iadd G.1 G.2.1 d_Law_1422 ?_
  refine tpi (w := nI 1) (by decide) ?_
  refine va_sld G.1 G.2.1 hX hbl hbA hS (nI_inn (n := 6) (a := 1) (by decide) (by decide)) d_Law_1423 ?_
  refine tpi (w := (xs 1)) (by rw [nI_clamp (by decide)]) ?_
  refine W.eq (g2 := F0 m 1424 ls [.int (xs 1), .ref h0X, .int (-1)]) rfl ?_
  refine lv_aload_n G.1 G.2.1 d_Law_1424 rfl (lv_at hl 0 rfl) ?_
  refine lv_iload_n G.1 G.2.1 d_Law_1425 rfl (lv_at hl 3 rfl) ?_
  refine lv_iconst (v := nI 2) G.1 G.2.1 d_Law_1426 (by decide) ?_
  refine lv_iadd G.1 G.2.1 d_Law_1427 ?_
  refine tpi (w := nI 2) (by decide) ?_
  refine va_sld G.1 G.2.1 hX hbl hbA hS (nI_inn (n := 6) (a := 2) (by decide) (by decide)) d_Law_1428 ?_
  refine tpi (w := (xs 2)) (by rw [nI_clamp (by decide)]) ?_
  refine lv_aload_n G.1 G.2.1 d_Law_1429 rfl (lv_at hl 0 rfl) ?_
  refine lv_iload_n G.1 G.2.1 d_Law_1430 rfl (lv_at hl 3 rfl) ?_
  refine lv_iconst (v := nI 3) G.1 G.2.1 d_Law_1431 (by decide) ?_
  refine lv_iadd G.1 G.2.1 d_Law_1432 ?_
  refine tpi (w := nI 3) (by decide) ?_
  refine va_sld G.1 G.2.1 hX hbl hbA hS (nI_inn (n := 6) (a := 3) (by decide) (by decide)) d_Law_1433 ?_
  refine tpi (w := (xs 3)) (by rw [nI_clamp (by decide)]) ?_
  refine kEi (wr := []) G (kV (As := [.int (xs 1), .int (xs 2), .int (xs 3)]) (rest := [.int (-1)]) G hP hD hS [0, 1, 2, 3, 4] rfl rfl (c_Mo_reach l D g h0X (xs 1) (xs 2) (xs 3) fsX owX v0X v1X v2X v3X fw0X fw1X fw2X H.size glenX gk0X gw0X gt0X gw1X gt1X gw2X gt2X) w_Mo_reach q4165 rfl rfl ⟨Nat.le_of_ble_eq_true rfl, Nat.le_of_ble_eq_true rfl⟩ (fun _ h => absurd h List.not_mem_nil) 0 (ci := 14) rfl rfl rfl hl.1 rfl (Nat.le_of_ble_eq_true rfl) rfl ⟨Nat.le_of_ble_eq_true rfl, (Nat.le_of_ble_eq_true rfl)⟩ d_Law_1434) hP hD hS [0, 1, 2, 3, 4] [] rfl rfl rfl rfl (fun r_3 u_4 H locs hw hP hD hS hzH => ?_)
  have hw : r_3 = (-1) := hw
  have hP : va_P D CL [] H := hP
  have hD : va_D A [] := hD
  subst hw
  refine tpst (w := [.int (-1), .int (-1)]) rfl ?_
  refine lv_icmp_eq (tgt := 1768) G.1 G.2.1 d_Law_1437 (by decide) (fun c1437 => ?_) (fun c1437 => absurd c1437 (fun h => h rfl))
  refine W.eq (g2 := F0 m 1768 ls []) rfl ?_
  refine lv_iinc (v := nI 6) (lv' := [(3, .int (nI 6)), (0, .ref b), (1, .ref h0), (2, .ref h0X)]) G.1 G.2.1 d_Law_1768 hl (k := 3) rfl (show (nI 0) + Int32.ofInt 6 = nI 6 from by decide) (by decide) rfl (fun ls hl => ?_)
  refine lv_goto (tgt := 18) G.1 G.2.1 d_Law_1771 (by decide) ?_
  refine lv_iload_n G.1 G.2.1 d_Law_18 rfl (lv_at hl 0 rfl) ?_
  refine lv_aload_n G.1 G.2.1 d_Law_19 rfl (lv_at hl 1 rfl) ?_
  refine va_slen G.1 G.2.1 hX hbl hbA hS d_Law_20 ?_
  refine tpi (w := nI 6) rfl ?_
  refine lv_bipush (v := nI 6) G.1 G.2.1 d_Law_21 (by decide) ?_
  refine lv_isub G.1 G.2.1 d_Law_23 ?_
  refine tpi (w := nI 0) (by decide) ?_
  refine lv_icmp_gt (tgt := 1774) G.1 G.2.1 d_Law_24 (by decide) (fun c24 => ?_) (fun c24 => absurd c24 (by decide))
  refine lv_iconst (v := nI 1) G.1 G.2.1 d_Law_1774 (by decide) ?_
  refine va_forget (fun q hq => hAA _ (hS.2.2 q hq)) ?_
  refine W.widen (k := 600002) (n := 7302232) (Nat.le_of_ble_eq_true rfl) (Nat.le_of_ble_eq_true rfl) ?_
  exact lw_ret G.1 G.2.1 G.2.2.2.1 G.2.2.2.2.1 d_Law_1775
theorem q2449 : Cond.code y_Cw_reached b_Cw_reached 2 (some .int) ∈ lw_ok := lw_okmem (List.mem_of_getElem? (i := 2449) (by decide +kernel)) rfl
theorem q2447 : Cond.instanceMethod y_Cw_reached ∈ lw_ok := lw_okmem (List.mem_of_getElem? (i := 2447) (by decide +kernel)) rfl
theorem q2448 : Cond.selects y_Cw_reached.cls y_Cw_reached y_Cw_reached ∈ lw_ok := lw_okmem (List.mem_of_getElem? (i := 2448) (by decide +kernel)) rfl
theorem w_Cw_reached : CWv y_Cw_reached b_Cw_reached 2 (some .int) 1 ∧ Cond.instanceMethod y_Cw_reached ∈ lw_ok ∧ Cond.selects y_Cw_reached.cls y_Cw_reached y_Cw_reached ∈ lw_ok := ⟨⟨q2449, q329, by decide +kernel, by decide +kernel, by decide +kernel⟩, q2447, q2448⟩
theorem q2446 : Cond.methodLink "ClassWorksLaw" 149 y_Cw_reached ∈ lw_ok := lw_okmem (List.mem_of_getElem? (i := 2446) (by decide +kernel)) rfl
theorem q4184 : Cond.code y_Mo_reached b_Mo_reached 2 (some .int) ∈ lw_ok := lw_okmem (List.mem_of_getElem? (i := 4184) (by decide +kernel)) rfl
theorem q4182 : Cond.instanceMethod y_Mo_reached ∈ lw_ok := lw_okmem (List.mem_of_getElem? (i := 4182) (by decide +kernel)) rfl
theorem q4183 : Cond.selects y_Mo_reached.cls y_Mo_reached y_Mo_reached ∈ lw_ok := lw_okmem (List.mem_of_getElem? (i := 4183) (by decide +kernel)) rfl
theorem w_Mo_reached : CWv y_Mo_reached b_Mo_reached 2 (some .int) 1 ∧ Cond.instanceMethod y_Mo_reached ∈ lw_ok ∧ Cond.selects y_Mo_reached.cls y_Mo_reached y_Mo_reached ∈ lw_ok := ⟨⟨q4184, q348, by decide +kernel, by decide +kernel, by decide +kernel⟩, q4182, q4183⟩
theorem q4181 : Cond.methodLink "ClassWorksLaw" 152 y_Mo_reached ∈ lw_ok := lw_okmem (List.mem_of_getElem? (i := 4181) (by decide +kernel)) rfl
theorem d_Law_1442 : decode code 1442 = .ok (.aload_n 1, 1) := by decide +kernel
theorem d_Law_1443 : decode code 1443 = .ok (.aload_n 0, 1) := by decide +kernel
theorem d_Law_1444 : decode code 1444 = .ok (.iload_n 3, 1) := by decide +kernel
theorem d_Law_1445 : decode code 1445 = .ok (.iconst 1, 1) := by decide +kernel
theorem d_Law_1446 : decode code 1446 = .ok (.iadd, 1) := by decide +kernel
theorem d_Law_1447 : decode code 1447 = .ok (.iaload, 1) := by decide +kernel
theorem d_Law_1448 : decode code 1448 = .ok (.invokevirtual 149, 3) := by decide +kernel
theorem d_Law_1451 : decode code 1451 = .ok (.aload_n 2, 1) := by decide +kernel
theorem d_Law_1452 : decode code 1452 = .ok (.aload_n 0, 1) := by decide +kernel
theorem d_Law_1453 : decode code 1453 = .ok (.iload_n 3, 1) := by decide +kernel
theorem d_Law_1454 : decode code 1454 = .ok (.iconst 1, 1) := by decide +kernel
theorem d_Law_1455 : decode code 1455 = .ok (.iadd, 1) := by decide +kernel
theorem d_Law_1456 : decode code 1456 = .ok (.iaload, 1) := by decide +kernel
theorem d_Law_1457 : decode code 1457 = .ok (.invokevirtual 152, 3) := by decide +kernel
theorem d_Law_1460 : decode code 1460 = .ok (.if_icmp .eq 308, 3) := by decide +kernel
set_option maxHeartbeats 4000000 in
set_option maxRecDepth 100000 in
theorem law_reached {p : Program} {e : Env} {s : State} {m : MethodId} {below : List Frame} {meth : Method} {c : Code} {l : Launch} {D : va_G} {g : Nat → ClassId} {sl : List SL} {b : Nat} {xs : Nat → Int32} {A : Nat → Prop} (h0 : Nat) (r_cwords : Nat) (r_creader : Nat) (r_cchecker : Nat) (r_cfinder : Nat) (r_cwriter : Nat) (r_cmachines : Nat) (r_ctape : Nat) (r_cstock : Nat) (r_csizes : Nat) (r_cmet : Nat) (r_cfound : Nat) (r_cdraft : Nat) (r_cfewestFor : Nat) (r_cfewestNext : Nat) (f_fcls : Int32) (f_fmember : Int32) (f_fnamed : Int32) (r_freachList : Nat) (r_fnames : Nat) (r_fchecker : Nat) (r_fwaiting : Nat) (r_fphase : Nat) (r_fopen : Nat) (f_fopened : Int32) (i_frl : Nat) (h0X : Nat) (fsX : List Value) (G : GV l p s m #[Value.ref b] meth c (⟨"ClassWorksLaw", meth.name, ""⟩ : MethodName) code 4 ret g D sl A) (hX : va_X b 6 xs s s.heap) (hbl : b < s.heap.size) (hbA : ¬ A b) (hAA : ∀ q, A q → s.heap.size ≤ q) {H : Heap} {locs : List Loc} {ls : Array Slot} (glenX : fsX.length = 131) (gk0X : fsX[109]? = some (.int (nI 0))) (hP : va_P D CL [(h0, .inr (11, [.ref r_cwords, .ref r_creader, .ref r_cchecker, .ref r_cfinder, .ref r_cwriter, .ref r_cmachines, .ref r_ctape, .int (nI 0), .int (-2), .int (nI 60000), .ref r_cstock, .ref r_csizes, .ref r_cmet, .ref r_cfound, .int (nI 0), .ref r_cdraft, .int (nI 0), .int (nI 0), .ref r_cfewestFor, .ref r_cfewestNext])), (r_cfinder, .inr (1, [.int f_fcls, .int f_fmember, .int f_fnamed, .ref r_freachList, .ref r_fnames, .ref r_fchecker, .ref r_fwaiting, .ref r_fphase, .ref r_fopen, .int f_fopened])), (r_freachList, .inr (3, [.ref i_frl, .int (nI 0)])), (h0X, .inr (14, fsX))] H) (hD : va_D A [(h0, .inr (11, [.ref r_cwords, .ref r_creader, .ref r_cchecker, .ref r_cfinder, .ref r_cwriter, .ref r_cmachines, .ref r_ctape, .int (nI 0), .int (-2), .int (nI 60000), .ref r_cstock, .ref r_csizes, .ref r_cmet, .ref r_cfound, .int (nI 0), .ref r_cdraft, .int (nI 0), .int (nI 0), .ref r_cfewestFor, .ref r_cfewestNext])), (r_cfinder, .inr (1, [.int f_fcls, .int f_fmember, .int f_fnamed, .ref r_freachList, .ref r_fnames, .ref r_fchecker, .ref r_fwaiting, .ref r_fphase, .ref r_fopen, .int f_fopened])), (r_freachList, .inr (3, [.ref i_frl, .int (nI 0)])), (h0X, .inr (14, fsX))]) (hS : va_S A s.heap H locs) (hl : lv_has ls 4 [(0, .ref b), (1, .ref h0), (2, .ref h0X), (3, .int (nI 0))]) : W p l e room_1 s m #[Value.ref b] below meth c H locs 702 488194 (lw_Z below #[Value.ref b] s) (F0 m 1442 ls []) := by
  refine lv_aload_n G.1 G.2.1 d_Law_1442 rfl (lv_at hl 1 rfl) ?_
  refine lv_aload_n G.1 G.2.1 d_Law_1443 rfl (lv_at hl 0 rfl) ?_
  refine lv_iload_n G.1 G.2.1 d_Law_1444 rfl (lv_at hl 3 rfl) ?_
  refine lv_iconst (v := nI 1) G.1 G.2.1 d_Law_1445 (by decide) ?_
  refine lv_iadd G.1 G.2.1 d_Law_1446 ?_
  refine tpi (w := nI 1) (by decide) ?_
  refine va_sld G.1 G.2.1 hX hbl hbA hS (nI_inn (n := 6) (a := 1) (by decide) (by decide)) d_Law_1447 ?_
  refine tpi (w := (xs 1)) (by rw [nI_clamp (by decide)]) ?_
  refine kEi (wr := [(h0X, .inr (14, fsX))]) G (kV (As := [.int (xs 1)]) (rest := []) G hP hD hS [0, 1, 2] rfl rfl (c_Cw_reached l D g h0 (xs 1) r_cwords r_creader r_cchecker r_cfinder r_cwriter r_cmachines r_ctape r_cstock r_csizes r_cmet r_cfound r_cdraft r_cfewestFor r_cfewestNext f_fcls f_fmember f_fnamed r_freachList r_fnames r_fchecker r_fwaiting r_fphase r_fopen f_fopened i_frl H.size ) w_Cw_reached q2446 rfl rfl ⟨Nat.le_of_ble_eq_true rfl, Nat.le_of_ble_eq_true rfl⟩ (fun _ h => absurd h List.not_mem_nil) 0 (ci := 11) rfl rfl rfl hl.1 rfl (Nat.le_of_ble_eq_true rfl) rfl ⟨Nat.le_of_ble_eq_true rfl, (Nat.le_of_ble_eq_true rfl)⟩ d_Law_1448) hP hD hS [0, 1, 2] [3] rfl rfl rfl rfl (fun r_1 u_2 H locs hw hP hD hS hzH => ?_)
  have hw : r_1 = (-2) := hw
  have hP : va_P D CL [(h0X, .inr (14, fsX))] H := hP
  have hD : va_D A [(h0X, .inr (14, fsX))] := hD
  subst hw
  refine tpst (w := [.int (-2)]) rfl ?_
  refine lv_aload_n G.1 G.2.1 d_Law_1451 rfl (lv_at hl 2 rfl) ?_
  refine lv_aload_n G.1 G.2.1 d_Law_1452 rfl (lv_at hl 0 rfl) ?_
  refine lv_iload_n G.1 G.2.1 d_Law_1453 rfl (lv_at hl 3 rfl) ?_
  refine lv_iconst (v := nI 1) G.1 G.2.1 d_Law_1454 (by decide) ?_
  refine W.eq (g2 := F0 m 1455 ls [.int (nI 1), .int (nI 0), .ref b, .ref h0X, .int (-2)]) rfl ?_
  refine lv_iadd G.1 G.2.1 d_Law_1455 ?_
  refine tpi (w := nI 1) (by decide) ?_
  refine va_sld G.1 G.2.1 hX hbl hbA hS (nI_inn (n := 6) (a := 1) (by decide) (by decide)) d_Law_1456 ?_
  refine tpi (w := (xs 1)) (by rw [nI_clamp (by decide)]) ?_
  refine kEi (wr := []) G (kV (As := [.int (xs 1)]) (rest := [.int (-2)]) G hP hD hS [0] rfl rfl (c_Mo_reached l D g h0X (xs 1) fsX H.size glenX gk0X) w_Mo_reached q4181 rfl rfl ⟨Nat.le_of_ble_eq_true rfl, Nat.le_of_ble_eq_true rfl⟩ (fun _ h => absurd h List.not_mem_nil) 0 (ci := 14) rfl rfl rfl hl.1 rfl (Nat.le_of_ble_eq_true rfl) rfl ⟨Nat.le_of_ble_eq_true rfl, (Nat.le_of_ble_eq_true rfl)⟩ d_Law_1457) hP hD hS [0] [] rfl rfl rfl rfl (fun r_3 u_4 H locs hw hP hD hS hzH => ?_)
  have hw : r_3 = (-2) := hw
  have hP : va_P D CL [] H := hP
  have hD : va_D A [] := hD
  subst hw
  refine tpst (w := [.int (-2), .int (-2)]) rfl ?_
  refine lv_icmp_eq (tgt := 1768) G.1 G.2.1 d_Law_1460 (by decide) (fun c1460 => ?_) (fun c1460 => absurd c1460 (fun h => h rfl))
  refine lv_iinc (v := nI 6) (lv' := [(3, .int (nI 6)), (0, .ref b), (1, .ref h0), (2, .ref h0X)]) G.1 G.2.1 d_Law_1768 hl (k := 3) rfl (show (nI 0) + Int32.ofInt 6 = nI 6 from by decide) (by decide) rfl (fun ls hl => ?_)
  refine lv_goto (tgt := 18) G.1 G.2.1 d_Law_1771 (by decide) ?_
  refine lv_iload_n G.1 G.2.1 d_Law_18 rfl (lv_at hl 0 rfl) ?_
  refine lv_aload_n G.1 G.2.1 d_Law_19 rfl (lv_at hl 1 rfl) ?_
  refine va_slen G.1 G.2.1 hX hbl hbA hS d_Law_20 ?_
  refine tpi (w := nI 6) rfl ?_
  refine lv_bipush (v := nI 6) G.1 G.2.1 d_Law_21 (by decide) ?_
  refine lv_isub G.1 G.2.1 d_Law_23 ?_
  refine tpi (w := nI 0) (by decide) ?_
  refine lv_icmp_gt (tgt := 1774) G.1 G.2.1 d_Law_24 (by decide) (fun c24 => ?_) (fun c24 => absurd c24 (by decide))
  refine W.eq (g2 := F0 m 1774 ls []) rfl ?_
  refine lv_iconst (v := nI 1) G.1 G.2.1 d_Law_1774 (by decide) ?_
  refine va_forget (fun q hq => hAA _ (hS.2.2 q hq)) ?_
  refine W.widen (k := 600002) (n := 7302232) (Nat.le_of_ble_eq_true rfl) (Nat.le_of_ble_eq_true rfl) ?_
  exact lw_ret G.1 G.2.1 G.2.2.2.1 G.2.2.2.2.1 d_Law_1775
