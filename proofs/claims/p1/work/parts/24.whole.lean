theorem q355 : Cond.classLink "ClassWorksLaw" 7 "ClassWorks" ∈ lw_ok := lw_okmem (List.mem_of_getElem? (i := 355) (by decide +kernel)) rfl
theorem q356 : Cond.instantiable "ClassWorks" 20 ∈ lw_ok := lw_okmem (List.mem_of_getElem? (i := 356) (by decide +kernel)) rfl
theorem q359 : Cond.code y_Cw_init b_Cw_init 3 (none) ∈ lw_ok := lw_okmem (List.mem_of_getElem? (i := 359) (by decide +kernel)) rfl
theorem q358 : Cond.instanceMethod y_Cw_init ∈ lw_ok := lw_okmem (List.mem_of_getElem? (i := 358) (by decide +kernel)) rfl
theorem w_Cw_init : CWv y_Cw_init b_Cw_init 3 (none) 0 ∧ Cond.instanceMethod y_Cw_init ∈ lw_ok ∧ y_Cw_init.name = "<init>" := ⟨⟨q359, q329, by decide +kernel, by decide +kernel, by decide +kernel⟩, q358, rfl⟩
theorem q357 : Cond.methodLink "ClassWorksLaw" 9 y_Cw_init ∈ lw_ok := lw_okmem (List.mem_of_getElem? (i := 357) (by decide +kernel)) rfl
set_option maxRecDepth 100000 in
theorem q2574 : Cond.code y_Mo_init b_Mo_init 3 (none) ∈ lw_ok := lw_okmem (List.mem_of_getElem? (i := 2574) (by rfl)) rfl
theorem q2573 : Cond.instanceMethod y_Mo_init ∈ lw_ok := lw_okmem (List.mem_of_getElem? (i := 2573) (by decide +kernel)) rfl
theorem w_Mo_init : CWv y_Mo_init b_Mo_init 3 (none) 0 ∧ Cond.instanceMethod y_Mo_init ∈ lw_ok ∧ y_Mo_init.name = "<init>" := ⟨⟨q2574, q348, by decide +kernel, by decide +kernel, by decide +kernel⟩, q2573, rfl⟩
theorem q2572 : Cond.methodLink "ClassWorksLaw" 12 y_Mo_init ∈ lw_ok := lw_okmem (List.mem_of_getElem? (i := 2572) (by decide +kernel)) rfl
theorem q2570 : Cond.classLink "ClassWorksLaw" 10 "ClassWorksModel" ∈ lw_ok := lw_okmem (List.mem_of_getElem? (i := 2570) (by decide +kernel)) rfl
theorem q2571 : Cond.instantiable "ClassWorksModel" 131 ∈ lw_ok := lw_okmem (List.mem_of_getElem? (i := 2571) (by decide +kernel)) rfl
theorem d_Law_0 : decode code 0 = .ok (.new 7, 3) := by decide +kernel
theorem d_Law_3 : decode code 3 = .ok (.dup, 1) := by decide +kernel
theorem d_Law_4 : decode code 4 = .ok (.invokespecial 9, 3) := by decide +kernel
theorem d_Law_7 : decode code 7 = .ok (.astore_n 1, 1) := by decide +kernel
theorem d_Law_8 : decode code 8 = .ok (.new 10, 3) := by decide +kernel
theorem d_Law_11 : decode code 11 = .ok (.dup, 1) := by decide +kernel
theorem d_Law_12 : decode code 12 = .ok (.invokespecial 12, 3) := by decide +kernel
theorem d_Law_15 : decode code 15 = .ok (.astore_n 2, 1) := by decide +kernel
theorem d_Law_16 : decode code 16 = .ok (.iconst 0, 1) := by decide +kernel
theorem d_Law_17 : decode code 17 = .ok (.istore_n 3, 1) := by decide +kernel
theorem d_Law_27 : decode code 27 = .ok (.aload_n 0, 1) := by decide +kernel
theorem d_Law_28 : decode code 28 = .ok (.iload_n 3, 1) := by decide +kernel
theorem d_Law_29 : decode code 29 = .ok (.iaload, 1) := by decide +kernel
theorem d_Law_30 : decode code 30 = .ok (.bipush 63, 2) := by decide +kernel
theorem d_Law_32 : decode code 32 = .ok (.iand, 1) := by decide +kernel
theorem d_Law_33 : decode code 33 = .ok (.tableswitch 1735 0 43 #[191, 254, 277, 300, 323, 346, 359, 382, 425, 488, 541, 574, 607, 640, 673, 696, 729, 772, 805, 874, 917, 960, 993, 1016, 1085, 1118, 1171, 1204, 1247, 1280, 1303, 1366, 1409, 1432, 1445, 1488, 1511, 1544, 1567, 1580, 1593, 1626, 1679, 1712], 191) := by decide +kernel
theorem lw_six {L : Nat} (hL : L ≤ 6) (h : ¬ (nI L - nI 6 < nI 0)) : L = 6 := by
  have h1 : L = 0 ∨ L = 1 ∨ L = 2 ∨ L = 3 ∨ L = 4 ∨ L = 5 ∨ L = 6 := by omega
  rcases h1 with rfl | rfl | rfl | rfl | rfl | rfl | rfl
  · exact absurd (by decide) h
  · exact absurd (by decide) h
  · exact absurd (by decide) h
  · exact absurd (by decide) h
  · exact absurd (by decide) h
  · exact absurd (by decide) h
  · rfl
set_option maxHeartbeats 4000000 in
set_option maxRecDepth 100000 in
theorem lw_disp {p : Program} {e : Env} {s : State} {m : MethodId} {below : List Frame} {meth : Method} {c : Code} {l : Launch} {D : va_G} {g : Nat → ClassId} {sl : List SL} {b : Nat} {xs : Nat → Int32} {A : Nat → Prop} {H : Heap} {locs : List Loc} {ls : Array Slot} {h0 h1 : Nat} {w1 u1 : va_W} {ws2 us2 : va_W} (G : GV l p s m #[Value.ref b] meth c (⟨"ClassWorksLaw", meth.name, ""⟩ : MethodName) code 4 ret g D sl A) (hX : va_X b 6 xs s s.heap) (hbl : b < s.heap.size) (hbA : ¬ A b) (hAA : ∀ q, A q → s.heap.size ≤ q) (hc1 : CWs g h0 w1) (ho1 : MOs g h1 u1) (hP1 : va_P D CL (w1 ++ u1) H) (hD1 : va_D A (w1 ++ u1)) (hc2 : CWf g h0 ws2) (ho2 : MOf g h1 us2) (hP2 : va_P D CL (ws2 ++ us2) H) (hD2 : va_D A (ws2 ++ us2)) (hS : va_S A s.heap H locs) (hl : lv_has ls 4 [(3, .int (nI 0)), (2, .ref h1), (1, .ref h0), (0, .ref b)]) : W p l e room_1 s m #[Value.ref b] below meth c H locs 702 488194 (lw_Z below #[Value.ref b] s) (F0 m 33 ls [.int ((xs 0) &&& (nI 63))]) := by
  obtain ⟨x, hx0⟩ : ∃ z, z = (xs 0) &&& (nI 63) := ⟨_, rfl⟩
  rw [← hx0]
  by_cases ht0 : x = nI 0
  · exact lv_tableIn (off := 191) (tgt := 224) G.1 G.2.1 d_Law_33 (by rw [ht0]; decide) (by rw [ht0]; decide) (by rw [ht0]; decide +kernel) (by decide) (lx_feed G hX hbl hbA hAA hc1 ho1 hP1 hD1 hS hl)
  by_cases ht1 : x = nI 1
  · exact lv_tableIn (off := 254) (tgt := 287) G.1 G.2.1 d_Law_33 (by rw [ht1]; decide) (by rw [ht1]; decide) (by rw [ht1]; decide +kernel) (by decide) (lx_cut G hX hbl hbA hAA hc1 ho1 hP1 hD1 hS hl)
  by_cases ht2 : x = nI 2
  · exact lv_tableIn (off := 277) (tgt := 310) G.1 G.2.1 d_Law_33 (by rw [ht2]; decide) (by rw [ht2]; decide) (by rw [ht2]; decide +kernel) (by decide) (lx_world G hX hbl hbA hAA hc2 ho2 hP2 hD2 hS hl)
  by_cases ht3 : x = nI 3
  · exact lv_tableIn (off := 300) (tgt := 333) G.1 G.2.1 d_Law_33 (by rw [ht3]; decide) (by rw [ht3]; decide) (by rw [ht3]; decide +kernel) (by decide) (lx_drop G hX hbl hbA hAA hc1 ho1 hP1 hD1 hS hl)
  by_cases ht4 : x = nI 4
  · exact lv_tableIn (off := 323) (tgt := 356) G.1 G.2.1 d_Law_33 (by rw [ht4]; decide) (by rw [ht4]; decide) (by rw [ht4]; decide +kernel) (by decide) (lx_define G hX hbl hbA hAA hc1 ho1 hP1 hD1 hS hl)
  by_cases ht5 : x = nI 5
  · exact lv_tableIn (off := 346) (tgt := 379) G.1 G.2.1 d_Law_33 (by rw [ht5]; decide) (by rw [ht5]; decide) (by rw [ht5]; decide +kernel) (by decide) (lx_place G hX hbl hbA hAA hc1 ho1 hP1 hD1 hS hl)
  by_cases ht6 : x = nI 6
  · exact lv_tableIn (off := 359) (tgt := 392) G.1 G.2.1 d_Law_33 (by rw [ht6]; decide) (by rw [ht6]; decide) (by rw [ht6]; decide +kernel) (by decide) (lx_classes G hX hbl hbA hAA hc1 ho1 hP1 hD1 hS hl)
  by_cases ht7 : x = nI 7
  · exact lv_tableIn (off := 382) (tgt := 415) G.1 G.2.1 d_Law_33 (by rw [ht7]; decide) (by rw [ht7]; decide) (by rw [ht7]; decide +kernel) (by decide) (lx_told G hX hbl hbA hAA hc1 ho1 hP1 hD1 hS hl)
  by_cases ht8 : x = nI 8
  · exact lv_tableIn (off := 425) (tgt := 458) G.1 G.2.1 d_Law_33 (by rw [ht8]; decide) (by rw [ht8]; decide) (by rw [ht8]; decide +kernel) (by decide) (lx_name G hX hbl hbA hAA hc1 ho1 hP1 hD1 hS hl)
  by_cases ht9 : x = nI 9
  · exact lv_tableIn (off := 488) (tgt := 521) G.1 G.2.1 d_Law_33 (by rw [ht9]; decide) (by rw [ht9]; decide) (by rw [ht9]; decide +kernel) (by decide) (lx_member G hX hbl hbA hAA hc1 ho1 hP1 hD1 hS hl)
  by_cases ht10 : x = nI 10
  · exact lv_tableIn (off := 541) (tgt := 574) G.1 G.2.1 d_Law_33 (by rw [ht10]; decide) (by rw [ht10]; decide) (by rw [ht10]; decide +kernel) (by decide) (lx_link G hX hbl hbA hAA hc1 ho1 hP1 hD1 hS hl)
  by_cases ht11 : x = nI 11
  · exact lv_tableIn (off := 574) (tgt := 607) G.1 G.2.1 d_Law_33 (by rw [ht11]; decide) (by rw [ht11]; decide) (by rw [ht11]; decide +kernel) (by decide) (lx_checked G hX hbl hbA hAA hc1 ho1 hP1 hD1 hS hl)
  by_cases ht12 : x = nI 12
  · exact lv_tableIn (off := 607) (tgt := 640) G.1 G.2.1 d_Law_33 (by rw [ht12]; decide) (by rw [ht12]; decide) (by rw [ht12]; decide +kernel) (by decide) (lx_call G hX hbl hbA hAA hc1 ho1 hP1 hD1 hS hl)
  by_cases ht13 : x = nI 13
  · exact lv_tableIn (off := 640) (tgt := 673) G.1 G.2.1 d_Law_33 (by rw [ht13]; decide) (by rw [ht13]; decide) (by rw [ht13]; decide +kernel) (by decide) (lx_quantum G hX hbl hbA hAA hc1 ho1 hP1 hD1 hS hl)
  by_cases ht14 : x = nI 14
  · exact lv_tableIn (off := 673) (tgt := 706) G.1 G.2.1 d_Law_33 (by rw [ht14]; decide) (by rw [ht14]; decide) (by rw [ht14]; decide +kernel) (by decide) (lx_halt G hX hbl hbA hAA hc1 ho1 hP1 hD1 hS hl)
  by_cases ht15 : x = nI 15
  · exact lv_tableIn (off := 696) (tgt := 729) G.1 G.2.1 d_Law_33 (by rw [ht15]; decide) (by rw [ht15]; decide) (by rw [ht15]; decide +kernel) (by decide) (lx_step G hX hbl hbA hAA hc1 ho1 hP1 hD1 hS hl)
  by_cases ht16 : x = nI 16
  · exact lv_tableIn (off := 729) (tgt := 762) G.1 G.2.1 d_Law_33 (by rw [ht16]; decide) (by rw [ht16]; decide) (by rw [ht16]; decide +kernel) (by decide) (lx_run G hX hbl hbA hAA hc1 ho1 hP1 hD1 hS hl)
  by_cases ht17 : x = nI 17
  · exact lv_tableIn (off := 772) (tgt := 805) G.1 G.2.1 d_Law_33 (by rw [ht17]; decide) (by rw [ht17]; decide) (by rw [ht17]; decide +kernel) (by decide) (lx_started G hX hbl hbA hAA hc1 ho1 hP1 hD1 hS hl)
  by_cases ht18 : x = nI 18
  · exact lv_tableIn (off := 805) (tgt := 838) G.1 G.2.1 d_Law_33 (by rw [ht18]; decide) (by rw [ht18]; decide) (by rw [ht18]; decide +kernel) (by decide) (lx_value G hX hbl hbA hAA hc1 ho1 hP1 hD1 hS hl)
  by_cases ht19 : x = nI 19
  · exact lv_tableIn (off := 874) (tgt := 907) G.1 G.2.1 d_Law_33 (by rw [ht19]; decide) (by rw [ht19]; decide) (by rw [ht19]; decide +kernel) (by decide) (lx_fixed G hX hbl hbA hAA hc1 ho1 hP1 hD1 hS hl)
  by_cases ht20 : x = nI 20
  · exact lv_tableIn (off := 917) (tgt := 950) G.1 G.2.1 d_Law_33 (by rw [ht20]; decide) (by rw [ht20]; decide) (by rw [ht20]; decide +kernel) (by decide) (lx_object G hX hbl hbA hAA hc1 ho1 hP1 hD1 hS hl)
  by_cases ht21 : x = nI 21
  · exact lv_tableIn (off := 960) (tgt := 993) G.1 G.2.1 d_Law_33 (by rw [ht21]; decide) (by rw [ht21]; decide) (by rw [ht21]; decide +kernel) (by decide) (lx_print G hX hbl hbA hAA hc1 ho1 hP1 hD1 hS hl)
  by_cases ht22 : x = nI 22
  · exact lv_tableIn (off := 993) (tgt := 1026) G.1 G.2.1 d_Law_33 (by rw [ht22]; decide) (by rw [ht22]; decide) (by rw [ht22]; decide +kernel) (by decide) (lx_written G hX hbl hbA hAA hc1 ho1 hP1 hD1 hS hl)
  by_cases ht23 : x = nI 23
  · exact lv_tableIn (off := 1016) (tgt := 1049) G.1 G.2.1 d_Law_33 (by rw [ht23]; decide) (by rw [ht23]; decide) (by rw [ht23]; decide +kernel) (by decide) (lx_kinds G hX hbl hbA hAA hc1 ho1 hP1 hD1 hS hl)
  by_cases ht24 : x = nI 24
  · exact lv_tableIn (off := 1085) (tgt := 1118) G.1 G.2.1 d_Law_33 (by rw [ht24]; decide) (by rw [ht24]; decide) (by rw [ht24]; decide +kernel) (by decide) (lx_kind G hX hbl hbA hAA hc1 ho1 hP1 hD1 hS hl)
  by_cases ht25 : x = nI 25
  · exact lv_tableIn (off := 1118) (tgt := 1151) G.1 G.2.1 d_Law_33 (by rw [ht25]; decide) (by rw [ht25]; decide) (by rw [ht25]; decide +kernel) (by decide) (lx_foretell G hX hbl hbA hAA hc1 ho1 hP1 hD1 hS hl)
  by_cases ht26 : x = nI 26
  · exact lv_tableIn (off := 1171) (tgt := 1204) G.1 G.2.1 d_Law_33 (by rw [ht26]; decide) (by rw [ht26]; decide) (by rw [ht26]; decide +kernel) (by decide) (lx_asked G hX hbl hbA hAA hc1 ho1 hP1 hD1 hS hl)
  by_cases ht27 : x = nI 27
  · exact lv_tableIn (off := 1204) (tgt := 1237) G.1 G.2.1 d_Law_33 (by rw [ht27]; decide) (by rw [ht27]; decide) (by rw [ht27]; decide +kernel) (by decide) (lx_trace G hX hbl hbA hAA hc1 ho1 hP1 hD1 hS hl)
  by_cases ht28 : x = nI 28
  · exact lv_tableIn (off := 1247) (tgt := 1280) G.1 G.2.1 d_Law_33 (by rw [ht28]; decide) (by rw [ht28]; decide) (by rw [ht28]; decide +kernel) (by decide) (lx_done G hX hbl hbA hAA hc1 ho1 hP1 hD1 hS hl)
  by_cases ht29 : x = nI 29
  · exact lv_tableIn (off := 1280) (tgt := 1313) G.1 G.2.1 d_Law_33 (by rw [ht29]; decide) (by rw [ht29]; decide) (by rw [ht29]; decide +kernel) (by decide) (lx_collect G hX hbl hbA hAA hc1 ho1 hP1 hD1 hS hl)
  by_cases ht30 : x = nI 30
  · exact lv_tableIn (off := 1303) (tgt := 1336) G.1 G.2.1 d_Law_33 (by rw [ht30]; decide) (by rw [ht30]; decide) (by rw [ht30]; decide +kernel) (by decide) (lx_differ G hX hbl hbA hAA hc1 ho1 hP1 hD1 hS hl)
  by_cases ht31 : x = nI 31
  · exact lv_tableIn (off := 1366) (tgt := 1399) G.1 G.2.1 d_Law_33 (by rw [ht31]; decide) (by rw [ht31]; decide) (by rw [ht31]; decide +kernel) (by decide) (lx_reach G hX hbl hbA hAA hc1 ho1 hP1 hD1 hS hl)
  by_cases ht32 : x = nI 32
  · exact lv_tableIn (off := 1409) (tgt := 1442) G.1 G.2.1 d_Law_33 (by rw [ht32]; decide) (by rw [ht32]; decide) (by rw [ht32]; decide +kernel) (by decide) (lx_reached G hX hbl hbA hAA hc1 ho1 hP1 hD1 hS hl)
  by_cases ht33 : x = nI 33
  · exact lv_tableIn (off := 1432) (tgt := 1465) G.1 G.2.1 d_Law_33 (by rw [ht33]; decide) (by rw [ht33]; decide) (by rw [ht33]; decide +kernel) (by decide) (lx_trial G hX hbl hbA hAA hc1 ho1 hP1 hD1 hS hl)
  by_cases ht34 : x = nI 34
  · exact lv_tableIn (off := 1445) (tgt := 1478) G.1 G.2.1 d_Law_33 (by rw [ht34]; decide) (by rw [ht34]; decide) (by rw [ht34]; decide +kernel) (by decide) (lx_outcome G hX hbl hbA hAA hc1 ho1 hP1 hD1 hS hl)
  by_cases ht35 : x = nI 35
  · exact lv_tableIn (off := 1488) (tgt := 1521) G.1 G.2.1 d_Law_33 (by rw [ht35]; decide) (by rw [ht35]; decide) (by rw [ht35]; decide +kernel) (by decide) (lx_meets G hX hbl hbA hAA hc1 ho1 hP1 hD1 hS hl)
  by_cases ht36 : x = nI 36
  · exact lv_tableIn (off := 1511) (tgt := 1544) G.1 G.2.1 d_Law_33 (by rw [ht36]; decide) (by rw [ht36]; decide) (by rw [ht36]; decide +kernel) (by decide) (lx_finds G hX hbl hbA hAA hc1 ho1 hP1 hD1 hS hl)
  by_cases ht37 : x = nI 37
  · exact lv_tableIn (off := 1544) (tgt := 1577) G.1 G.2.1 d_Law_33 (by rw [ht37]; decide) (by rw [ht37]; decide) (by rw [ht37]; decide +kernel) (by decide) (lx_hole G hX hbl hbA hAA hc1 ho1 hP1 hD1 hS hl)
  by_cases ht38 : x = nI 38
  · exact lv_tableIn (off := 1567) (tgt := 1600) G.1 G.2.1 d_Law_33 (by rw [ht38]; decide) (by rw [ht38]; decide) (by rw [ht38]; decide +kernel) (by decide) (lx_least G hX hbl hbA hAA hc1 ho1 hP1 hD1 hS hl)
  by_cases ht39 : x = nI 39
  · exact lv_tableIn (off := 1580) (tgt := 1613) G.1 G.2.1 d_Law_33 (by rw [ht39]; decide) (by rw [ht39]; decide) (by rw [ht39]; decide +kernel) (by decide) (lx_fewest G hX hbl hbA hAA hc1 ho1 hP1 hD1 hS hl)
  by_cases ht40 : x = nI 40
  · exact lv_tableIn (off := 1593) (tgt := 1626) G.1 G.2.1 d_Law_33 (by rw [ht40]; decide) (by rw [ht40]; decide) (by rw [ht40]; decide +kernel) (by decide) (lx_shrink G hX hbl hbA hAA hc1 ho1 hP1 hD1 hS hl)
  by_cases ht41 : x = nI 41
  · exact lv_tableIn (off := 1626) (tgt := 1659) G.1 G.2.1 d_Law_33 (by rw [ht41]; decide) (by rw [ht41]; decide) (by rw [ht41]; decide +kernel) (by decide) (lx_change G hX hbl hbA hAA hc1 ho1 hP1 hD1 hS hl)
  by_cases ht42 : x = nI 42
  · exact lv_tableIn (off := 1679) (tgt := 1712) G.1 G.2.1 d_Law_33 (by rw [ht42]; decide) (by rw [ht42]; decide) (by rw [ht42]; decide +kernel) (by decide) (lx_text G hX hbl hbA hAA hc1 ho1 hP1 hD1 hS hl)
  by_cases ht43 : x = nI 43
  · exact lv_tableIn (off := 1712) (tgt := 1745) G.1 G.2.1 d_Law_33 (by rw [ht43]; decide) (by rw [ht43]; decide) (by rw [ht43]; decide +kernel) (by decide) (lx_count G hX hbl hbA hAA hc1 ho1 hP1 hD1 hS hl)
  have ho0_ : ¬ x.toInt = 0 := fun h => ht0 (Int32.toInt_inj.mp h)
  have ho1_ : ¬ x.toInt = 1 := fun h => ht1 (Int32.toInt_inj.mp h)
  have ho2_ : ¬ x.toInt = 2 := fun h => ht2 (Int32.toInt_inj.mp h)
  have ho3_ : ¬ x.toInt = 3 := fun h => ht3 (Int32.toInt_inj.mp h)
  have ho4_ : ¬ x.toInt = 4 := fun h => ht4 (Int32.toInt_inj.mp h)
  have ho5_ : ¬ x.toInt = 5 := fun h => ht5 (Int32.toInt_inj.mp h)
  have ho6_ : ¬ x.toInt = 6 := fun h => ht6 (Int32.toInt_inj.mp h)
  have ho7_ : ¬ x.toInt = 7 := fun h => ht7 (Int32.toInt_inj.mp h)
  have ho8_ : ¬ x.toInt = 8 := fun h => ht8 (Int32.toInt_inj.mp h)
  have ho9_ : ¬ x.toInt = 9 := fun h => ht9 (Int32.toInt_inj.mp h)
  have ho10_ : ¬ x.toInt = 10 := fun h => ht10 (Int32.toInt_inj.mp h)
  have ho11_ : ¬ x.toInt = 11 := fun h => ht11 (Int32.toInt_inj.mp h)
  have ho12_ : ¬ x.toInt = 12 := fun h => ht12 (Int32.toInt_inj.mp h)
  have ho13_ : ¬ x.toInt = 13 := fun h => ht13 (Int32.toInt_inj.mp h)
  have ho14_ : ¬ x.toInt = 14 := fun h => ht14 (Int32.toInt_inj.mp h)
  have ho15_ : ¬ x.toInt = 15 := fun h => ht15 (Int32.toInt_inj.mp h)
  have ho16_ : ¬ x.toInt = 16 := fun h => ht16 (Int32.toInt_inj.mp h)
  have ho17_ : ¬ x.toInt = 17 := fun h => ht17 (Int32.toInt_inj.mp h)
  have ho18_ : ¬ x.toInt = 18 := fun h => ht18 (Int32.toInt_inj.mp h)
  have ho19_ : ¬ x.toInt = 19 := fun h => ht19 (Int32.toInt_inj.mp h)
  have ho20_ : ¬ x.toInt = 20 := fun h => ht20 (Int32.toInt_inj.mp h)
  have ho21_ : ¬ x.toInt = 21 := fun h => ht21 (Int32.toInt_inj.mp h)
  have ho22_ : ¬ x.toInt = 22 := fun h => ht22 (Int32.toInt_inj.mp h)
  have ho23_ : ¬ x.toInt = 23 := fun h => ht23 (Int32.toInt_inj.mp h)
  have ho24_ : ¬ x.toInt = 24 := fun h => ht24 (Int32.toInt_inj.mp h)
  have ho25_ : ¬ x.toInt = 25 := fun h => ht25 (Int32.toInt_inj.mp h)
  have ho26_ : ¬ x.toInt = 26 := fun h => ht26 (Int32.toInt_inj.mp h)
  have ho27_ : ¬ x.toInt = 27 := fun h => ht27 (Int32.toInt_inj.mp h)
  have ho28_ : ¬ x.toInt = 28 := fun h => ht28 (Int32.toInt_inj.mp h)
  have ho29_ : ¬ x.toInt = 29 := fun h => ht29 (Int32.toInt_inj.mp h)
  have ho30_ : ¬ x.toInt = 30 := fun h => ht30 (Int32.toInt_inj.mp h)
  have ho31_ : ¬ x.toInt = 31 := fun h => ht31 (Int32.toInt_inj.mp h)
  have ho32_ : ¬ x.toInt = 32 := fun h => ht32 (Int32.toInt_inj.mp h)
  have ho33_ : ¬ x.toInt = 33 := fun h => ht33 (Int32.toInt_inj.mp h)
  have ho34_ : ¬ x.toInt = 34 := fun h => ht34 (Int32.toInt_inj.mp h)
  have ho35_ : ¬ x.toInt = 35 := fun h => ht35 (Int32.toInt_inj.mp h)
  have ho36_ : ¬ x.toInt = 36 := fun h => ht36 (Int32.toInt_inj.mp h)
  have ho37_ : ¬ x.toInt = 37 := fun h => ht37 (Int32.toInt_inj.mp h)
  have ho38_ : ¬ x.toInt = 38 := fun h => ht38 (Int32.toInt_inj.mp h)
  have ho39_ : ¬ x.toInt = 39 := fun h => ht39 (Int32.toInt_inj.mp h)
  have ho40_ : ¬ x.toInt = 40 := fun h => ht40 (Int32.toInt_inj.mp h)
  have ho41_ : ¬ x.toInt = 41 := fun h => ht41 (Int32.toInt_inj.mp h)
  have ho42_ : ¬ x.toInt = 42 := fun h => ht42 (Int32.toInt_inj.mp h)
  have ho43_ : ¬ x.toInt = 43 := fun h => ht43 (Int32.toInt_inj.mp h)
  refine lv_tableOut (tgt := 1768) G.1 G.2.1 d_Law_33 (by omega) (by decide) ?_
  refine lv_iinc (v := nI 6) (lv' := [(3, .int (nI 6)), (2, .ref h1), (1, .ref h0), (0, .ref b)]) G.1 G.2.1 d_Law_1768 hl (k := 0) rfl (show (nI 0) + Int32.ofInt 6 = nI 6 from by decide) (by decide) rfl (fun ls hl => ?_)
  refine lv_goto (tgt := 18) G.1 G.2.1 d_Law_1771 (by decide) ?_
  refine lv_iload_n G.1 G.2.1 d_Law_18 rfl (lv_at hl 0 rfl) ?_
  refine lv_aload_n G.1 G.2.1 d_Law_19 rfl (lv_at hl 3 rfl) ?_
  refine va_slen G.1 G.2.1 hX hbl hbA hS d_Law_20 ?_
  refine tpi (w := nI 6) rfl ?_
  refine lv_bipush (v := nI 6) G.1 G.2.1 d_Law_21 (by decide) ?_
  refine lv_isub G.1 G.2.1 d_Law_23 ?_
  refine tpi (w := nI 0) (by decide) ?_
  refine lv_icmp_gt (tgt := 1774) G.1 G.2.1 d_Law_24 (by decide) (fun c24 => ?_) (fun c24 => absurd c24 (by decide))
  refine lv_iconst (v := nI 1) G.1 G.2.1 d_Law_1774 (by decide) ?_
  refine va_forget (fun q hq => hAA _ (hS.2.2 q hq)) ?_
  refine W.widen (k := 600002) (n := 7302232) (Nat.le_of_ble_eq_true rfl) (Nat.le_of_ble_eq_true rfl) ?_
  exact lw_ret G.1 G.2.1 G.2.2.2.1 G.2.2.2.2.1 d_Law_1775
set_option maxHeartbeats 4000000 in
set_option maxRecDepth 100000 in
theorem whole_start {p : Program} {e : Env} {s : State} {m : MethodId} {below : List Frame} {meth : Method} {c : Code} (l : Launch) (hflags : l.flags = flags0) {b L : Nat} {xs : Nat → Int32} (hL : L ≤ 6) (C0 : lw_At p s m meth c b L xs) : W p l e room_1 s m #[Value.ref b] below meth c s.heap [] 0 0 (lw_Z below #[Value.ref b] s) (entryFrame m ([Value.ref b] : List Value).toArray 4) := by
  obtain ⟨hx, hb, hr, hml, hown, hts, hX, hbl, hlk, hgv⟩ := C0
  have hst : l.stackTraces = false := by unfold Launch.stackTraces; rw [hflags]; decide
  have hs : ∀ w ∈ lw_flat, w.before #[Value.ref b] s = true := flat_of_before _ hgv
  obtain ⟨A, hA0, hAA, hAi⟩ : ∃ A : Nat → Prop, (∀ a : Nat, a < s.heap.size → ¬ A a) ∧ (∀ q, A q → s.heap.size ≤ q) ∧ ∀ q, s.heap.size ≤ q → A q := ⟨fun q => s.heap.size ≤ q, fun a h => Nat.not_le.mpr h, fun q h => h, fun q h => h⟩
  obtain ⟨D, g, hK⟩ := lw_know hts
  obtain ⟨k52, v52, h52⟩ := sz_Na_52 (A := A) hts hs hA0
  obtain ⟨k58, v58, h58⟩ := sz_Na_58 (A := A) hts hs hA0
  obtain ⟨k60, v60, h60⟩ := sz_Na_60 (A := A) hts hs hA0
  obtain ⟨k62, v62, h62⟩ := sz_Na_62 (A := A) hts hs hA0
  obtain ⟨k64, v64, h64⟩ := sz_Na_64 (A := A) hts hs hA0
  obtain ⟨k66, v66, h66⟩ := sz_Na_66 (A := A) hts hs hA0
  obtain ⟨k68, v68, h68⟩ := sz_Na_68 (A := A) hts hs hA0
  obtain ⟨k70, v70, h70⟩ := sz_Na_70 (A := A) hts hs hA0
  obtain ⟨K, V, hMo⟩ := lw_MoS (A := A) hts hs hA0
  have hSX : SX ([z_Na_52 k52 v52, z_Na_58 k58 v58, z_Na_60 k60 v60, z_Na_62 k62 v62, z_Na_64 k64 v64, z_Na_66 k66 v66, z_Na_68 k68 v68, z_Na_70 k70 v70] ++ sl_Mo K V) A s s.heap := ⟨Or.inr (lw_sc hts hs hA0), List.forall_mem_append.mpr ⟨List.forall_mem_cons.mpr ⟨h52, List.forall_mem_cons.mpr ⟨h58, List.forall_mem_cons.mpr ⟨h60, List.forall_mem_cons.mpr ⟨h62, List.forall_mem_cons.mpr ⟨h64, List.forall_mem_cons.mpr ⟨h66, List.forall_mem_cons.mpr ⟨h68, List.forall_mem_cons.mpr ⟨h70, fun _ h => absurd h List.not_mem_nil⟩⟩⟩⟩⟩⟩⟩⟩, hMo⟩⟩
  have G : GV l p s m #[Value.ref b] meth c (⟨"ClassWorksLaw", meth.name, ""⟩ : MethodName) code 4 ret g D ([z_Na_52 k52 v52, z_Na_58 k58 v58, z_Na_60 k60 v60, z_Na_62 k62 v62, z_Na_64 k64 v64, z_Na_66 k66 v66, z_Na_68 k68 v68, z_Na_70 k70 v70] ++ sl_Mo K V) A := ⟨hx, hb, hml, hr, hlk, (fun w hw => hts w (lw_oksub hw)), hown, rfl, hK, NB.of hts, hSX, hAi⟩
  have hent : entryFrame m ([Value.ref b] : List Value).toArray 4 = F0 m 0 ((lg_sl [Value.ref b] ++ List.replicate (4 - (lg_sl [Value.ref b]).length) Slot.unset).toArray) [] := lg_entry_eq m [Value.ref b] 4
  rw [hent]
  have hl := lv_entry (n := 4) [Value.ref b] (Nat.le_of_ble_eq_true rfl)
  obtain ⟨ls, hls⟩ : ∃ z, z = (lg_sl [Value.ref b] ++ List.replicate (4 - (lg_sl [Value.ref b]).length) Slot.unset).toArray := ⟨_, rfl⟩
  rw [← hls] at hl ⊢
  have hl : lv_has ls 4 [(0, .ref b)] := hl
  have hP : va_P D CL [] s.heap := fun k q h => by cases h
  have hD : va_D A [] := ⟨fun i j p q h => (by cases h), fun k q h => (by cases h)⟩
  have hS : va_S A s.heap s.heap [] := va_S.rf
  have hbA : ¬ A b := hA0 b hbl
  refine knew (ci := 11) (fs := [.null, .null, .null, .null, .null, .null, .null, .int (nI 0), .int (nI 0), .int (nI 0), .null, .null, .null, .null, .int (nI 0), .null, .int (nI 0), .int (nI 0), .null, .null]) G iCw tCw tCw_ok q355 q356 q329 hP hD hS rfl rfl (Nat.le_of_ble_eq_true rfl) (Nat.le_of_ble_eq_true rfl) d_Law_0 (fun h0 H hP hD hS => ?_)
  have hP : va_P D CL [(h0, .inr (11, [.null, .null, .null, .null, .null, .null, .null, .int (nI 0), .int (nI 0), .int (nI 0), .null, .null, .null, .null, .int (nI 0), .null, .int (nI 0), .int (nI 0), .null, .null]))] H := hP
  have hD : va_D A [(h0, .inr (11, [.null, .null, .null, .null, .null, .null, .null, .int (nI 0), .int (nI 0), .int (nI 0), .null, .null, .null, .null, .int (nI 0), .null, .int (nI 0), .int (nI 0), .null, .null]))] := hD
  refine W.widen (k := 1) (n := 20) (by omega) (by omega) ?_
  refine lv_dup G.1 G.2.1 d_Law_3 rfl ?_
  refine kEv (wr := []) G (kI (As := []) (rest := [.ref h0]) G hP hD hS [0] rfl rfl (c_Cw_init l D g h0 k52 v52 k58 v58 k60 v60 k62 v62 k64 v64 k66 v66 k68 v68 k70 v70 H.size) w_Cw_init q357 rfl rfl ⟨Nat.le_of_ble_eq_true rfl, Nat.le_of_ble_eq_true rfl⟩ (fun _ h => List.mem_append_left _ h) hl.1 rfl (Nat.le_of_ble_eq_true rfl) rfl ⟨(Nat.le_of_ble_eq_true rfl), (Nat.le_of_ble_eq_true rfl)⟩ d_Law_4) hP hD hS [0] [] rfl rfl rfl rfl (fun u H locs hw hP hD hS hzH => ?_)
  have hP : va_P D CL (wo_Cw g h0 u) H := hP
  have hD : va_D A (wo_Cw g h0 u) := hD
  obtain ⟨wc, hwc⟩ : ∃ z : va_W, z = wo_Cw g h0 u := ⟨_, rfl⟩
  rw [← hwc] at hP hD
  refine W.widen (k := 303) (n := 177517) (by omega) (by omega) ?_
  refine lv_astore_n (lv' := [(1, .ref h0), (0, .ref b)]) G.1 G.2.1 d_Law_7 rfl hl (by decide) rfl (fun ls hl => ?_)
  refine knew (ci := 14) (fs := Zs) G iMo tMo tMo_ok q2570 q2571 q348 hP hD hS rfl rfl (Nat.le_of_ble_eq_true rfl) (Nat.le_of_ble_eq_true rfl) d_Law_8 (fun h1 H hP hD hS => ?_)
  have hP : va_P D CL ([(h1, .inr (14, Zs))] ++ wc) H := va_P.swap (a := []) (b := wc) (c := [(h1, .inr (14, Zs))]) hP
  have hD : va_D A ([(h1, .inr (14, Zs))] ++ wc) := va_D.swap (a := []) (b := wc) (c := [(h1, .inr (14, Zs))]) hD
  refine W.widen (k := 304) (n := 177648) (by omega) (by omega) ?_
  refine lv_dup G.1 G.2.1 d_Law_11 rfl ?_
  refine kEvP (wr := []) (X := [(h1, .inr (14, Zs))]) (pl := wc) (wc := [(h1, .inr (14, Zs))]) G (kI (As := []) (rest := [.ref h1]) G hP hD hS [0] rfl rfl (c_Mo_init l D g h1 K V H.size hst) w_Mo_init q2572 rfl rfl ⟨Nat.le_of_ble_eq_true rfl, Nat.le_of_ble_eq_true rfl⟩ (fun _ h => List.mem_append_right _ h) hl.1 rfl (Nat.le_of_ble_eq_true rfl) rfl ⟨(Nat.le_of_ble_eq_true rfl), (Nat.le_of_ble_eq_true rfl)⟩ d_Law_12) hP hD hS [0] [] rfl rfl rfl rfl rfl (fun u2 H locs hw2 hP hD hS hzH => ?_)
  refine W.widen (k := 702) (n := 488194) (by omega) (by omega) ?_
  have hw2 : MOp g h1 u2 := hw2
  have hP : va_P D CL (wc ++ u2) H := va_P.swap (a := []) (b := u2) (c := wc) hP
  have hD : va_D A (wc ++ u2) := va_D.swap (a := []) (b := u2) (c := wc) hD
  obtain ⟨ws1, is1, hc1, hn1, hm1⟩ := CWs_of g h0 u
  obtain ⟨ws2, is2, hc2, hn2, hm2⟩ := CWf_of g h0 u
  rw [← hwc] at hm1 hm2
  obtain ⟨us1, ho1, hb1⟩ := MOs_of hw2
  obtain ⟨us2, ho2, hb2⟩ := MOf_of hw2
  have hP1 : va_P D CL (ws1 ++ us1) H := (hP.part is1 hm1).sl (List.Sublist.append (List.Sublist.refl _) hb1)
  have hD1 : va_D A (ws1 ++ us1) := (hD.part is1 hn1 hm1).sl (List.Sublist.append (List.Sublist.refl _) hb1)
  have hP2 : va_P D CL (ws2 ++ us2) H := (hP.part is2 hm2).sl (List.Sublist.append (List.Sublist.refl _) hb2)
  have hD2 : va_D A (ws2 ++ us2) := (hD.part is2 hn2 hm2).sl (List.Sublist.append (List.Sublist.refl _) hb2)
  clear hP hD hm1 hm2 hwc hw2 hb1 hb2 hn1 hn2
  refine lv_astore_n (lv' := [(2, .ref h1), (1, .ref h0), (0, .ref b)]) G.1 G.2.1 d_Law_15 rfl hl (by decide) rfl (fun ls hl => ?_)
  refine lv_iconst (v := nI 0) G.1 G.2.1 d_Law_16 (by decide) ?_
  refine lv_istore_n (lv' := [(3, .int (nI 0)), (2, .ref h1), (1, .ref h0), (0, .ref b)]) G.1 G.2.1 d_Law_17 rfl hl (by decide) rfl (fun ls hl => ?_)
  refine W.eq (g2 := F0 m 18 ls []) rfl ?_
  refine lv_iload_n G.1 G.2.1 d_Law_18 rfl (lv_at hl 0 rfl) ?_
  refine lv_aload_n G.1 G.2.1 d_Law_19 rfl (lv_at hl 3 rfl) ?_
  refine va_slen G.1 G.2.1 hX hbl hbA hS d_Law_20 ?_
  refine tpi (w := nI L) rfl ?_
  refine lv_bipush (v := nI 6) G.1 G.2.1 d_Law_21 (by decide) ?_
  refine lv_isub G.1 G.2.1 d_Law_23 ?_
  refine lv_icmp_gt (tgt := 1774) G.1 G.2.1 d_Law_24 (by decide) (fun c24 => ?_) (fun c24 => ?_)
  · skip
    refine lv_iconst (v := nI 1) G.1 G.2.1 d_Law_1774 (by decide) ?_
    refine va_forget (fun q hq => hAA _ (hS.2.2 q hq)) ?_
    refine W.widen (k := 600002) (n := 7302232) (Nat.le_of_ble_eq_true rfl) (Nat.le_of_ble_eq_true rfl) ?_
    exact lw_ret G.1 G.2.1 G.2.2.2.1 G.2.2.2.2.1 d_Law_1775
  obtain rfl : L = 6 := lw_six hL c24
  refine lv_aload_n G.1 G.2.1 d_Law_27 rfl (lv_at hl 3 rfl) ?_
  refine lv_iload_n G.1 G.2.1 d_Law_28 rfl (lv_at hl 0 rfl) ?_
  refine va_sld G.1 G.2.1 hX hbl hbA hS (nI_inn (n := 6) (a := 0) (by decide) (by decide)) d_Law_29 ?_
  refine tpi (w := (xs 0)) (by rw [nI_clamp (by decide)]) ?_
  refine lv_bipush (v := nI 63) G.1 G.2.1 d_Law_30 (by decide) ?_
  refine lv_iand G.1 G.2.1 d_Law_32 ?_
  exact lw_disp G hX hbl hbA hAA hc1 ho1 hP1 hD1 hc2 ho2 hP2 hD2 hS hl
set_option maxHeartbeats 4000000 in
theorem lw_walk (l : Launch) (hflags : l.flags = flags0) (b : Addr) (xs : List Int32) : MetFree l x (headSpec (Jvm.Cond.code x code maxLocals ret :: tables_1) room_1) (lw_P b xs) (fun _ _ _ _ _ => True) lw_Q := by
  refine MetFree.of_bodyS (code := code) (maxLocals := maxLocals) (ret := ret) (by decide) ?_ ?_
  · intro args s m h hn
    obtain ⟨meth, c, h1, h2, h3, h4, h5, h6, -, -⟩ := Cond.code_spec hn (atoms_spec (ws := Jvm.Cond.code x code maxLocals ret :: tables_1) h _ List.mem_cons_self)
    exact ⟨meth, c, h1, h2, h3, h4, h5, h6⟩
  · intro p e s m args below meth c s₁ B hml0 hP _
    obtain ⟨rfl, hx, hbd, hgv⟩ := hP
    obtain ⟨scr, harrAt, hlist, hof, hsmall⟩ := hx
    obtain ⟨hcb, hkn, -, -⟩ := State.arrayAt?_spec harrAt
    have hown : s.vm.findClass R_law = some m.cls := findClass_of_methodNamed B.named
    have hts0 : ∀ c ∈ (Jvm.Cond.code x code maxLocals ret :: tables_1), c.before #[Value.ref b] s = true := atoms_spec (ws := Jvm.Cond.code x code maxLocals ret :: tables_1) B.pre
    have hts : ∀ w ∈ lw_tbl, w.before #[Value.ref b] s = true := k2_hts_sels lw_privs (fun w hw => hts0 w (List.mem_cons_of_mem _ hw)) lw_privs_ok
    have hml : c.maxLocals = 4 := B.maxLocals_eq (hts0 _ List.mem_cons_self)
    have X₀ : Stand p l e room_1 s m #[Value.ref b] below meth c s₁ [] 0 0 := Stand.of_body B
    have hh0 : s₁.heap = s.heap := by rw [B.state]; rfl
    have hsz : scr.slots.size = xs.length := by rw [← Array.length_toList, hlist, List.length_map]
    have hval : ∀ j : Nat, j < xs.length → scr.slots[j]? = some (.int (xs.getD j 0)) := fun j hj => by
      rw [← Array.getElem?_toList, hlist]
      simp [hj]
    have hbl : b < s.heap.size := (Array.getElem?_eq_some_iff.mp hcb).1
    have hX : va_X b xs.length (fun j => xs.getD j 0) s s.heap := ⟨scr, hcb, hof, hkn, hsz, hval⟩
    have K : W p l e room_1 s m #[Value.ref b] below meth c s₁.heap [] 0 0 (lw_Z below #[Value.ref b] s) (entryFrame m ([Value.ref b] : List Value).toArray 4) := by
      rw [hh0]
      exact whole_start l hflags hbd ⟨B.exec, B.bytes, B.returns, hml, hown, hts, hX, hbl, B.notSynchronized, hgv⟩
    obtain ⟨t, a1, o, b1, b2, b3⟩ := K s₁ rfl X₀
    exact ⟨t, o, a1, b1, b2, b3⟩
theorem lw_pre_spec {args : Array Value} {s : State} (h : (Jvm.Cond.and given_1 narrow_1).before args s = true) (hr : rest_1_c.before args s = true) : ∃ (b : Addr) (xs : List Int32), lw_P b xs args s := by
  have hs := flat_of_before _ h
  have hq := flat_of_before _ hr
  have hc : (Cond.count 1).before args s = true := hs _ (by decide +kernel)
  have harr : (Cond.arrayOf (.arg 0) .int).before args s = true := hs _ (by decide +kernel)
  have hle : (Cond.le (.length (.arg 0)) (.int 6)).before args s = true := hs _ (by decide +kernel)
  have hlen : (Cond.isInt (.length (.arg 0))).before args s = true := hq _ (by decide +kernel)
  have hall : (Cond.all (.arg 0) (.isInt (.elem (.arg 0) (.index 0)))).before args s = true := hq _ (by decide +kernel)
  obtain ⟨b, xs, hb, hx⟩ := State.ints_of_pre rfl harr hlen hall
  have hsm : xs.length < 2 ^ 31 := hx.choose_spec.2.2.2
  have hev : (Term.length (.arg 0)).eval args s none [] s = some (.int xs.length.toInt32) := hx.length_eval hb
  have hv := Cond.le_ints hev (show (Term.int 6).eval args s none [] s = some (.int 6) from rfl)
  have hd : xs.length.toInt32 ≤ 6 := by
    simpa [Cond.before, Cond.holds, hv] using hle
  have hN : xs.length ≤ 6 := (Int32.ofNat_le_ofNat hsm (by decide)).mp (show Int32.ofNat xs.length ≤ Int32.ofNat 6 from hd)
  exact ⟨b, xs, Cond.one_arg hc (show args[0]? = some (.ref b) from hb), hx, hN, h⟩
theorem lw_comes (l : Launch) (hflags : l.flags = flags0) : Comes l x (Jvm.Cond.code x code maxLocals ret :: tables_1) room_1 (fun tb e args s => Calls_1 tb e args s ∧ rest_1 tb e args s ∧ Pre_1 tb e args s)
    (fun _ _ args s o t => lw_Q args s o t) := by
  intro p e ha hc hk s m args below hf hfit hheap happ hpre
  obtain ⟨b, xs, hP⟩ := lw_pre_spec hpre.2.2 hpre.2.1
  obtain ⟨k, o, h1, h2, h3, hQ⟩ := lw_walk l hflags b xs p e ha hc hk s m args below hf ((Spec.applies_iff_loose hf).mp happ).1 hP trivial
  exact ⟨k, o, h1, h2, h3, hQ⟩
theorem lw_frame {s t : State} {o : Outcome} {args : Array Value} (h : Framed s o t [] 600002 7302232) :
    Framed s o t (fieldLocs frame_1_writes args s ++ arrayLocs frame_1_arrays args s ++ staticLocs frame_1_statics s) 600002 7302232 := h
theorem lw_limb (L : Cond) (hL : ∀ (args : Array Value) (s t : State), L.after args s (.returned (some (.int 1))) t = true) :
    ArmFor flags0 classFile x code maxLocals ret World_1 tables_1 room_1 Calls_1 rest_1 Pre_1
      (fun tb e a s o t => postC L tb e a s o t ∧ Framed s o t (fieldLocs frame_1_writes a s ++ arrayLocs frame_1_arrays a s ++ staticLocs frame_1_statics s) 600002 7302232) := by
  intro l hflags _ _ p e ha hc hk s m args below hf hfit hheap happ hpre
  obtain ⟨k, o, h1, h2, h3, rfl, hF⟩ := lw_comes l hflags p e ha hc hk s m args below hf hfit hheap happ hpre
  exact ⟨k, _, h1, h2, h3, hL args s _, lw_frame hF⟩
theorem i_vc : Claimed_1_1 ∧ Claimed_1_2 := ⟨lw_limb limb_1_1 (fun args s t => by simp [limb_1_1, Cond.after, Cond.holds, Cond.value]), lw_limb limb_1_2 (fun args s t => Cond.after_iff.mpr (by
  first | (rw [show limb_1_2 = Cond.eq .result (.int 1) from rfl, Cond.eq_ints (x := 1) (y := 1) rfl rfl]; simp; done) | (simp [limb_1_2, Cond.value, Term.eval]; done)))⟩

