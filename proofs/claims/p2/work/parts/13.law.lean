theorem q1195 : Cond.methodLink "ClassWorksLaw" 13 y_Cw_feed ∈ lw_ok := lw_okmem (List.mem_of_getElem? (i := 1195) (by decide +kernel)) rfl
theorem q1198 : Cond.code y_Cw_feed b_Cw_feed 6 (some .int) ∈ lw_ok := lw_okmem (List.mem_of_getElem? (i := 1198) (by decide +kernel)) rfl
theorem q1196 : Cond.instanceMethod y_Cw_feed ∈ lw_ok := lw_okmem (List.mem_of_getElem? (i := 1196) (by decide +kernel)) rfl
theorem q1197 : Cond.selects y_Cw_feed.cls y_Cw_feed y_Cw_feed ∈ lw_ok := lw_okmem (List.mem_of_getElem? (i := 1197) (by decide +kernel)) rfl
theorem w9_Cw_feed : CWv y_Cw_feed b_Cw_feed 6 (some .int) 5 ∧ Cond.instanceMethod y_Cw_feed ∈ lw_ok ∧ Cond.selects y_Cw_feed.cls y_Cw_feed y_Cw_feed ∈ lw_ok := ⟨⟨q1198, q329, by decide +kernel, by decide +kernel, by decide +kernel⟩, q1196, q1197⟩
theorem q3458 : Cond.methodLink "ClassWorksLaw" 17 y_Mo_feed ∈ lw_ok := lw_okmem (List.mem_of_getElem? (i := 3458) (by decide +kernel)) rfl
theorem q3461 : Cond.code y_Mo_feed b_Mo_feed 6 (some .int) ∈ lw_ok := lw_okmem (List.mem_of_getElem? (i := 3461) (by decide +kernel)) rfl
theorem q3459 : Cond.instanceMethod y_Mo_feed ∈ lw_ok := lw_okmem (List.mem_of_getElem? (i := 3459) (by decide +kernel)) rfl
theorem q3460 : Cond.selects y_Mo_feed.cls y_Mo_feed y_Mo_feed ∈ lw_ok := lw_okmem (List.mem_of_getElem? (i := 3460) (by decide +kernel)) rfl
theorem w9_Mo_feed : CWv y_Mo_feed b_Mo_feed 6 (some .int) 5 ∧ Cond.instanceMethod y_Mo_feed ∈ lw_ok ∧ Cond.selects y_Mo_feed.cls y_Mo_feed y_Mo_feed ∈ lw_ok := ⟨⟨q3461, q348, by decide +kernel, by decide +kernel, by decide +kernel⟩, q3459, q3460⟩
theorem q1203 : Cond.methodLink "ClassWorksLaw" 18 y_Cw_cut ∈ lw_ok := lw_okmem (List.mem_of_getElem? (i := 1203) (by decide +kernel)) rfl
theorem q1206 : Cond.code y_Cw_cut b_Cw_cut 2 (some .int) ∈ lw_ok := lw_okmem (List.mem_of_getElem? (i := 1206) (by decide +kernel)) rfl
theorem q1204 : Cond.instanceMethod y_Cw_cut ∈ lw_ok := lw_okmem (List.mem_of_getElem? (i := 1204) (by decide +kernel)) rfl
theorem q1205 : Cond.selects y_Cw_cut.cls y_Cw_cut y_Cw_cut ∈ lw_ok := lw_okmem (List.mem_of_getElem? (i := 1205) (by decide +kernel)) rfl
theorem w9_Cw_cut : CWv y_Cw_cut b_Cw_cut 2 (some .int) 1 ∧ Cond.instanceMethod y_Cw_cut ∈ lw_ok ∧ Cond.selects y_Cw_cut.cls y_Cw_cut y_Cw_cut ∈ lw_ok := ⟨⟨q1206, q329, by decide +kernel, by decide +kernel, by decide +kernel⟩, q1204, q1205⟩
theorem q3466 : Cond.methodLink "ClassWorksLaw" 22 y_Mo_cut ∈ lw_ok := lw_okmem (List.mem_of_getElem? (i := 3466) (by decide +kernel)) rfl
theorem q3469 : Cond.code y_Mo_cut b_Mo_cut 2 (some .int) ∈ lw_ok := lw_okmem (List.mem_of_getElem? (i := 3469) (by decide +kernel)) rfl
theorem q3467 : Cond.instanceMethod y_Mo_cut ∈ lw_ok := lw_okmem (List.mem_of_getElem? (i := 3467) (by decide +kernel)) rfl
theorem q3468 : Cond.selects y_Mo_cut.cls y_Mo_cut y_Mo_cut ∈ lw_ok := lw_okmem (List.mem_of_getElem? (i := 3468) (by decide +kernel)) rfl
theorem w9_Mo_cut : CWv y_Mo_cut b_Mo_cut 2 (some .int) 1 ∧ Cond.instanceMethod y_Mo_cut ∈ lw_ok ∧ Cond.selects y_Mo_cut.cls y_Mo_cut y_Mo_cut ∈ lw_ok := ⟨⟨q3469, q348, by decide +kernel, by decide +kernel, by decide +kernel⟩, q3467, q3468⟩
theorem q1207 : Cond.methodLink "ClassWorksLaw" 23 y_Cw_world ∈ lw_ok := lw_okmem (List.mem_of_getElem? (i := 1207) (by decide +kernel)) rfl
theorem q1210 : Cond.code y_Cw_world b_Cw_world 3 (some .int) ∈ lw_ok := lw_okmem (List.mem_of_getElem? (i := 1210) (by decide +kernel)) rfl
theorem q1208 : Cond.instanceMethod y_Cw_world ∈ lw_ok := lw_okmem (List.mem_of_getElem? (i := 1208) (by decide +kernel)) rfl
theorem q1209 : Cond.selects y_Cw_world.cls y_Cw_world y_Cw_world ∈ lw_ok := lw_okmem (List.mem_of_getElem? (i := 1209) (by decide +kernel)) rfl
theorem w9_Cw_world : CWv y_Cw_world b_Cw_world 3 (some .int) 1 ∧ Cond.instanceMethod y_Cw_world ∈ lw_ok ∧ Cond.selects y_Cw_world.cls y_Cw_world y_Cw_world ∈ lw_ok := ⟨⟨q1210, q329, by decide +kernel, by decide +kernel, by decide +kernel⟩, q1208, q1209⟩
theorem q3470 : Cond.methodLink "ClassWorksLaw" 26 y_Mo_world ∈ lw_ok := lw_okmem (List.mem_of_getElem? (i := 3470) (by decide +kernel)) rfl
theorem q3473 : Cond.code y_Mo_world b_Mo_world 3 (some .int) ∈ lw_ok := lw_okmem (List.mem_of_getElem? (i := 3473) (by decide +kernel)) rfl
theorem q3471 : Cond.instanceMethod y_Mo_world ∈ lw_ok := lw_okmem (List.mem_of_getElem? (i := 3471) (by decide +kernel)) rfl
theorem q3472 : Cond.selects y_Mo_world.cls y_Mo_world y_Mo_world ∈ lw_ok := lw_okmem (List.mem_of_getElem? (i := 3472) (by decide +kernel)) rfl
theorem w9_Mo_world : CWv y_Mo_world b_Mo_world 3 (some .int) 1 ∧ Cond.instanceMethod y_Mo_world ∈ lw_ok ∧ Cond.selects y_Mo_world.cls y_Mo_world y_Mo_world ∈ lw_ok := ⟨⟨q3473, q348, by decide +kernel, by decide +kernel, by decide +kernel⟩, q3471, q3472⟩
theorem q1240 : Cond.methodLink "ClassWorksLaw" 27 y_Cw_drop ∈ lw_ok := lw_okmem (List.mem_of_getElem? (i := 1240) (by decide +kernel)) rfl
theorem q1243 : Cond.code y_Cw_drop b_Cw_drop 3 (some .int) ∈ lw_ok := lw_okmem (List.mem_of_getElem? (i := 1243) (by decide +kernel)) rfl
theorem q1241 : Cond.instanceMethod y_Cw_drop ∈ lw_ok := lw_okmem (List.mem_of_getElem? (i := 1241) (by decide +kernel)) rfl
theorem q1242 : Cond.selects y_Cw_drop.cls y_Cw_drop y_Cw_drop ∈ lw_ok := lw_okmem (List.mem_of_getElem? (i := 1242) (by decide +kernel)) rfl
theorem w9_Cw_drop : CWv y_Cw_drop b_Cw_drop 3 (some .int) 1 ∧ Cond.instanceMethod y_Cw_drop ∈ lw_ok ∧ Cond.selects y_Cw_drop.cls y_Cw_drop y_Cw_drop ∈ lw_ok := ⟨⟨q1243, q329, by decide +kernel, by decide +kernel, by decide +kernel⟩, q1241, q1242⟩
theorem q3478 : Cond.methodLink "ClassWorksLaw" 30 y_Mo_drop ∈ lw_ok := lw_okmem (List.mem_of_getElem? (i := 3478) (by decide +kernel)) rfl
theorem q3481 : Cond.code y_Mo_drop b_Mo_drop 2 (some .int) ∈ lw_ok := lw_okmem (List.mem_of_getElem? (i := 3481) (by decide +kernel)) rfl
theorem q3479 : Cond.instanceMethod y_Mo_drop ∈ lw_ok := lw_okmem (List.mem_of_getElem? (i := 3479) (by decide +kernel)) rfl
theorem q3480 : Cond.selects y_Mo_drop.cls y_Mo_drop y_Mo_drop ∈ lw_ok := lw_okmem (List.mem_of_getElem? (i := 3480) (by decide +kernel)) rfl
theorem w9_Mo_drop : CWv y_Mo_drop b_Mo_drop 2 (some .int) 1 ∧ Cond.instanceMethod y_Mo_drop ∈ lw_ok ∧ Cond.selects y_Mo_drop.cls y_Mo_drop y_Mo_drop ∈ lw_ok := ⟨⟨q3481, q348, by decide +kernel, by decide +kernel, by decide +kernel⟩, q3479, q3480⟩
theorem q1252 : Cond.methodLink "ClassWorksLaw" 31 y_Cw_define ∈ lw_ok := lw_okmem (List.mem_of_getElem? (i := 1252) (by decide +kernel)) rfl
theorem q1255 : Cond.code y_Cw_define b_Cw_define 4 (some .int) ∈ lw_ok := lw_okmem (List.mem_of_getElem? (i := 1255) (by decide +kernel)) rfl
theorem q1253 : Cond.instanceMethod y_Cw_define ∈ lw_ok := lw_okmem (List.mem_of_getElem? (i := 1253) (by decide +kernel)) rfl
theorem q1254 : Cond.selects y_Cw_define.cls y_Cw_define y_Cw_define ∈ lw_ok := lw_okmem (List.mem_of_getElem? (i := 1254) (by decide +kernel)) rfl
theorem w9_Cw_define : CWv y_Cw_define b_Cw_define 4 (some .int) 1 ∧ Cond.instanceMethod y_Cw_define ∈ lw_ok ∧ Cond.selects y_Cw_define.cls y_Cw_define y_Cw_define ∈ lw_ok := ⟨⟨q1255, q329, by decide +kernel, by decide +kernel, by decide +kernel⟩, q1253, q1254⟩
theorem q3486 : Cond.methodLink "ClassWorksLaw" 34 y_Mo_define ∈ lw_ok := lw_okmem (List.mem_of_getElem? (i := 3486) (by decide +kernel)) rfl
theorem q3489 : Cond.code y_Mo_define b_Mo_define 3 (some .int) ∈ lw_ok := lw_okmem (List.mem_of_getElem? (i := 3489) (by decide +kernel)) rfl
theorem q3487 : Cond.instanceMethod y_Mo_define ∈ lw_ok := lw_okmem (List.mem_of_getElem? (i := 3487) (by decide +kernel)) rfl
theorem q3488 : Cond.selects y_Mo_define.cls y_Mo_define y_Mo_define ∈ lw_ok := lw_okmem (List.mem_of_getElem? (i := 3488) (by decide +kernel)) rfl
theorem w9_Mo_define : CWv y_Mo_define b_Mo_define 3 (some .int) 1 ∧ Cond.instanceMethod y_Mo_define ∈ lw_ok ∧ Cond.selects y_Mo_define.cls y_Mo_define y_Mo_define ∈ lw_ok := ⟨⟨q3489, q348, by decide +kernel, by decide +kernel, by decide +kernel⟩, q3487, q3488⟩
theorem q1469 : Cond.methodLink "ClassWorksLaw" 35 y_Cw_place ∈ lw_ok := lw_okmem (List.mem_of_getElem? (i := 1469) (by decide +kernel)) rfl
theorem q1472 : Cond.code y_Cw_place b_Cw_place 1 (some .int) ∈ lw_ok := lw_okmem (List.mem_of_getElem? (i := 1472) (by decide +kernel)) rfl
theorem q1470 : Cond.instanceMethod y_Cw_place ∈ lw_ok := lw_okmem (List.mem_of_getElem? (i := 1470) (by decide +kernel)) rfl
theorem q1471 : Cond.selects y_Cw_place.cls y_Cw_place y_Cw_place ∈ lw_ok := lw_okmem (List.mem_of_getElem? (i := 1471) (by decide +kernel)) rfl
theorem w9_Cw_place : CWv y_Cw_place b_Cw_place 1 (some .int) 0 ∧ Cond.instanceMethod y_Cw_place ∈ lw_ok ∧ Cond.selects y_Cw_place.cls y_Cw_place y_Cw_place ∈ lw_ok := ⟨⟨q1472, q329, by decide +kernel, by decide +kernel, by decide +kernel⟩, q1470, q1471⟩
theorem q3649 : Cond.methodLink "ClassWorksLaw" 39 y_Mo_place ∈ lw_ok := lw_okmem (List.mem_of_getElem? (i := 3649) (by decide +kernel)) rfl
theorem q3652 : Cond.code y_Mo_place b_Mo_place 1 (some .int) ∈ lw_ok := lw_okmem (List.mem_of_getElem? (i := 3652) (by decide +kernel)) rfl
theorem q3650 : Cond.instanceMethod y_Mo_place ∈ lw_ok := lw_okmem (List.mem_of_getElem? (i := 3650) (by decide +kernel)) rfl
theorem q3651 : Cond.selects y_Mo_place.cls y_Mo_place y_Mo_place ∈ lw_ok := lw_okmem (List.mem_of_getElem? (i := 3651) (by decide +kernel)) rfl
theorem w9_Mo_place : CWv y_Mo_place b_Mo_place 1 (some .int) 0 ∧ Cond.instanceMethod y_Mo_place ∈ lw_ok ∧ Cond.selects y_Mo_place.cls y_Mo_place y_Mo_place ∈ lw_ok := ⟨⟨q3652, q348, by decide +kernel, by decide +kernel, by decide +kernel⟩, q3650, q3651⟩
theorem q1473 : Cond.methodLink "ClassWorksLaw" 40 y_Cw_classes ∈ lw_ok := lw_okmem (List.mem_of_getElem? (i := 1473) (by decide +kernel)) rfl
theorem q1476 : Cond.code y_Cw_classes b_Cw_classes 3 (some .int) ∈ lw_ok := lw_okmem (List.mem_of_getElem? (i := 1476) (by decide +kernel)) rfl
theorem q1474 : Cond.instanceMethod y_Cw_classes ∈ lw_ok := lw_okmem (List.mem_of_getElem? (i := 1474) (by decide +kernel)) rfl
theorem q1475 : Cond.selects y_Cw_classes.cls y_Cw_classes y_Cw_classes ∈ lw_ok := lw_okmem (List.mem_of_getElem? (i := 1475) (by decide +kernel)) rfl
theorem w9_Cw_classes : CWv y_Cw_classes b_Cw_classes 3 (some .int) 1 ∧ Cond.instanceMethod y_Cw_classes ∈ lw_ok ∧ Cond.selects y_Cw_classes.cls y_Cw_classes y_Cw_classes ∈ lw_ok := ⟨⟨q1476, q329, by decide +kernel, by decide +kernel, by decide +kernel⟩, q1474, q1475⟩
theorem q3653 : Cond.methodLink "ClassWorksLaw" 43 y_Mo_classes ∈ lw_ok := lw_okmem (List.mem_of_getElem? (i := 3653) (by decide +kernel)) rfl
theorem q3656 : Cond.code y_Mo_classes b_Mo_classes 2 (some .int) ∈ lw_ok := lw_okmem (List.mem_of_getElem? (i := 3656) (by decide +kernel)) rfl
theorem q3654 : Cond.instanceMethod y_Mo_classes ∈ lw_ok := lw_okmem (List.mem_of_getElem? (i := 3654) (by decide +kernel)) rfl
theorem q3655 : Cond.selects y_Mo_classes.cls y_Mo_classes y_Mo_classes ∈ lw_ok := lw_okmem (List.mem_of_getElem? (i := 3655) (by decide +kernel)) rfl
theorem w9_Mo_classes : CWv y_Mo_classes b_Mo_classes 2 (some .int) 1 ∧ Cond.instanceMethod y_Mo_classes ∈ lw_ok ∧ Cond.selects y_Mo_classes.cls y_Mo_classes y_Mo_classes ∈ lw_ok := ⟨⟨q3656, q348, by decide +kernel, by decide +kernel, by decide +kernel⟩, q3654, q3655⟩
theorem q1477 : Cond.methodLink "ClassWorksLaw" 44 y_Cw_told ∈ lw_ok := lw_okmem (List.mem_of_getElem? (i := 1477) (by decide +kernel)) rfl
theorem q1480 : Cond.code y_Cw_told b_Cw_told 5 (some .int) ∈ lw_ok := lw_okmem (List.mem_of_getElem? (i := 1480) (by decide +kernel)) rfl
theorem q1478 : Cond.instanceMethod y_Cw_told ∈ lw_ok := lw_okmem (List.mem_of_getElem? (i := 1478) (by decide +kernel)) rfl
theorem q1479 : Cond.selects y_Cw_told.cls y_Cw_told y_Cw_told ∈ lw_ok := lw_okmem (List.mem_of_getElem? (i := 1479) (by decide +kernel)) rfl
theorem w9_Cw_told : CWv y_Cw_told b_Cw_told 5 (some .int) 3 ∧ Cond.instanceMethod y_Cw_told ∈ lw_ok ∧ Cond.selects y_Cw_told.cls y_Cw_told y_Cw_told ∈ lw_ok := ⟨⟨q1480, q329, by decide +kernel, by decide +kernel, by decide +kernel⟩, q1478, q1479⟩
theorem q3657 : Cond.methodLink "ClassWorksLaw" 48 y_Mo_told ∈ lw_ok := lw_okmem (List.mem_of_getElem? (i := 3657) (by decide +kernel)) rfl
theorem q3660 : Cond.code y_Mo_told b_Mo_told 4 (some .int) ∈ lw_ok := lw_okmem (List.mem_of_getElem? (i := 3660) (by decide +kernel)) rfl
theorem q3658 : Cond.instanceMethod y_Mo_told ∈ lw_ok := lw_okmem (List.mem_of_getElem? (i := 3658) (by decide +kernel)) rfl
theorem q3659 : Cond.selects y_Mo_told.cls y_Mo_told y_Mo_told ∈ lw_ok := lw_okmem (List.mem_of_getElem? (i := 3659) (by decide +kernel)) rfl
theorem w9_Mo_told : CWv y_Mo_told b_Mo_told 4 (some .int) 3 ∧ Cond.instanceMethod y_Mo_told ∈ lw_ok ∧ Cond.selects y_Mo_told.cls y_Mo_told y_Mo_told ∈ lw_ok := ⟨⟨q3660, q348, by decide +kernel, by decide +kernel, by decide +kernel⟩, q3658, q3659⟩
theorem q1494 : Cond.methodLink "ClassWorksLaw" 49 y_Cw_name ∈ lw_ok := lw_okmem (List.mem_of_getElem? (i := 1494) (by decide +kernel)) rfl
theorem q1497 : Cond.code y_Cw_name b_Cw_name 7 (some .int) ∈ lw_ok := lw_okmem (List.mem_of_getElem? (i := 1497) (by decide +kernel)) rfl
theorem q1495 : Cond.instanceMethod y_Cw_name ∈ lw_ok := lw_okmem (List.mem_of_getElem? (i := 1495) (by decide +kernel)) rfl
theorem q1496 : Cond.selects y_Cw_name.cls y_Cw_name y_Cw_name ∈ lw_ok := lw_okmem (List.mem_of_getElem? (i := 1496) (by decide +kernel)) rfl
theorem w9_Cw_name : CWv y_Cw_name b_Cw_name 7 (some .int) 5 ∧ Cond.instanceMethod y_Cw_name ∈ lw_ok ∧ Cond.selects y_Cw_name.cls y_Cw_name y_Cw_name ∈ lw_ok := ⟨⟨q1497, q329, by decide +kernel, by decide +kernel, by decide +kernel⟩, q1495, q1496⟩
theorem q3665 : Cond.methodLink "ClassWorksLaw" 52 y_Mo_name ∈ lw_ok := lw_okmem (List.mem_of_getElem? (i := 3665) (by decide +kernel)) rfl
theorem q3668 : Cond.code y_Mo_name b_Mo_name 8 (some .int) ∈ lw_ok := lw_okmem (List.mem_of_getElem? (i := 3668) (by decide +kernel)) rfl
theorem q3666 : Cond.instanceMethod y_Mo_name ∈ lw_ok := lw_okmem (List.mem_of_getElem? (i := 3666) (by decide +kernel)) rfl
theorem q3667 : Cond.selects y_Mo_name.cls y_Mo_name y_Mo_name ∈ lw_ok := lw_okmem (List.mem_of_getElem? (i := 3667) (by decide +kernel)) rfl
theorem w9_Mo_name : CWv y_Mo_name b_Mo_name 8 (some .int) 5 ∧ Cond.instanceMethod y_Mo_name ∈ lw_ok ∧ Cond.selects y_Mo_name.cls y_Mo_name y_Mo_name ∈ lw_ok := ⟨⟨q3668, q348, by decide +kernel, by decide +kernel, by decide +kernel⟩, q3666, q3667⟩
theorem q1518 : Cond.methodLink "ClassWorksLaw" 53 y_Cw_member ∈ lw_ok := lw_okmem (List.mem_of_getElem? (i := 1518) (by decide +kernel)) rfl
theorem q1521 : Cond.code y_Cw_member b_Cw_member 6 (some .int) ∈ lw_ok := lw_okmem (List.mem_of_getElem? (i := 1521) (by decide +kernel)) rfl
theorem q1519 : Cond.instanceMethod y_Cw_member ∈ lw_ok := lw_okmem (List.mem_of_getElem? (i := 1519) (by decide +kernel)) rfl
theorem q1520 : Cond.selects y_Cw_member.cls y_Cw_member y_Cw_member ∈ lw_ok := lw_okmem (List.mem_of_getElem? (i := 1520) (by decide +kernel)) rfl
theorem w9_Cw_member : CWv y_Cw_member b_Cw_member 6 (some .int) 4 ∧ Cond.instanceMethod y_Cw_member ∈ lw_ok ∧ Cond.selects y_Cw_member.cls y_Cw_member y_Cw_member ∈ lw_ok := ⟨⟨q1521, q329, by decide +kernel, by decide +kernel, by decide +kernel⟩, q1519, q1520⟩
theorem q3669 : Cond.methodLink "ClassWorksLaw" 57 y_Mo_member ∈ lw_ok := lw_okmem (List.mem_of_getElem? (i := 3669) (by decide +kernel)) rfl
theorem q3672 : Cond.code y_Mo_member b_Mo_member 8 (some .int) ∈ lw_ok := lw_okmem (List.mem_of_getElem? (i := 3672) (by decide +kernel)) rfl
theorem q3670 : Cond.instanceMethod y_Mo_member ∈ lw_ok := lw_okmem (List.mem_of_getElem? (i := 3670) (by decide +kernel)) rfl
theorem q3671 : Cond.selects y_Mo_member.cls y_Mo_member y_Mo_member ∈ lw_ok := lw_okmem (List.mem_of_getElem? (i := 3671) (by decide +kernel)) rfl
theorem w9_Mo_member : CWv y_Mo_member b_Mo_member 8 (some .int) 4 ∧ Cond.instanceMethod y_Mo_member ∈ lw_ok ∧ Cond.selects y_Mo_member.cls y_Mo_member y_Mo_member ∈ lw_ok := ⟨⟨q3672, q348, by decide +kernel, by decide +kernel, by decide +kernel⟩, q3670, q3671⟩
theorem q1524 : Cond.methodLink "ClassWorksLaw" 58 y_Cw_link ∈ lw_ok := lw_okmem (List.mem_of_getElem? (i := 1524) (by decide +kernel)) rfl
theorem q1527 : Cond.code y_Cw_link b_Cw_link 4 (some .int) ∈ lw_ok := lw_okmem (List.mem_of_getElem? (i := 1527) (by decide +kernel)) rfl
theorem q1525 : Cond.instanceMethod y_Cw_link ∈ lw_ok := lw_okmem (List.mem_of_getElem? (i := 1525) (by decide +kernel)) rfl
theorem q1526 : Cond.selects y_Cw_link.cls y_Cw_link y_Cw_link ∈ lw_ok := lw_okmem (List.mem_of_getElem? (i := 1526) (by decide +kernel)) rfl
theorem w9_Cw_link : CWv y_Cw_link b_Cw_link 4 (some .int) 2 ∧ Cond.instanceMethod y_Cw_link ∈ lw_ok ∧ Cond.selects y_Cw_link.cls y_Cw_link y_Cw_link ∈ lw_ok := ⟨⟨q1527, q329, by decide +kernel, by decide +kernel, by decide +kernel⟩, q1525, q1526⟩
theorem q3673 : Cond.methodLink "ClassWorksLaw" 62 y_Mo_link ∈ lw_ok := lw_okmem (List.mem_of_getElem? (i := 3673) (by decide +kernel)) rfl
theorem q3676 : Cond.code y_Mo_link b_Mo_link 3 (some .int) ∈ lw_ok := lw_okmem (List.mem_of_getElem? (i := 3676) (by decide +kernel)) rfl
theorem q3674 : Cond.instanceMethod y_Mo_link ∈ lw_ok := lw_okmem (List.mem_of_getElem? (i := 3674) (by decide +kernel)) rfl
theorem q3675 : Cond.selects y_Mo_link.cls y_Mo_link y_Mo_link ∈ lw_ok := lw_okmem (List.mem_of_getElem? (i := 3675) (by decide +kernel)) rfl
theorem w9_Mo_link : CWv y_Mo_link b_Mo_link 3 (some .int) 2 ∧ Cond.instanceMethod y_Mo_link ∈ lw_ok ∧ Cond.selects y_Mo_link.cls y_Mo_link y_Mo_link ∈ lw_ok := ⟨⟨q3676, q348, by decide +kernel, by decide +kernel, by decide +kernel⟩, q3674, q3675⟩
theorem q1719 : Cond.methodLink "ClassWorksLaw" 63 y_Cw_checked ∈ lw_ok := lw_okmem (List.mem_of_getElem? (i := 1719) (by decide +kernel)) rfl
theorem q1722 : Cond.code y_Cw_checked b_Cw_checked 4 (some .int) ∈ lw_ok := lw_okmem (List.mem_of_getElem? (i := 1722) (by decide +kernel)) rfl
theorem q1720 : Cond.instanceMethod y_Cw_checked ∈ lw_ok := lw_okmem (List.mem_of_getElem? (i := 1720) (by decide +kernel)) rfl
theorem q1721 : Cond.selects y_Cw_checked.cls y_Cw_checked y_Cw_checked ∈ lw_ok := lw_okmem (List.mem_of_getElem? (i := 1721) (by decide +kernel)) rfl
theorem w9_Cw_checked : CWv y_Cw_checked b_Cw_checked 4 (some .int) 2 ∧ Cond.instanceMethod y_Cw_checked ∈ lw_ok ∧ Cond.selects y_Cw_checked.cls y_Cw_checked y_Cw_checked ∈ lw_ok := ⟨⟨q1722, q329, by decide +kernel, by decide +kernel, by decide +kernel⟩, q1720, q1721⟩
theorem q3787 : Cond.methodLink "ClassWorksLaw" 66 y_Mo_checked ∈ lw_ok := lw_okmem (List.mem_of_getElem? (i := 3787) (by decide +kernel)) rfl
theorem q3790 : Cond.code y_Mo_checked b_Mo_checked 3 (some .int) ∈ lw_ok := lw_okmem (List.mem_of_getElem? (i := 3790) (by decide +kernel)) rfl
theorem q3788 : Cond.instanceMethod y_Mo_checked ∈ lw_ok := lw_okmem (List.mem_of_getElem? (i := 3788) (by decide +kernel)) rfl
theorem q3789 : Cond.selects y_Mo_checked.cls y_Mo_checked y_Mo_checked ∈ lw_ok := lw_okmem (List.mem_of_getElem? (i := 3789) (by decide +kernel)) rfl
theorem w9_Mo_checked : CWv y_Mo_checked b_Mo_checked 3 (some .int) 2 ∧ Cond.instanceMethod y_Mo_checked ∈ lw_ok ∧ Cond.selects y_Mo_checked.cls y_Mo_checked y_Mo_checked ∈ lw_ok := ⟨⟨q3790, q348, by decide +kernel, by decide +kernel, by decide +kernel⟩, q3788, q3789⟩
theorem q1723 : Cond.methodLink "ClassWorksLaw" 67 y_Cw_call ∈ lw_ok := lw_okmem (List.mem_of_getElem? (i := 1723) (by decide +kernel)) rfl
theorem q1726 : Cond.code y_Cw_call b_Cw_call 6 (some .int) ∈ lw_ok := lw_okmem (List.mem_of_getElem? (i := 1726) (by decide +kernel)) rfl
theorem q1724 : Cond.instanceMethod y_Cw_call ∈ lw_ok := lw_okmem (List.mem_of_getElem? (i := 1724) (by decide +kernel)) rfl
theorem q1725 : Cond.selects y_Cw_call.cls y_Cw_call y_Cw_call ∈ lw_ok := lw_okmem (List.mem_of_getElem? (i := 1725) (by decide +kernel)) rfl
theorem w9_Cw_call : CWv y_Cw_call b_Cw_call 6 (some .int) 2 ∧ Cond.instanceMethod y_Cw_call ∈ lw_ok ∧ Cond.selects y_Cw_call.cls y_Cw_call y_Cw_call ∈ lw_ok := ⟨⟨q1726, q329, by decide +kernel, by decide +kernel, by decide +kernel⟩, q1724, q1725⟩
theorem q3791 : Cond.methodLink "ClassWorksLaw" 70 y_Mo_call ∈ lw_ok := lw_okmem (List.mem_of_getElem? (i := 3791) (by decide +kernel)) rfl
theorem q3794 : Cond.code y_Mo_call b_Mo_call 3 (some .int) ∈ lw_ok := lw_okmem (List.mem_of_getElem? (i := 3794) (by decide +kernel)) rfl
theorem q3792 : Cond.instanceMethod y_Mo_call ∈ lw_ok := lw_okmem (List.mem_of_getElem? (i := 3792) (by decide +kernel)) rfl
theorem q3793 : Cond.selects y_Mo_call.cls y_Mo_call y_Mo_call ∈ lw_ok := lw_okmem (List.mem_of_getElem? (i := 3793) (by decide +kernel)) rfl
theorem w9_Mo_call : CWv y_Mo_call b_Mo_call 3 (some .int) 2 ∧ Cond.instanceMethod y_Mo_call ∈ lw_ok ∧ Cond.selects y_Mo_call.cls y_Mo_call y_Mo_call ∈ lw_ok := ⟨⟨q3794, q348, by decide +kernel, by decide +kernel, by decide +kernel⟩, q3792, q3793⟩
theorem q1753 : Cond.methodLink "ClassWorksLaw" 71 y_Cw_quantum ∈ lw_ok := lw_okmem (List.mem_of_getElem? (i := 1753) (by decide +kernel)) rfl
theorem q1756 : Cond.code y_Cw_quantum b_Cw_quantum 5 (some .int) ∈ lw_ok := lw_okmem (List.mem_of_getElem? (i := 1756) (by decide +kernel)) rfl
theorem q1754 : Cond.instanceMethod y_Cw_quantum ∈ lw_ok := lw_okmem (List.mem_of_getElem? (i := 1754) (by decide +kernel)) rfl
theorem q1755 : Cond.selects y_Cw_quantum.cls y_Cw_quantum y_Cw_quantum ∈ lw_ok := lw_okmem (List.mem_of_getElem? (i := 1755) (by decide +kernel)) rfl
theorem w9_Cw_quantum : CWv y_Cw_quantum b_Cw_quantum 5 (some .int) 2 ∧ Cond.instanceMethod y_Cw_quantum ∈ lw_ok ∧ Cond.selects y_Cw_quantum.cls y_Cw_quantum y_Cw_quantum ∈ lw_ok := ⟨⟨q1756, q329, by decide +kernel, by decide +kernel, by decide +kernel⟩, q1754, q1755⟩
theorem q3814 : Cond.methodLink "ClassWorksLaw" 74 y_Mo_quantum ∈ lw_ok := lw_okmem (List.mem_of_getElem? (i := 3814) (by decide +kernel)) rfl
theorem q3817 : Cond.code y_Mo_quantum b_Mo_quantum 4 (some .int) ∈ lw_ok := lw_okmem (List.mem_of_getElem? (i := 3817) (by decide +kernel)) rfl
theorem q3815 : Cond.instanceMethod y_Mo_quantum ∈ lw_ok := lw_okmem (List.mem_of_getElem? (i := 3815) (by decide +kernel)) rfl
theorem q3816 : Cond.selects y_Mo_quantum.cls y_Mo_quantum y_Mo_quantum ∈ lw_ok := lw_okmem (List.mem_of_getElem? (i := 3816) (by decide +kernel)) rfl
theorem w9_Mo_quantum : CWv y_Mo_quantum b_Mo_quantum 4 (some .int) 2 ∧ Cond.instanceMethod y_Mo_quantum ∈ lw_ok ∧ Cond.selects y_Mo_quantum.cls y_Mo_quantum y_Mo_quantum ∈ lw_ok := ⟨⟨q3817, q348, by decide +kernel, by decide +kernel, by decide +kernel⟩, q3815, q3816⟩
theorem q1757 : Cond.methodLink "ClassWorksLaw" 75 y_Cw_halt ∈ lw_ok := lw_okmem (List.mem_of_getElem? (i := 1757) (by decide +kernel)) rfl
theorem q1760 : Cond.code y_Cw_halt b_Cw_halt 3 (some .int) ∈ lw_ok := lw_okmem (List.mem_of_getElem? (i := 1760) (by decide +kernel)) rfl
theorem q1758 : Cond.instanceMethod y_Cw_halt ∈ lw_ok := lw_okmem (List.mem_of_getElem? (i := 1758) (by decide +kernel)) rfl
theorem q1759 : Cond.selects y_Cw_halt.cls y_Cw_halt y_Cw_halt ∈ lw_ok := lw_okmem (List.mem_of_getElem? (i := 1759) (by decide +kernel)) rfl
theorem w9_Cw_halt : CWv y_Cw_halt b_Cw_halt 3 (some .int) 1 ∧ Cond.instanceMethod y_Cw_halt ∈ lw_ok ∧ Cond.selects y_Cw_halt.cls y_Cw_halt y_Cw_halt ∈ lw_ok := ⟨⟨q1760, q329, by decide +kernel, by decide +kernel, by decide +kernel⟩, q1758, q1759⟩
theorem q3818 : Cond.methodLink "ClassWorksLaw" 78 y_Mo_halt ∈ lw_ok := lw_okmem (List.mem_of_getElem? (i := 3818) (by decide +kernel)) rfl
theorem q3821 : Cond.code y_Mo_halt b_Mo_halt 4 (some .int) ∈ lw_ok := lw_okmem (List.mem_of_getElem? (i := 3821) (by decide +kernel)) rfl
theorem q3819 : Cond.instanceMethod y_Mo_halt ∈ lw_ok := lw_okmem (List.mem_of_getElem? (i := 3819) (by decide +kernel)) rfl
theorem q3820 : Cond.selects y_Mo_halt.cls y_Mo_halt y_Mo_halt ∈ lw_ok := lw_okmem (List.mem_of_getElem? (i := 3820) (by decide +kernel)) rfl
theorem w9_Mo_halt : CWv y_Mo_halt b_Mo_halt 4 (some .int) 1 ∧ Cond.instanceMethod y_Mo_halt ∈ lw_ok ∧ Cond.selects y_Mo_halt.cls y_Mo_halt y_Mo_halt ∈ lw_ok := ⟨⟨q3821, q348, by decide +kernel, by decide +kernel, by decide +kernel⟩, q3819, q3820⟩
theorem q1775 : Cond.methodLink "ClassWorksLaw" 79 y_Cw_step ∈ lw_ok := lw_okmem (List.mem_of_getElem? (i := 1775) (by decide +kernel)) rfl
theorem q1778 : Cond.code y_Cw_step b_Cw_step 5 (some .int) ∈ lw_ok := lw_okmem (List.mem_of_getElem? (i := 1778) (by decide +kernel)) rfl
theorem q1776 : Cond.instanceMethod y_Cw_step ∈ lw_ok := lw_okmem (List.mem_of_getElem? (i := 1776) (by decide +kernel)) rfl
theorem q1777 : Cond.selects y_Cw_step.cls y_Cw_step y_Cw_step ∈ lw_ok := lw_okmem (List.mem_of_getElem? (i := 1777) (by decide +kernel)) rfl
theorem w9_Cw_step : CWv y_Cw_step b_Cw_step 5 (some .int) 2 ∧ Cond.instanceMethod y_Cw_step ∈ lw_ok ∧ Cond.selects y_Cw_step.cls y_Cw_step y_Cw_step ∈ lw_ok := ⟨⟨q1778, q329, by decide +kernel, by decide +kernel, by decide +kernel⟩, q1776, q1777⟩
theorem q3822 : Cond.methodLink "ClassWorksLaw" 82 y_Mo_step ∈ lw_ok := lw_okmem (List.mem_of_getElem? (i := 3822) (by decide +kernel)) rfl
theorem q3825 : Cond.code y_Mo_step b_Mo_step 4 (some .int) ∈ lw_ok := lw_okmem (List.mem_of_getElem? (i := 3825) (by decide +kernel)) rfl
theorem q3823 : Cond.instanceMethod y_Mo_step ∈ lw_ok := lw_okmem (List.mem_of_getElem? (i := 3823) (by decide +kernel)) rfl
theorem q3824 : Cond.selects y_Mo_step.cls y_Mo_step y_Mo_step ∈ lw_ok := lw_okmem (List.mem_of_getElem? (i := 3824) (by decide +kernel)) rfl
theorem w9_Mo_step : CWv y_Mo_step b_Mo_step 4 (some .int) 2 ∧ Cond.instanceMethod y_Mo_step ∈ lw_ok ∧ Cond.selects y_Mo_step.cls y_Mo_step y_Mo_step ∈ lw_ok := ⟨⟨q3825, q348, by decide +kernel, by decide +kernel, by decide +kernel⟩, q3823, q3824⟩
theorem q2089 : Cond.methodLink "ClassWorksLaw" 83 y_Cw_run ∈ lw_ok := lw_okmem (List.mem_of_getElem? (i := 2089) (by decide +kernel)) rfl
theorem q2092 : Cond.code y_Cw_run b_Cw_run 5 (some .int) ∈ lw_ok := lw_okmem (List.mem_of_getElem? (i := 2092) (by decide +kernel)) rfl
theorem q2090 : Cond.instanceMethod y_Cw_run ∈ lw_ok := lw_okmem (List.mem_of_getElem? (i := 2090) (by decide +kernel)) rfl
theorem q2091 : Cond.selects y_Cw_run.cls y_Cw_run y_Cw_run ∈ lw_ok := lw_okmem (List.mem_of_getElem? (i := 2091) (by decide +kernel)) rfl
theorem w9_Cw_run : CWv y_Cw_run b_Cw_run 5 (some .int) 3 ∧ Cond.instanceMethod y_Cw_run ∈ lw_ok ∧ Cond.selects y_Cw_run.cls y_Cw_run y_Cw_run ∈ lw_ok := ⟨⟨q2092, q329, by decide +kernel, by decide +kernel, by decide +kernel⟩, q2090, q2091⟩
theorem q4015 : Cond.methodLink "ClassWorksLaw" 86 y_Mo_run ∈ lw_ok := lw_okmem (List.mem_of_getElem? (i := 4015) (by decide +kernel)) rfl
theorem q4018 : Cond.code y_Mo_run b_Mo_run 8 (some .int) ∈ lw_ok := lw_okmem (List.mem_of_getElem? (i := 4018) (by decide +kernel)) rfl
theorem q4016 : Cond.instanceMethod y_Mo_run ∈ lw_ok := lw_okmem (List.mem_of_getElem? (i := 4016) (by decide +kernel)) rfl
theorem q4017 : Cond.selects y_Mo_run.cls y_Mo_run y_Mo_run ∈ lw_ok := lw_okmem (List.mem_of_getElem? (i := 4017) (by decide +kernel)) rfl
theorem w9_Mo_run : CWv y_Mo_run b_Mo_run 8 (some .int) 3 ∧ Cond.instanceMethod y_Mo_run ∈ lw_ok ∧ Cond.selects y_Mo_run.cls y_Mo_run y_Mo_run ∈ lw_ok := ⟨⟨q4018, q348, by decide +kernel, by decide +kernel, by decide +kernel⟩, q4016, q4017⟩
theorem q2105 : Cond.methodLink "ClassWorksLaw" 87 y_Cw_started ∈ lw_ok := lw_okmem (List.mem_of_getElem? (i := 2105) (by decide +kernel)) rfl
theorem q2108 : Cond.code y_Cw_started b_Cw_started 4 (some .int) ∈ lw_ok := lw_okmem (List.mem_of_getElem? (i := 2108) (by decide +kernel)) rfl
theorem q2106 : Cond.instanceMethod y_Cw_started ∈ lw_ok := lw_okmem (List.mem_of_getElem? (i := 2106) (by decide +kernel)) rfl
theorem q2107 : Cond.selects y_Cw_started.cls y_Cw_started y_Cw_started ∈ lw_ok := lw_okmem (List.mem_of_getElem? (i := 2107) (by decide +kernel)) rfl
theorem w9_Cw_started : CWv y_Cw_started b_Cw_started 4 (some .int) 2 ∧ Cond.instanceMethod y_Cw_started ∈ lw_ok ∧ Cond.selects y_Cw_started.cls y_Cw_started y_Cw_started ∈ lw_ok := ⟨⟨q2108, q329, by decide +kernel, by decide +kernel, by decide +kernel⟩, q2106, q2107⟩
theorem q4019 : Cond.methodLink "ClassWorksLaw" 90 y_Mo_started ∈ lw_ok := lw_okmem (List.mem_of_getElem? (i := 4019) (by decide +kernel)) rfl
theorem q4022 : Cond.code y_Mo_started b_Mo_started 3 (some .int) ∈ lw_ok := lw_okmem (List.mem_of_getElem? (i := 4022) (by decide +kernel)) rfl
theorem q4020 : Cond.instanceMethod y_Mo_started ∈ lw_ok := lw_okmem (List.mem_of_getElem? (i := 4020) (by decide +kernel)) rfl
theorem q4021 : Cond.selects y_Mo_started.cls y_Mo_started y_Mo_started ∈ lw_ok := lw_okmem (List.mem_of_getElem? (i := 4021) (by decide +kernel)) rfl
theorem w9_Mo_started : CWv y_Mo_started b_Mo_started 3 (some .int) 2 ∧ Cond.instanceMethod y_Mo_started ∈ lw_ok ∧ Cond.selects y_Mo_started.cls y_Mo_started y_Mo_started ∈ lw_ok := ⟨⟨q4022, q348, by decide +kernel, by decide +kernel, by decide +kernel⟩, q4020, q4021⟩
theorem q2109 : Cond.methodLink "ClassWorksLaw" 91 y_Cw_value ∈ lw_ok := lw_okmem (List.mem_of_getElem? (i := 2109) (by decide +kernel)) rfl
theorem q2112 : Cond.code y_Cw_value b_Cw_value 9 (some .int) ∈ lw_ok := lw_okmem (List.mem_of_getElem? (i := 2112) (by decide +kernel)) rfl
theorem q2110 : Cond.instanceMethod y_Cw_value ∈ lw_ok := lw_okmem (List.mem_of_getElem? (i := 2110) (by decide +kernel)) rfl
theorem q2111 : Cond.selects y_Cw_value.cls y_Cw_value y_Cw_value ∈ lw_ok := lw_okmem (List.mem_of_getElem? (i := 2111) (by decide +kernel)) rfl
theorem w9_Cw_value : CWv y_Cw_value b_Cw_value 9 (some .int) 4 ∧ Cond.instanceMethod y_Cw_value ∈ lw_ok ∧ Cond.selects y_Cw_value.cls y_Cw_value y_Cw_value ∈ lw_ok := ⟨⟨q2112, q329, by decide +kernel, by decide +kernel, by decide +kernel⟩, q2110, q2111⟩
theorem q4023 : Cond.methodLink "ClassWorksLaw" 95 y_Mo_value ∈ lw_ok := lw_okmem (List.mem_of_getElem? (i := 4023) (by decide +kernel)) rfl
theorem q4026 : Cond.code y_Mo_value b_Mo_value 9 (some .int) ∈ lw_ok := lw_okmem (List.mem_of_getElem? (i := 4026) (by decide +kernel)) rfl
theorem q4024 : Cond.instanceMethod y_Mo_value ∈ lw_ok := lw_okmem (List.mem_of_getElem? (i := 4024) (by decide +kernel)) rfl
theorem q4025 : Cond.selects y_Mo_value.cls y_Mo_value y_Mo_value ∈ lw_ok := lw_okmem (List.mem_of_getElem? (i := 4025) (by decide +kernel)) rfl
theorem w9_Mo_value : CWv y_Mo_value b_Mo_value 9 (some .int) 4 ∧ Cond.instanceMethod y_Mo_value ∈ lw_ok ∧ Cond.selects y_Mo_value.cls y_Mo_value y_Mo_value ∈ lw_ok := ⟨⟨q4026, q348, by decide +kernel, by decide +kernel, by decide +kernel⟩, q4024, q4025⟩
theorem q2124 : Cond.methodLink "ClassWorksLaw" 96 y_Cw_fixed ∈ lw_ok := lw_okmem (List.mem_of_getElem? (i := 2124) (by decide +kernel)) rfl
theorem q2127 : Cond.code y_Cw_fixed b_Cw_fixed 6 (some .int) ∈ lw_ok := lw_okmem (List.mem_of_getElem? (i := 2127) (by decide +kernel)) rfl
theorem q2125 : Cond.instanceMethod y_Cw_fixed ∈ lw_ok := lw_okmem (List.mem_of_getElem? (i := 2125) (by decide +kernel)) rfl
theorem q2126 : Cond.selects y_Cw_fixed.cls y_Cw_fixed y_Cw_fixed ∈ lw_ok := lw_okmem (List.mem_of_getElem? (i := 2126) (by decide +kernel)) rfl
theorem w9_Cw_fixed : CWv y_Cw_fixed b_Cw_fixed 6 (some .int) 3 ∧ Cond.instanceMethod y_Cw_fixed ∈ lw_ok ∧ Cond.selects y_Cw_fixed.cls y_Cw_fixed y_Cw_fixed ∈ lw_ok := ⟨⟨q2127, q329, by decide +kernel, by decide +kernel, by decide +kernel⟩, q2125, q2126⟩
theorem q4030 : Cond.methodLink "ClassWorksLaw" 99 y_Mo_fixed ∈ lw_ok := lw_okmem (List.mem_of_getElem? (i := 4030) (by decide +kernel)) rfl
theorem q4033 : Cond.code y_Mo_fixed b_Mo_fixed 6 (some .int) ∈ lw_ok := lw_okmem (List.mem_of_getElem? (i := 4033) (by decide +kernel)) rfl
theorem q4031 : Cond.instanceMethod y_Mo_fixed ∈ lw_ok := lw_okmem (List.mem_of_getElem? (i := 4031) (by decide +kernel)) rfl
theorem q4032 : Cond.selects y_Mo_fixed.cls y_Mo_fixed y_Mo_fixed ∈ lw_ok := lw_okmem (List.mem_of_getElem? (i := 4032) (by decide +kernel)) rfl
theorem w9_Mo_fixed : CWv y_Mo_fixed b_Mo_fixed 6 (some .int) 3 ∧ Cond.instanceMethod y_Mo_fixed ∈ lw_ok ∧ Cond.selects y_Mo_fixed.cls y_Mo_fixed y_Mo_fixed ∈ lw_ok := ⟨⟨q4033, q348, by decide +kernel, by decide +kernel, by decide +kernel⟩, q4031, q4032⟩
theorem q2128 : Cond.methodLink "ClassWorksLaw" 100 y_Cw_object ∈ lw_ok := lw_okmem (List.mem_of_getElem? (i := 2128) (by decide +kernel)) rfl
theorem q2131 : Cond.code y_Cw_object b_Cw_object 7 (some .int) ∈ lw_ok := lw_okmem (List.mem_of_getElem? (i := 2131) (by decide +kernel)) rfl
theorem q2129 : Cond.instanceMethod y_Cw_object ∈ lw_ok := lw_okmem (List.mem_of_getElem? (i := 2129) (by decide +kernel)) rfl
theorem q2130 : Cond.selects y_Cw_object.cls y_Cw_object y_Cw_object ∈ lw_ok := lw_okmem (List.mem_of_getElem? (i := 2130) (by decide +kernel)) rfl
theorem w9_Cw_object : CWv y_Cw_object b_Cw_object 7 (some .int) 3 ∧ Cond.instanceMethod y_Cw_object ∈ lw_ok ∧ Cond.selects y_Cw_object.cls y_Cw_object y_Cw_object ∈ lw_ok := ⟨⟨q2131, q329, by decide +kernel, by decide +kernel, by decide +kernel⟩, q2129, q2130⟩
theorem q4034 : Cond.methodLink "ClassWorksLaw" 103 y_Mo_object ∈ lw_ok := lw_okmem (List.mem_of_getElem? (i := 4034) (by decide +kernel)) rfl
theorem q4037 : Cond.code y_Mo_object b_Mo_object 5 (some .int) ∈ lw_ok := lw_okmem (List.mem_of_getElem? (i := 4037) (by decide +kernel)) rfl
theorem q4035 : Cond.instanceMethod y_Mo_object ∈ lw_ok := lw_okmem (List.mem_of_getElem? (i := 4035) (by decide +kernel)) rfl
theorem q4036 : Cond.selects y_Mo_object.cls y_Mo_object y_Mo_object ∈ lw_ok := lw_okmem (List.mem_of_getElem? (i := 4036) (by decide +kernel)) rfl
theorem w9_Mo_object : CWv y_Mo_object b_Mo_object 5 (some .int) 3 ∧ Cond.instanceMethod y_Mo_object ∈ lw_ok ∧ Cond.selects y_Mo_object.cls y_Mo_object y_Mo_object ∈ lw_ok := ⟨⟨q4037, q348, by decide +kernel, by decide +kernel, by decide +kernel⟩, q4035, q4036⟩
theorem q2142 : Cond.methodLink "ClassWorksLaw" 104 y_Cw_print ∈ lw_ok := lw_okmem (List.mem_of_getElem? (i := 2142) (by decide +kernel)) rfl
theorem q2145 : Cond.code y_Cw_print b_Cw_print 4 (some .int) ∈ lw_ok := lw_okmem (List.mem_of_getElem? (i := 2145) (by decide +kernel)) rfl
theorem q2143 : Cond.instanceMethod y_Cw_print ∈ lw_ok := lw_okmem (List.mem_of_getElem? (i := 2143) (by decide +kernel)) rfl
theorem q2144 : Cond.selects y_Cw_print.cls y_Cw_print y_Cw_print ∈ lw_ok := lw_okmem (List.mem_of_getElem? (i := 2144) (by decide +kernel)) rfl
theorem w9_Cw_print : CWv y_Cw_print b_Cw_print 4 (some .int) 2 ∧ Cond.instanceMethod y_Cw_print ∈ lw_ok ∧ Cond.selects y_Cw_print.cls y_Cw_print y_Cw_print ∈ lw_ok := ⟨⟨q2145, q329, by decide +kernel, by decide +kernel, by decide +kernel⟩, q2143, q2144⟩
theorem q4042 : Cond.methodLink "ClassWorksLaw" 107 y_Mo_print ∈ lw_ok := lw_okmem (List.mem_of_getElem? (i := 4042) (by decide +kernel)) rfl
theorem q4045 : Cond.code y_Mo_print b_Mo_print 4 (some .int) ∈ lw_ok := lw_okmem (List.mem_of_getElem? (i := 4045) (by decide +kernel)) rfl
theorem q4043 : Cond.instanceMethod y_Mo_print ∈ lw_ok := lw_okmem (List.mem_of_getElem? (i := 4043) (by decide +kernel)) rfl
theorem q4044 : Cond.selects y_Mo_print.cls y_Mo_print y_Mo_print ∈ lw_ok := lw_okmem (List.mem_of_getElem? (i := 4044) (by decide +kernel)) rfl
theorem w9_Mo_print : CWv y_Mo_print b_Mo_print 4 (some .int) 2 ∧ Cond.instanceMethod y_Mo_print ∈ lw_ok ∧ Cond.selects y_Mo_print.cls y_Mo_print y_Mo_print ∈ lw_ok := ⟨⟨q4045, q348, by decide +kernel, by decide +kernel, by decide +kernel⟩, q4043, q4044⟩
theorem q2259 : Cond.methodLink "ClassWorksLaw" 108 y_Cw_written ∈ lw_ok := lw_okmem (List.mem_of_getElem? (i := 2259) (by decide +kernel)) rfl
theorem q2262 : Cond.code y_Cw_written b_Cw_written 2 (some .int) ∈ lw_ok := lw_okmem (List.mem_of_getElem? (i := 2262) (by decide +kernel)) rfl
theorem q2260 : Cond.instanceMethod y_Cw_written ∈ lw_ok := lw_okmem (List.mem_of_getElem? (i := 2260) (by decide +kernel)) rfl
theorem q2261 : Cond.selects y_Cw_written.cls y_Cw_written y_Cw_written ∈ lw_ok := lw_okmem (List.mem_of_getElem? (i := 2261) (by decide +kernel)) rfl
theorem w9_Cw_written : CWv y_Cw_written b_Cw_written 2 (some .int) 1 ∧ Cond.instanceMethod y_Cw_written ∈ lw_ok ∧ Cond.selects y_Cw_written.cls y_Cw_written y_Cw_written ∈ lw_ok := ⟨⟨q2262, q329, by decide +kernel, by decide +kernel, by decide +kernel⟩, q2260, q2261⟩
theorem q4113 : Cond.methodLink "ClassWorksLaw" 111 y_Mo_written ∈ lw_ok := lw_okmem (List.mem_of_getElem? (i := 4113) (by decide +kernel)) rfl
theorem q4116 : Cond.code y_Mo_written b_Mo_written 2 (some .int) ∈ lw_ok := lw_okmem (List.mem_of_getElem? (i := 4116) (by decide +kernel)) rfl
theorem q4114 : Cond.instanceMethod y_Mo_written ∈ lw_ok := lw_okmem (List.mem_of_getElem? (i := 4114) (by decide +kernel)) rfl
theorem q4115 : Cond.selects y_Mo_written.cls y_Mo_written y_Mo_written ∈ lw_ok := lw_okmem (List.mem_of_getElem? (i := 4115) (by decide +kernel)) rfl
theorem w9_Mo_written : CWv y_Mo_written b_Mo_written 2 (some .int) 1 ∧ Cond.instanceMethod y_Mo_written ∈ lw_ok ∧ Cond.selects y_Mo_written.cls y_Mo_written y_Mo_written ∈ lw_ok := ⟨⟨q4116, q348, by decide +kernel, by decide +kernel, by decide +kernel⟩, q4114, q4115⟩
theorem q2263 : Cond.methodLink "ClassWorksLaw" 112 y_Cw_kinds ∈ lw_ok := lw_okmem (List.mem_of_getElem? (i := 2263) (by decide +kernel)) rfl
theorem q2266 : Cond.code y_Cw_kinds b_Cw_kinds 7 (some .int) ∈ lw_ok := lw_okmem (List.mem_of_getElem? (i := 2266) (by decide +kernel)) rfl
theorem q2264 : Cond.instanceMethod y_Cw_kinds ∈ lw_ok := lw_okmem (List.mem_of_getElem? (i := 2264) (by decide +kernel)) rfl
theorem q2265 : Cond.selects y_Cw_kinds.cls y_Cw_kinds y_Cw_kinds ∈ lw_ok := lw_okmem (List.mem_of_getElem? (i := 2265) (by decide +kernel)) rfl
theorem w9_Cw_kinds : CWv y_Cw_kinds b_Cw_kinds 7 (some .int) 4 ∧ Cond.instanceMethod y_Cw_kinds ∈ lw_ok ∧ Cond.selects y_Cw_kinds.cls y_Cw_kinds y_Cw_kinds ∈ lw_ok := ⟨⟨q2266, q329, by decide +kernel, by decide +kernel, by decide +kernel⟩, q2264, q2265⟩
theorem q4117 : Cond.methodLink "ClassWorksLaw" 116 y_Mo_kinds ∈ lw_ok := lw_okmem (List.mem_of_getElem? (i := 4117) (by decide +kernel)) rfl
theorem q4120 : Cond.code y_Mo_kinds b_Mo_kinds 9 (some .int) ∈ lw_ok := lw_okmem (List.mem_of_getElem? (i := 4120) (by decide +kernel)) rfl
theorem q4118 : Cond.instanceMethod y_Mo_kinds ∈ lw_ok := lw_okmem (List.mem_of_getElem? (i := 4118) (by decide +kernel)) rfl
theorem q4119 : Cond.selects y_Mo_kinds.cls y_Mo_kinds y_Mo_kinds ∈ lw_ok := lw_okmem (List.mem_of_getElem? (i := 4119) (by decide +kernel)) rfl
theorem w9_Mo_kinds : CWv y_Mo_kinds b_Mo_kinds 9 (some .int) 4 ∧ Cond.instanceMethod y_Mo_kinds ∈ lw_ok ∧ Cond.selects y_Mo_kinds.cls y_Mo_kinds y_Mo_kinds ∈ lw_ok := ⟨⟨q4120, q348, by decide +kernel, by decide +kernel, by decide +kernel⟩, q4118, q4119⟩
theorem q2302 : Cond.methodLink "ClassWorksLaw" 117 y_Cw_kind ∈ lw_ok := lw_okmem (List.mem_of_getElem? (i := 2302) (by decide +kernel)) rfl
theorem q2305 : Cond.code y_Cw_kind b_Cw_kind 3 (some .int) ∈ lw_ok := lw_okmem (List.mem_of_getElem? (i := 2305) (by decide +kernel)) rfl
theorem q2303 : Cond.instanceMethod y_Cw_kind ∈ lw_ok := lw_okmem (List.mem_of_getElem? (i := 2303) (by decide +kernel)) rfl
theorem q2304 : Cond.selects y_Cw_kind.cls y_Cw_kind y_Cw_kind ∈ lw_ok := lw_okmem (List.mem_of_getElem? (i := 2304) (by decide +kernel)) rfl
theorem w9_Cw_kind : CWv y_Cw_kind b_Cw_kind 3 (some .int) 2 ∧ Cond.instanceMethod y_Cw_kind ∈ lw_ok ∧ Cond.selects y_Cw_kind.cls y_Cw_kind y_Cw_kind ∈ lw_ok := ⟨⟨q2305, q329, by decide +kernel, by decide +kernel, by decide +kernel⟩, q2303, q2304⟩
theorem q4149 : Cond.methodLink "ClassWorksLaw" 120 y_Mo_kind ∈ lw_ok := lw_okmem (List.mem_of_getElem? (i := 4149) (by decide +kernel)) rfl
theorem q4152 : Cond.code y_Mo_kind b_Mo_kind 3 (some .int) ∈ lw_ok := lw_okmem (List.mem_of_getElem? (i := 4152) (by decide +kernel)) rfl
theorem q4150 : Cond.instanceMethod y_Mo_kind ∈ lw_ok := lw_okmem (List.mem_of_getElem? (i := 4150) (by decide +kernel)) rfl
theorem q4151 : Cond.selects y_Mo_kind.cls y_Mo_kind y_Mo_kind ∈ lw_ok := lw_okmem (List.mem_of_getElem? (i := 4151) (by decide +kernel)) rfl
theorem w9_Mo_kind : CWv y_Mo_kind b_Mo_kind 3 (some .int) 2 ∧ Cond.instanceMethod y_Mo_kind ∈ lw_ok ∧ Cond.selects y_Mo_kind.cls y_Mo_kind y_Mo_kind ∈ lw_ok := ⟨⟨q4152, q348, by decide +kernel, by decide +kernel, by decide +kernel⟩, q4150, q4151⟩
theorem q2310 : Cond.methodLink "ClassWorksLaw" 121 y_Cw_foretell ∈ lw_ok := lw_okmem (List.mem_of_getElem? (i := 2310) (by decide +kernel)) rfl
theorem q2313 : Cond.code y_Cw_foretell b_Cw_foretell 10 (some .int) ∈ lw_ok := lw_okmem (List.mem_of_getElem? (i := 2313) (by decide +kernel)) rfl
theorem q2311 : Cond.instanceMethod y_Cw_foretell ∈ lw_ok := lw_okmem (List.mem_of_getElem? (i := 2311) (by decide +kernel)) rfl
theorem q2312 : Cond.selects y_Cw_foretell.cls y_Cw_foretell y_Cw_foretell ∈ lw_ok := lw_okmem (List.mem_of_getElem? (i := 2312) (by decide +kernel)) rfl
theorem w9_Cw_foretell : CWv y_Cw_foretell b_Cw_foretell 10 (some .int) 4 ∧ Cond.instanceMethod y_Cw_foretell ∈ lw_ok ∧ Cond.selects y_Cw_foretell.cls y_Cw_foretell y_Cw_foretell ∈ lw_ok := ⟨⟨q2313, q329, by decide +kernel, by decide +kernel, by decide +kernel⟩, q2311, q2312⟩
theorem q4153 : Cond.methodLink "ClassWorksLaw" 124 y_Mo_foretell ∈ lw_ok := lw_okmem (List.mem_of_getElem? (i := 4153) (by decide +kernel)) rfl
theorem q4156 : Cond.code y_Mo_foretell b_Mo_foretell 10 (some .int) ∈ lw_ok := lw_okmem (List.mem_of_getElem? (i := 4156) (by decide +kernel)) rfl
theorem q4154 : Cond.instanceMethod y_Mo_foretell ∈ lw_ok := lw_okmem (List.mem_of_getElem? (i := 4154) (by decide +kernel)) rfl
theorem q4155 : Cond.selects y_Mo_foretell.cls y_Mo_foretell y_Mo_foretell ∈ lw_ok := lw_okmem (List.mem_of_getElem? (i := 4155) (by decide +kernel)) rfl
theorem w9_Mo_foretell : CWv y_Mo_foretell b_Mo_foretell 10 (some .int) 4 ∧ Cond.instanceMethod y_Mo_foretell ∈ lw_ok ∧ Cond.selects y_Mo_foretell.cls y_Mo_foretell y_Mo_foretell ∈ lw_ok := ⟨⟨q4156, q348, by decide +kernel, by decide +kernel, by decide +kernel⟩, q4154, q4155⟩
theorem q2327 : Cond.methodLink "ClassWorksLaw" 125 y_Cw_asked ∈ lw_ok := lw_okmem (List.mem_of_getElem? (i := 2327) (by decide +kernel)) rfl
theorem q2330 : Cond.code y_Cw_asked b_Cw_asked 6 (some .int) ∈ lw_ok := lw_okmem (List.mem_of_getElem? (i := 2330) (by decide +kernel)) rfl
theorem q2328 : Cond.instanceMethod y_Cw_asked ∈ lw_ok := lw_okmem (List.mem_of_getElem? (i := 2328) (by decide +kernel)) rfl
theorem q2329 : Cond.selects y_Cw_asked.cls y_Cw_asked y_Cw_asked ∈ lw_ok := lw_okmem (List.mem_of_getElem? (i := 2329) (by decide +kernel)) rfl
theorem w9_Cw_asked : CWv y_Cw_asked b_Cw_asked 6 (some .int) 2 ∧ Cond.instanceMethod y_Cw_asked ∈ lw_ok ∧ Cond.selects y_Cw_asked.cls y_Cw_asked y_Cw_asked ∈ lw_ok := ⟨⟨q2330, q329, by decide +kernel, by decide +kernel, by decide +kernel⟩, q2328, q2329⟩
theorem q4161 : Cond.methodLink "ClassWorksLaw" 128 y_Mo_asked ∈ lw_ok := lw_okmem (List.mem_of_getElem? (i := 4161) (by decide +kernel)) rfl
theorem q4164 : Cond.code y_Mo_asked b_Mo_asked 4 (some .int) ∈ lw_ok := lw_okmem (List.mem_of_getElem? (i := 4164) (by decide +kernel)) rfl
theorem q4162 : Cond.instanceMethod y_Mo_asked ∈ lw_ok := lw_okmem (List.mem_of_getElem? (i := 4162) (by decide +kernel)) rfl
theorem q4163 : Cond.selects y_Mo_asked.cls y_Mo_asked y_Mo_asked ∈ lw_ok := lw_okmem (List.mem_of_getElem? (i := 4163) (by decide +kernel)) rfl
theorem w9_Mo_asked : CWv y_Mo_asked b_Mo_asked 4 (some .int) 2 ∧ Cond.instanceMethod y_Mo_asked ∈ lw_ok ∧ Cond.selects y_Mo_asked.cls y_Mo_asked y_Mo_asked ∈ lw_ok := ⟨⟨q4164, q348, by decide +kernel, by decide +kernel, by decide +kernel⟩, q4162, q4163⟩
theorem q2341 : Cond.methodLink "ClassWorksLaw" 129 y_Cw_trace ∈ lw_ok := lw_okmem (List.mem_of_getElem? (i := 2341) (by decide +kernel)) rfl
theorem q2344 : Cond.code y_Cw_trace b_Cw_trace 5 (some .int) ∈ lw_ok := lw_okmem (List.mem_of_getElem? (i := 2344) (by decide +kernel)) rfl
theorem q2342 : Cond.instanceMethod y_Cw_trace ∈ lw_ok := lw_okmem (List.mem_of_getElem? (i := 2342) (by decide +kernel)) rfl
theorem q2343 : Cond.selects y_Cw_trace.cls y_Cw_trace y_Cw_trace ∈ lw_ok := lw_okmem (List.mem_of_getElem? (i := 2343) (by decide +kernel)) rfl
theorem w9_Cw_trace : CWv y_Cw_trace b_Cw_trace 5 (some .int) 3 ∧ Cond.instanceMethod y_Cw_trace ∈ lw_ok ∧ Cond.selects y_Cw_trace.cls y_Cw_trace y_Cw_trace ∈ lw_ok := ⟨⟨q2344, q329, by decide +kernel, by decide +kernel, by decide +kernel⟩, q2342, q2343⟩
theorem q4204 : Cond.methodLink "ClassWorksLaw" 132 y_Mo_trace ∈ lw_ok := lw_okmem (List.mem_of_getElem? (i := 4204) (by decide +kernel)) rfl
theorem q4207 : Cond.code y_Mo_trace b_Mo_trace 6 (some .int) ∈ lw_ok := lw_okmem (List.mem_of_getElem? (i := 4207) (by decide +kernel)) rfl
theorem q4205 : Cond.instanceMethod y_Mo_trace ∈ lw_ok := lw_okmem (List.mem_of_getElem? (i := 4205) (by decide +kernel)) rfl
theorem q4206 : Cond.selects y_Mo_trace.cls y_Mo_trace y_Mo_trace ∈ lw_ok := lw_okmem (List.mem_of_getElem? (i := 4206) (by decide +kernel)) rfl
theorem w9_Mo_trace : CWv y_Mo_trace b_Mo_trace 6 (some .int) 3 ∧ Cond.instanceMethod y_Mo_trace ∈ lw_ok ∧ Cond.selects y_Mo_trace.cls y_Mo_trace y_Mo_trace ∈ lw_ok := ⟨⟨q4207, q348, by decide +kernel, by decide +kernel, by decide +kernel⟩, q4205, q4206⟩
theorem q2345 : Cond.methodLink "ClassWorksLaw" 133 y_Cw_done ∈ lw_ok := lw_okmem (List.mem_of_getElem? (i := 2345) (by decide +kernel)) rfl
theorem q2348 : Cond.code y_Cw_done b_Cw_done 4 (some .int) ∈ lw_ok := lw_okmem (List.mem_of_getElem? (i := 2348) (by decide +kernel)) rfl
theorem q2346 : Cond.instanceMethod y_Cw_done ∈ lw_ok := lw_okmem (List.mem_of_getElem? (i := 2346) (by decide +kernel)) rfl
theorem q2347 : Cond.selects y_Cw_done.cls y_Cw_done y_Cw_done ∈ lw_ok := lw_okmem (List.mem_of_getElem? (i := 2347) (by decide +kernel)) rfl
theorem w9_Cw_done : CWv y_Cw_done b_Cw_done 4 (some .int) 2 ∧ Cond.instanceMethod y_Cw_done ∈ lw_ok ∧ Cond.selects y_Cw_done.cls y_Cw_done y_Cw_done ∈ lw_ok := ⟨⟨q2348, q329, by decide +kernel, by decide +kernel, by decide +kernel⟩, q2346, q2347⟩
theorem q4208 : Cond.methodLink "ClassWorksLaw" 136 y_Mo_done ∈ lw_ok := lw_okmem (List.mem_of_getElem? (i := 4208) (by decide +kernel)) rfl
theorem q4211 : Cond.code y_Mo_done b_Mo_done 3 (some .int) ∈ lw_ok := lw_okmem (List.mem_of_getElem? (i := 4211) (by decide +kernel)) rfl
theorem q4209 : Cond.instanceMethod y_Mo_done ∈ lw_ok := lw_okmem (List.mem_of_getElem? (i := 4209) (by decide +kernel)) rfl
theorem q4210 : Cond.selects y_Mo_done.cls y_Mo_done y_Mo_done ∈ lw_ok := lw_okmem (List.mem_of_getElem? (i := 4210) (by decide +kernel)) rfl
theorem w9_Mo_done : CWv y_Mo_done b_Mo_done 3 (some .int) 2 ∧ Cond.instanceMethod y_Mo_done ∈ lw_ok ∧ Cond.selects y_Mo_done.cls y_Mo_done y_Mo_done ∈ lw_ok := ⟨⟨q4211, q348, by decide +kernel, by decide +kernel, by decide +kernel⟩, q4209, q4210⟩
theorem q2349 : Cond.methodLink "ClassWorksLaw" 137 y_Cw_collect ∈ lw_ok := lw_okmem (List.mem_of_getElem? (i := 2349) (by decide +kernel)) rfl
theorem q2352 : Cond.code y_Cw_collect b_Cw_collect 3 (some .int) ∈ lw_ok := lw_okmem (List.mem_of_getElem? (i := 2352) (by decide +kernel)) rfl
theorem q2350 : Cond.instanceMethod y_Cw_collect ∈ lw_ok := lw_okmem (List.mem_of_getElem? (i := 2350) (by decide +kernel)) rfl
theorem q2351 : Cond.selects y_Cw_collect.cls y_Cw_collect y_Cw_collect ∈ lw_ok := lw_okmem (List.mem_of_getElem? (i := 2351) (by decide +kernel)) rfl
theorem w9_Cw_collect : CWv y_Cw_collect b_Cw_collect 3 (some .int) 1 ∧ Cond.instanceMethod y_Cw_collect ∈ lw_ok ∧ Cond.selects y_Cw_collect.cls y_Cw_collect y_Cw_collect ∈ lw_ok := ⟨⟨q2352, q329, by decide +kernel, by decide +kernel, by decide +kernel⟩, q2350, q2351⟩
theorem q4185 : Cond.methodLink "ClassWorksLaw" 140 y_Mo_collect ∈ lw_ok := lw_okmem (List.mem_of_getElem? (i := 4185) (by decide +kernel)) rfl
set_option maxRecDepth 100000 in
theorem q4188 : Cond.code y_Mo_collect b_Mo_collect 7 (some .int) ∈ lw_ok := lw_okmem (List.mem_of_getElem? (i := 4188) (by rfl)) rfl
theorem q4186 : Cond.instanceMethod y_Mo_collect ∈ lw_ok := lw_okmem (List.mem_of_getElem? (i := 4186) (by decide +kernel)) rfl
theorem q4187 : Cond.selects y_Mo_collect.cls y_Mo_collect y_Mo_collect ∈ lw_ok := lw_okmem (List.mem_of_getElem? (i := 4187) (by decide +kernel)) rfl
theorem w9_Mo_collect : CWv y_Mo_collect b_Mo_collect 7 (some .int) 1 ∧ Cond.instanceMethod y_Mo_collect ∈ lw_ok ∧ Cond.selects y_Mo_collect.cls y_Mo_collect y_Mo_collect ∈ lw_ok := ⟨⟨q4188, q348, by decide +kernel, by decide +kernel, by decide +kernel⟩, q4186, q4187⟩
theorem q2387 : Cond.methodLink "ClassWorksLaw" 141 y_Cw_differ ∈ lw_ok := lw_okmem (List.mem_of_getElem? (i := 2387) (by decide +kernel)) rfl
theorem q2390 : Cond.code y_Cw_differ b_Cw_differ 8 (some .int) ∈ lw_ok := lw_okmem (List.mem_of_getElem? (i := 2390) (by decide +kernel)) rfl
theorem q2388 : Cond.instanceMethod y_Cw_differ ∈ lw_ok := lw_okmem (List.mem_of_getElem? (i := 2388) (by decide +kernel)) rfl
theorem q2389 : Cond.selects y_Cw_differ.cls y_Cw_differ y_Cw_differ ∈ lw_ok := lw_okmem (List.mem_of_getElem? (i := 2389) (by decide +kernel)) rfl
theorem w9_Cw_differ : CWv y_Cw_differ b_Cw_differ 8 (some .int) 5 ∧ Cond.instanceMethod y_Cw_differ ∈ lw_ok ∧ Cond.selects y_Cw_differ.cls y_Cw_differ y_Cw_differ ∈ lw_ok := ⟨⟨q2390, q329, by decide +kernel, by decide +kernel, by decide +kernel⟩, q2388, q2389⟩
theorem q4193 : Cond.methodLink "ClassWorksLaw" 144 y_Mo_differ ∈ lw_ok := lw_okmem (List.mem_of_getElem? (i := 4193) (by decide +kernel)) rfl
theorem q4196 : Cond.code y_Mo_differ b_Mo_differ 11 (some .int) ∈ lw_ok := lw_okmem (List.mem_of_getElem? (i := 4196) (by decide +kernel)) rfl
theorem q4194 : Cond.instanceMethod y_Mo_differ ∈ lw_ok := lw_okmem (List.mem_of_getElem? (i := 4194) (by decide +kernel)) rfl
theorem q4195 : Cond.selects y_Mo_differ.cls y_Mo_differ y_Mo_differ ∈ lw_ok := lw_okmem (List.mem_of_getElem? (i := 4195) (by decide +kernel)) rfl
theorem w9_Mo_differ : CWv y_Mo_differ b_Mo_differ 11 (some .int) 5 ∧ Cond.instanceMethod y_Mo_differ ∈ lw_ok ∧ Cond.selects y_Mo_differ.cls y_Mo_differ y_Mo_differ ∈ lw_ok := ⟨⟨q4196, q348, by decide +kernel, by decide +kernel, by decide +kernel⟩, q4194, q4195⟩
theorem q2421 : Cond.methodLink "ClassWorksLaw" 145 y_Cw_reach ∈ lw_ok := lw_okmem (List.mem_of_getElem? (i := 2421) (by decide +kernel)) rfl
theorem q2424 : Cond.code y_Cw_reach b_Cw_reach 5 (some .int) ∈ lw_ok := lw_okmem (List.mem_of_getElem? (i := 2424) (by decide +kernel)) rfl
theorem q2422 : Cond.instanceMethod y_Cw_reach ∈ lw_ok := lw_okmem (List.mem_of_getElem? (i := 2422) (by decide +kernel)) rfl
theorem q2423 : Cond.selects y_Cw_reach.cls y_Cw_reach y_Cw_reach ∈ lw_ok := lw_okmem (List.mem_of_getElem? (i := 2423) (by decide +kernel)) rfl
theorem w9_Cw_reach : CWv y_Cw_reach b_Cw_reach 5 (some .int) 3 ∧ Cond.instanceMethod y_Cw_reach ∈ lw_ok ∧ Cond.selects y_Cw_reach.cls y_Cw_reach y_Cw_reach ∈ lw_ok := ⟨⟨q2424, q329, by decide +kernel, by decide +kernel, by decide +kernel⟩, q2422, q2423⟩
theorem q4165 : Cond.methodLink "ClassWorksLaw" 148 y_Mo_reach ∈ lw_ok := lw_okmem (List.mem_of_getElem? (i := 4165) (by decide +kernel)) rfl
theorem q4168 : Cond.code y_Mo_reach b_Mo_reach 7 (some .int) ∈ lw_ok := lw_okmem (List.mem_of_getElem? (i := 4168) (by decide +kernel)) rfl
theorem q4166 : Cond.instanceMethod y_Mo_reach ∈ lw_ok := lw_okmem (List.mem_of_getElem? (i := 4166) (by decide +kernel)) rfl
theorem q4167 : Cond.selects y_Mo_reach.cls y_Mo_reach y_Mo_reach ∈ lw_ok := lw_okmem (List.mem_of_getElem? (i := 4167) (by decide +kernel)) rfl
theorem w9_Mo_reach : CWv y_Mo_reach b_Mo_reach 7 (some .int) 3 ∧ Cond.instanceMethod y_Mo_reach ∈ lw_ok ∧ Cond.selects y_Mo_reach.cls y_Mo_reach y_Mo_reach ∈ lw_ok := ⟨⟨q4168, q348, by decide +kernel, by decide +kernel, by decide +kernel⟩, q4166, q4167⟩
theorem q2446 : Cond.methodLink "ClassWorksLaw" 149 y_Cw_reached ∈ lw_ok := lw_okmem (List.mem_of_getElem? (i := 2446) (by decide +kernel)) rfl
theorem q2449 : Cond.code y_Cw_reached b_Cw_reached 2 (some .int) ∈ lw_ok := lw_okmem (List.mem_of_getElem? (i := 2449) (by decide +kernel)) rfl
theorem q2447 : Cond.instanceMethod y_Cw_reached ∈ lw_ok := lw_okmem (List.mem_of_getElem? (i := 2447) (by decide +kernel)) rfl
theorem q2448 : Cond.selects y_Cw_reached.cls y_Cw_reached y_Cw_reached ∈ lw_ok := lw_okmem (List.mem_of_getElem? (i := 2448) (by decide +kernel)) rfl
theorem w9_Cw_reached : CWv y_Cw_reached b_Cw_reached 2 (some .int) 1 ∧ Cond.instanceMethod y_Cw_reached ∈ lw_ok ∧ Cond.selects y_Cw_reached.cls y_Cw_reached y_Cw_reached ∈ lw_ok := ⟨⟨q2449, q329, by decide +kernel, by decide +kernel, by decide +kernel⟩, q2447, q2448⟩
theorem q4181 : Cond.methodLink "ClassWorksLaw" 152 y_Mo_reached ∈ lw_ok := lw_okmem (List.mem_of_getElem? (i := 4181) (by decide +kernel)) rfl
theorem q4184 : Cond.code y_Mo_reached b_Mo_reached 2 (some .int) ∈ lw_ok := lw_okmem (List.mem_of_getElem? (i := 4184) (by decide +kernel)) rfl
theorem q4182 : Cond.instanceMethod y_Mo_reached ∈ lw_ok := lw_okmem (List.mem_of_getElem? (i := 4182) (by decide +kernel)) rfl
theorem q4183 : Cond.selects y_Mo_reached.cls y_Mo_reached y_Mo_reached ∈ lw_ok := lw_okmem (List.mem_of_getElem? (i := 4183) (by decide +kernel)) rfl
theorem w9_Mo_reached : CWv y_Mo_reached b_Mo_reached 2 (some .int) 1 ∧ Cond.instanceMethod y_Mo_reached ∈ lw_ok ∧ Cond.selects y_Mo_reached.cls y_Mo_reached y_Mo_reached ∈ lw_ok := ⟨⟨q4184, q348, by decide +kernel, by decide +kernel, by decide +kernel⟩, q4182, q4183⟩
theorem q2450 : Cond.methodLink "ClassWorksLaw" 153 y_Cw_trial ∈ lw_ok := lw_okmem (List.mem_of_getElem? (i := 2450) (by decide +kernel)) rfl
theorem q2453 : Cond.code y_Cw_trial b_Cw_trial 5 (some .int) ∈ lw_ok := lw_okmem (List.mem_of_getElem? (i := 2453) (by decide +kernel)) rfl
theorem q2451 : Cond.instanceMethod y_Cw_trial ∈ lw_ok := lw_okmem (List.mem_of_getElem? (i := 2451) (by decide +kernel)) rfl
theorem q2452 : Cond.selects y_Cw_trial.cls y_Cw_trial y_Cw_trial ∈ lw_ok := lw_okmem (List.mem_of_getElem? (i := 2452) (by decide +kernel)) rfl
theorem w9_Cw_trial : CWv y_Cw_trial b_Cw_trial 5 (some .int) 0 ∧ Cond.instanceMethod y_Cw_trial ∈ lw_ok ∧ Cond.selects y_Cw_trial.cls y_Cw_trial y_Cw_trial ∈ lw_ok := ⟨⟨q2453, q329, by decide +kernel, by decide +kernel, by decide +kernel⟩, q2451, q2452⟩
theorem q4212 : Cond.methodLink "ClassWorksLaw" 156 y_Mo_trial ∈ lw_ok := lw_okmem (List.mem_of_getElem? (i := 4212) (by decide +kernel)) rfl
theorem q4215 : Cond.codeWith y_Mo_trial b_Mo_trial 7 (some .int) hh_Mo_trial ∈ lw_ok := lw_okmem (List.mem_of_getElem? (i := 4215) (by decide +kernel)) rfl
theorem q4213 : Cond.instanceMethod y_Mo_trial ∈ lw_ok := lw_okmem (List.mem_of_getElem? (i := 4213) (by decide +kernel)) rfl
theorem q4214 : Cond.selects y_Mo_trial.cls y_Mo_trial y_Mo_trial ∈ lw_ok := lw_okmem (List.mem_of_getElem? (i := 4214) (by decide +kernel)) rfl
theorem w9_Mo_trial : (Cond.codeWith y_Mo_trial b_Mo_trial 7 (some .int) hh_Mo_trial ∈ lw_ok ∧ Cond.initialized y_Mo_trial.cls ∈ lw_ok ∧ y_Mo_trial.cls ≠ "java/lang/invoke/MethodHandle" ∧ y_Mo_trial.cls ≠ "java/lang/invoke/VarHandle" ∧ (parseMethodDescriptor y_Mo_trial.desc).map (fun d => d.parameters.length) = some 0) ∧ Cond.instanceMethod y_Mo_trial ∈ lw_ok ∧ Cond.selects y_Mo_trial.cls y_Mo_trial y_Mo_trial ∈ lw_ok := ⟨⟨q4215, q348, by decide +kernel, by decide +kernel, by decide +kernel⟩, q4213, q4214⟩
theorem q2469 : Cond.methodLink "ClassWorksLaw" 157 y_Cw_outcome ∈ lw_ok := lw_okmem (List.mem_of_getElem? (i := 2469) (by decide +kernel)) rfl
theorem q2472 : Cond.code y_Cw_outcome b_Cw_outcome 4 (some .int) ∈ lw_ok := lw_okmem (List.mem_of_getElem? (i := 2472) (by decide +kernel)) rfl
theorem q2470 : Cond.instanceMethod y_Cw_outcome ∈ lw_ok := lw_okmem (List.mem_of_getElem? (i := 2470) (by decide +kernel)) rfl
theorem q2471 : Cond.selects y_Cw_outcome.cls y_Cw_outcome y_Cw_outcome ∈ lw_ok := lw_okmem (List.mem_of_getElem? (i := 2471) (by decide +kernel)) rfl
theorem w9_Cw_outcome : CWv y_Cw_outcome b_Cw_outcome 4 (some .int) 3 ∧ Cond.instanceMethod y_Cw_outcome ∈ lw_ok ∧ Cond.selects y_Cw_outcome.cls y_Cw_outcome y_Cw_outcome ∈ lw_ok := ⟨⟨q2472, q329, by decide +kernel, by decide +kernel, by decide +kernel⟩, q2470, q2471⟩
theorem q4220 : Cond.methodLink "ClassWorksLaw" 160 y_Mo_outcome ∈ lw_ok := lw_okmem (List.mem_of_getElem? (i := 4220) (by decide +kernel)) rfl
theorem q4223 : Cond.code y_Mo_outcome b_Mo_outcome 4 (some .int) ∈ lw_ok := lw_okmem (List.mem_of_getElem? (i := 4223) (by decide +kernel)) rfl
theorem q4221 : Cond.instanceMethod y_Mo_outcome ∈ lw_ok := lw_okmem (List.mem_of_getElem? (i := 4221) (by decide +kernel)) rfl
theorem q4222 : Cond.selects y_Mo_outcome.cls y_Mo_outcome y_Mo_outcome ∈ lw_ok := lw_okmem (List.mem_of_getElem? (i := 4222) (by decide +kernel)) rfl
theorem w9_Mo_outcome : CWv y_Mo_outcome b_Mo_outcome 4 (some .int) 3 ∧ Cond.instanceMethod y_Mo_outcome ∈ lw_ok ∧ Cond.selects y_Mo_outcome.cls y_Mo_outcome y_Mo_outcome ∈ lw_ok := ⟨⟨q4223, q348, by decide +kernel, by decide +kernel, by decide +kernel⟩, q4221, q4222⟩
theorem q2490 : Cond.methodLink "ClassWorksLaw" 161 y_Cw_meets ∈ lw_ok := lw_okmem (List.mem_of_getElem? (i := 2490) (by decide +kernel)) rfl
theorem q2493 : Cond.code y_Cw_meets b_Cw_meets 2 (some .int) ∈ lw_ok := lw_okmem (List.mem_of_getElem? (i := 2493) (by decide +kernel)) rfl
theorem q2491 : Cond.instanceMethod y_Cw_meets ∈ lw_ok := lw_okmem (List.mem_of_getElem? (i := 2491) (by decide +kernel)) rfl
theorem q2492 : Cond.selects y_Cw_meets.cls y_Cw_meets y_Cw_meets ∈ lw_ok := lw_okmem (List.mem_of_getElem? (i := 2492) (by decide +kernel)) rfl
theorem w9_Cw_meets : CWv y_Cw_meets b_Cw_meets 2 (some .int) 1 ∧ Cond.instanceMethod y_Cw_meets ∈ lw_ok ∧ Cond.selects y_Cw_meets.cls y_Cw_meets y_Cw_meets ∈ lw_ok := ⟨⟨q2493, q329, by decide +kernel, by decide +kernel, by decide +kernel⟩, q2491, q2492⟩
theorem q4236 : Cond.methodLink "ClassWorksLaw" 164 y_Mo_meets ∈ lw_ok := lw_okmem (List.mem_of_getElem? (i := 4236) (by decide +kernel)) rfl
theorem q4239 : Cond.code y_Mo_meets b_Mo_meets 2 (some .int) ∈ lw_ok := lw_okmem (List.mem_of_getElem? (i := 4239) (by decide +kernel)) rfl
theorem q4237 : Cond.instanceMethod y_Mo_meets ∈ lw_ok := lw_okmem (List.mem_of_getElem? (i := 4237) (by decide +kernel)) rfl
theorem q4238 : Cond.selects y_Mo_meets.cls y_Mo_meets y_Mo_meets ∈ lw_ok := lw_okmem (List.mem_of_getElem? (i := 4238) (by decide +kernel)) rfl
theorem w9_Mo_meets : CWv y_Mo_meets b_Mo_meets 2 (some .int) 1 ∧ Cond.instanceMethod y_Mo_meets ∈ lw_ok ∧ Cond.selects y_Mo_meets.cls y_Mo_meets y_Mo_meets ∈ lw_ok := ⟨⟨q4239, q348, by decide +kernel, by decide +kernel, by decide +kernel⟩, q4237, q4238⟩
theorem q2498 : Cond.methodLink "ClassWorksLaw" 165 y_Cw_finds ∈ lw_ok := lw_okmem (List.mem_of_getElem? (i := 2498) (by decide +kernel)) rfl
theorem q2501 : Cond.code y_Cw_finds b_Cw_finds 5 (some .int) ∈ lw_ok := lw_okmem (List.mem_of_getElem? (i := 2501) (by decide +kernel)) rfl
theorem q2499 : Cond.instanceMethod y_Cw_finds ∈ lw_ok := lw_okmem (List.mem_of_getElem? (i := 2499) (by decide +kernel)) rfl
theorem q2500 : Cond.selects y_Cw_finds.cls y_Cw_finds y_Cw_finds ∈ lw_ok := lw_okmem (List.mem_of_getElem? (i := 2500) (by decide +kernel)) rfl
theorem w9_Cw_finds : CWv y_Cw_finds b_Cw_finds 5 (some .int) 2 ∧ Cond.instanceMethod y_Cw_finds ∈ lw_ok ∧ Cond.selects y_Cw_finds.cls y_Cw_finds y_Cw_finds ∈ lw_ok := ⟨⟨q2501, q329, by decide +kernel, by decide +kernel, by decide +kernel⟩, q2499, q2500⟩
theorem q4244 : Cond.methodLink "ClassWorksLaw" 168 y_Mo_finds ∈ lw_ok := lw_okmem (List.mem_of_getElem? (i := 4244) (by decide +kernel)) rfl
theorem q4247 : Cond.code y_Mo_finds b_Mo_finds 5 (some .int) ∈ lw_ok := lw_okmem (List.mem_of_getElem? (i := 4247) (by decide +kernel)) rfl
theorem q4245 : Cond.instanceMethod y_Mo_finds ∈ lw_ok := lw_okmem (List.mem_of_getElem? (i := 4245) (by decide +kernel)) rfl
theorem q4246 : Cond.selects y_Mo_finds.cls y_Mo_finds y_Mo_finds ∈ lw_ok := lw_okmem (List.mem_of_getElem? (i := 4246) (by decide +kernel)) rfl
theorem w9_Mo_finds : CWv y_Mo_finds b_Mo_finds 5 (some .int) 2 ∧ Cond.instanceMethod y_Mo_finds ∈ lw_ok ∧ Cond.selects y_Mo_finds.cls y_Mo_finds y_Mo_finds ∈ lw_ok := ⟨⟨q4247, q348, by decide +kernel, by decide +kernel, by decide +kernel⟩, q4245, q4246⟩
theorem q2502 : Cond.methodLink "ClassWorksLaw" 169 y_Cw_hole ∈ lw_ok := lw_okmem (List.mem_of_getElem? (i := 2502) (by decide +kernel)) rfl
theorem q2505 : Cond.code y_Cw_hole b_Cw_hole 4 (some .int) ∈ lw_ok := lw_okmem (List.mem_of_getElem? (i := 2505) (by decide +kernel)) rfl
theorem q2503 : Cond.instanceMethod y_Cw_hole ∈ lw_ok := lw_okmem (List.mem_of_getElem? (i := 2503) (by decide +kernel)) rfl
theorem q2504 : Cond.selects y_Cw_hole.cls y_Cw_hole y_Cw_hole ∈ lw_ok := lw_okmem (List.mem_of_getElem? (i := 2504) (by decide +kernel)) rfl
theorem w9_Cw_hole : CWv y_Cw_hole b_Cw_hole 4 (some .int) 1 ∧ Cond.instanceMethod y_Cw_hole ∈ lw_ok ∧ Cond.selects y_Cw_hole.cls y_Cw_hole y_Cw_hole ∈ lw_ok := ⟨⟨q2505, q329, by decide +kernel, by decide +kernel, by decide +kernel⟩, q2503, q2504⟩
theorem q4248 : Cond.methodLink "ClassWorksLaw" 172 y_Mo_hole ∈ lw_ok := lw_okmem (List.mem_of_getElem? (i := 4248) (by decide +kernel)) rfl
theorem q4251 : Cond.code y_Mo_hole b_Mo_hole 6 (some .int) ∈ lw_ok := lw_okmem (List.mem_of_getElem? (i := 4251) (by decide +kernel)) rfl
theorem q4249 : Cond.instanceMethod y_Mo_hole ∈ lw_ok := lw_okmem (List.mem_of_getElem? (i := 4249) (by decide +kernel)) rfl
theorem q4250 : Cond.selects y_Mo_hole.cls y_Mo_hole y_Mo_hole ∈ lw_ok := lw_okmem (List.mem_of_getElem? (i := 4250) (by decide +kernel)) rfl
theorem w9_Mo_hole : CWv y_Mo_hole b_Mo_hole 6 (some .int) 1 ∧ Cond.instanceMethod y_Mo_hole ∈ lw_ok ∧ Cond.selects y_Mo_hole.cls y_Mo_hole y_Mo_hole ∈ lw_ok := ⟨⟨q4251, q348, by decide +kernel, by decide +kernel, by decide +kernel⟩, q4249, q4250⟩
theorem q2513 : Cond.methodLink "ClassWorksLaw" 173 y_Cw_least ∈ lw_ok := lw_okmem (List.mem_of_getElem? (i := 2513) (by decide +kernel)) rfl
theorem q2516 : Cond.code y_Cw_least b_Cw_least 2 (some .int) ∈ lw_ok := lw_okmem (List.mem_of_getElem? (i := 2516) (by decide +kernel)) rfl
theorem q2514 : Cond.instanceMethod y_Cw_least ∈ lw_ok := lw_okmem (List.mem_of_getElem? (i := 2514) (by decide +kernel)) rfl
theorem q2515 : Cond.selects y_Cw_least.cls y_Cw_least y_Cw_least ∈ lw_ok := lw_okmem (List.mem_of_getElem? (i := 2515) (by decide +kernel)) rfl
theorem w9_Cw_least : CWv y_Cw_least b_Cw_least 2 (some .int) 0 ∧ Cond.instanceMethod y_Cw_least ∈ lw_ok ∧ Cond.selects y_Cw_least.cls y_Cw_least y_Cw_least ∈ lw_ok := ⟨⟨q2516, q329, by decide +kernel, by decide +kernel, by decide +kernel⟩, q2514, q2515⟩
theorem q4255 : Cond.methodLink "ClassWorksLaw" 176 y_Mo_least ∈ lw_ok := lw_okmem (List.mem_of_getElem? (i := 4255) (by decide +kernel)) rfl
theorem q4258 : Cond.code y_Mo_least b_Mo_least 7 (some .int) ∈ lw_ok := lw_okmem (List.mem_of_getElem? (i := 4258) (by decide +kernel)) rfl
theorem q4256 : Cond.instanceMethod y_Mo_least ∈ lw_ok := lw_okmem (List.mem_of_getElem? (i := 4256) (by decide +kernel)) rfl
theorem q4257 : Cond.selects y_Mo_least.cls y_Mo_least y_Mo_least ∈ lw_ok := lw_okmem (List.mem_of_getElem? (i := 4257) (by decide +kernel)) rfl
theorem w9_Mo_least : CWv y_Mo_least b_Mo_least 7 (some .int) 0 ∧ Cond.instanceMethod y_Mo_least ∈ lw_ok ∧ Cond.selects y_Mo_least.cls y_Mo_least y_Mo_least ∈ lw_ok := ⟨⟨q4258, q348, by decide +kernel, by decide +kernel, by decide +kernel⟩, q4256, q4257⟩
theorem q2525 : Cond.methodLink "ClassWorksLaw" 177 y_Cw_fewest ∈ lw_ok := lw_okmem (List.mem_of_getElem? (i := 2525) (by decide +kernel)) rfl
theorem q2528 : Cond.code y_Cw_fewest b_Cw_fewest 3 (some .int) ∈ lw_ok := lw_okmem (List.mem_of_getElem? (i := 2528) (by decide +kernel)) rfl
theorem q2526 : Cond.instanceMethod y_Cw_fewest ∈ lw_ok := lw_okmem (List.mem_of_getElem? (i := 2526) (by decide +kernel)) rfl
theorem q2527 : Cond.selects y_Cw_fewest.cls y_Cw_fewest y_Cw_fewest ∈ lw_ok := lw_okmem (List.mem_of_getElem? (i := 2527) (by decide +kernel)) rfl
theorem w9_Cw_fewest : CWv y_Cw_fewest b_Cw_fewest 3 (some .int) 0 ∧ Cond.instanceMethod y_Cw_fewest ∈ lw_ok ∧ Cond.selects y_Cw_fewest.cls y_Cw_fewest y_Cw_fewest ∈ lw_ok := ⟨⟨q2528, q329, by decide +kernel, by decide +kernel, by decide +kernel⟩, q2526, q2527⟩
theorem q4263 : Cond.methodLink "ClassWorksLaw" 180 y_Mo_fewest ∈ lw_ok := lw_okmem (List.mem_of_getElem? (i := 4263) (by decide +kernel)) rfl
theorem q4266 : Cond.code y_Mo_fewest b_Mo_fewest 5 (some .int) ∈ lw_ok := lw_okmem (List.mem_of_getElem? (i := 4266) (by decide +kernel)) rfl
theorem q4264 : Cond.instanceMethod y_Mo_fewest ∈ lw_ok := lw_okmem (List.mem_of_getElem? (i := 4264) (by decide +kernel)) rfl
theorem q4265 : Cond.selects y_Mo_fewest.cls y_Mo_fewest y_Mo_fewest ∈ lw_ok := lw_okmem (List.mem_of_getElem? (i := 4265) (by decide +kernel)) rfl
theorem w9_Mo_fewest : CWv y_Mo_fewest b_Mo_fewest 5 (some .int) 0 ∧ Cond.instanceMethod y_Mo_fewest ∈ lw_ok ∧ Cond.selects y_Mo_fewest.cls y_Mo_fewest y_Mo_fewest ∈ lw_ok := ⟨⟨q4266, q348, by decide +kernel, by decide +kernel, by decide +kernel⟩, q4264, q4265⟩
theorem q2538 : Cond.methodLink "ClassWorksLaw" 181 y_Cw_shrink ∈ lw_ok := lw_okmem (List.mem_of_getElem? (i := 2538) (by decide +kernel)) rfl
theorem q2541 : Cond.code y_Cw_shrink b_Cw_shrink 9 (some .int) ∈ lw_ok := lw_okmem (List.mem_of_getElem? (i := 2541) (by decide +kernel)) rfl
theorem q2539 : Cond.instanceMethod y_Cw_shrink ∈ lw_ok := lw_okmem (List.mem_of_getElem? (i := 2539) (by decide +kernel)) rfl
theorem q2540 : Cond.selects y_Cw_shrink.cls y_Cw_shrink y_Cw_shrink ∈ lw_ok := lw_okmem (List.mem_of_getElem? (i := 2540) (by decide +kernel)) rfl
theorem w9_Cw_shrink : CWv y_Cw_shrink b_Cw_shrink 9 (some .int) 2 ∧ Cond.instanceMethod y_Cw_shrink ∈ lw_ok ∧ Cond.selects y_Cw_shrink.cls y_Cw_shrink y_Cw_shrink ∈ lw_ok := ⟨⟨q2541, q329, by decide +kernel, by decide +kernel, by decide +kernel⟩, q2539, q2540⟩
theorem q4271 : Cond.methodLink "ClassWorksLaw" 184 y_Mo_shrink ∈ lw_ok := lw_okmem (List.mem_of_getElem? (i := 4271) (by decide +kernel)) rfl
theorem q4274 : Cond.code y_Mo_shrink b_Mo_shrink 10 (some .int) ∈ lw_ok := lw_okmem (List.mem_of_getElem? (i := 4274) (by decide +kernel)) rfl
theorem q4272 : Cond.instanceMethod y_Mo_shrink ∈ lw_ok := lw_okmem (List.mem_of_getElem? (i := 4272) (by decide +kernel)) rfl
theorem q4273 : Cond.selects y_Mo_shrink.cls y_Mo_shrink y_Mo_shrink ∈ lw_ok := lw_okmem (List.mem_of_getElem? (i := 4273) (by decide +kernel)) rfl
theorem w9_Mo_shrink : CWv y_Mo_shrink b_Mo_shrink 10 (some .int) 2 ∧ Cond.instanceMethod y_Mo_shrink ∈ lw_ok ∧ Cond.selects y_Mo_shrink.cls y_Mo_shrink y_Mo_shrink ∈ lw_ok := ⟨⟨q4274, q348, by decide +kernel, by decide +kernel, by decide +kernel⟩, q4272, q4273⟩
theorem q2554 : Cond.methodLink "ClassWorksLaw" 185 y_Cw_change ∈ lw_ok := lw_okmem (List.mem_of_getElem? (i := 2554) (by decide +kernel)) rfl
theorem q2557 : Cond.code y_Cw_change b_Cw_change 8 (some .int) ∈ lw_ok := lw_okmem (List.mem_of_getElem? (i := 2557) (by decide +kernel)) rfl
theorem q2555 : Cond.instanceMethod y_Cw_change ∈ lw_ok := lw_okmem (List.mem_of_getElem? (i := 2555) (by decide +kernel)) rfl
theorem q2556 : Cond.selects y_Cw_change.cls y_Cw_change y_Cw_change ∈ lw_ok := lw_okmem (List.mem_of_getElem? (i := 2556) (by decide +kernel)) rfl
theorem w9_Cw_change : CWv y_Cw_change b_Cw_change 8 (some .int) 4 ∧ Cond.instanceMethod y_Cw_change ∈ lw_ok ∧ Cond.selects y_Cw_change.cls y_Cw_change y_Cw_change ∈ lw_ok := ⟨⟨q2557, q329, by decide +kernel, by decide +kernel, by decide +kernel⟩, q2555, q2556⟩
theorem q4283 : Cond.methodLink "ClassWorksLaw" 188 y_Mo_change ∈ lw_ok := lw_okmem (List.mem_of_getElem? (i := 4283) (by decide +kernel)) rfl
theorem q4286 : Cond.code y_Mo_change b_Mo_change 10 (some .int) ∈ lw_ok := lw_okmem (List.mem_of_getElem? (i := 4286) (by decide +kernel)) rfl
theorem q4284 : Cond.instanceMethod y_Mo_change ∈ lw_ok := lw_okmem (List.mem_of_getElem? (i := 4284) (by decide +kernel)) rfl
theorem q4285 : Cond.selects y_Mo_change.cls y_Mo_change y_Mo_change ∈ lw_ok := lw_okmem (List.mem_of_getElem? (i := 4285) (by decide +kernel)) rfl
theorem w9_Mo_change : CWv y_Mo_change b_Mo_change 10 (some .int) 4 ∧ Cond.instanceMethod y_Mo_change ∈ lw_ok ∧ Cond.selects y_Mo_change.cls y_Mo_change y_Mo_change ∈ lw_ok := ⟨⟨q4286, q348, by decide +kernel, by decide +kernel, by decide +kernel⟩, q4284, q4285⟩
theorem q2562 : Cond.methodLink "ClassWorksLaw" 189 y_Cw_text ∈ lw_ok := lw_okmem (List.mem_of_getElem? (i := 2562) (by decide +kernel)) rfl
theorem q2565 : Cond.code y_Cw_text b_Cw_text 3 (some .int) ∈ lw_ok := lw_okmem (List.mem_of_getElem? (i := 2565) (by decide +kernel)) rfl
theorem q2563 : Cond.instanceMethod y_Cw_text ∈ lw_ok := lw_okmem (List.mem_of_getElem? (i := 2563) (by decide +kernel)) rfl
theorem q2564 : Cond.selects y_Cw_text.cls y_Cw_text y_Cw_text ∈ lw_ok := lw_okmem (List.mem_of_getElem? (i := 2564) (by decide +kernel)) rfl
theorem w9_Cw_text : CWv y_Cw_text b_Cw_text 3 (some .int) 2 ∧ Cond.instanceMethod y_Cw_text ∈ lw_ok ∧ Cond.selects y_Cw_text.cls y_Cw_text y_Cw_text ∈ lw_ok := ⟨⟨q2565, q329, by decide +kernel, by decide +kernel, by decide +kernel⟩, q2563, q2564⟩
theorem q4287 : Cond.methodLink "ClassWorksLaw" 192 y_Mo_text ∈ lw_ok := lw_okmem (List.mem_of_getElem? (i := 4287) (by decide +kernel)) rfl
theorem q4290 : Cond.code y_Mo_text b_Mo_text 3 (some .int) ∈ lw_ok := lw_okmem (List.mem_of_getElem? (i := 4290) (by decide +kernel)) rfl
theorem q4288 : Cond.instanceMethod y_Mo_text ∈ lw_ok := lw_okmem (List.mem_of_getElem? (i := 4288) (by decide +kernel)) rfl
theorem q4289 : Cond.selects y_Mo_text.cls y_Mo_text y_Mo_text ∈ lw_ok := lw_okmem (List.mem_of_getElem? (i := 4289) (by decide +kernel)) rfl
theorem w9_Mo_text : CWv y_Mo_text b_Mo_text 3 (some .int) 2 ∧ Cond.instanceMethod y_Mo_text ∈ lw_ok ∧ Cond.selects y_Mo_text.cls y_Mo_text y_Mo_text ∈ lw_ok := ⟨⟨q4290, q348, by decide +kernel, by decide +kernel, by decide +kernel⟩, q4288, q4289⟩
theorem q2566 : Cond.methodLink "ClassWorksLaw" 193 y_Cw_count ∈ lw_ok := lw_okmem (List.mem_of_getElem? (i := 2566) (by decide +kernel)) rfl
theorem q2569 : Cond.code y_Cw_count b_Cw_count 2 (some .int) ∈ lw_ok := lw_okmem (List.mem_of_getElem? (i := 2569) (by decide +kernel)) rfl
theorem q2567 : Cond.instanceMethod y_Cw_count ∈ lw_ok := lw_okmem (List.mem_of_getElem? (i := 2567) (by decide +kernel)) rfl
theorem q2568 : Cond.selects y_Cw_count.cls y_Cw_count y_Cw_count ∈ lw_ok := lw_okmem (List.mem_of_getElem? (i := 2568) (by decide +kernel)) rfl
theorem w9_Cw_count : CWv y_Cw_count b_Cw_count 2 (some .int) 1 ∧ Cond.instanceMethod y_Cw_count ∈ lw_ok ∧ Cond.selects y_Cw_count.cls y_Cw_count y_Cw_count ∈ lw_ok := ⟨⟨q2569, q329, by decide +kernel, by decide +kernel, by decide +kernel⟩, q2567, q2568⟩
theorem q4291 : Cond.methodLink "ClassWorksLaw" 196 y_Mo_count ∈ lw_ok := lw_okmem (List.mem_of_getElem? (i := 4291) (by decide +kernel)) rfl
theorem q4294 : Cond.code y_Mo_count b_Mo_count 2 (some .int) ∈ lw_ok := lw_okmem (List.mem_of_getElem? (i := 4294) (by decide +kernel)) rfl
theorem q4292 : Cond.instanceMethod y_Mo_count ∈ lw_ok := lw_okmem (List.mem_of_getElem? (i := 4292) (by decide +kernel)) rfl
theorem q4293 : Cond.selects y_Mo_count.cls y_Mo_count y_Mo_count ∈ lw_ok := lw_okmem (List.mem_of_getElem? (i := 4293) (by decide +kernel)) rfl
theorem w9_Mo_count : CWv y_Mo_count b_Mo_count 2 (some .int) 1 ∧ Cond.instanceMethod y_Mo_count ∈ lw_ok ∧ Cond.selects y_Mo_count.cls y_Mo_count y_Mo_count ∈ lw_ok := ⟨⟨q4294, q348, by decide +kernel, by decide +kernel, by decide +kernel⟩, q4292, q4293⟩
def xL (n : Nat) (xs : Nat → Int32) (v : Int32) (K : Int32 → Prop) : Prop := ∃ i : Nat, v = nI i ∧ i < n ∧ n < 2147483648 ∧ K (xs i)
theorem usld {p : Program} {l : Launch} {e : Env} {R : Room} {s : State} {m : MethodId} {args : Array Value} {below : List Frame} {meth : Method} {c : Code} {H : Heap} {locs : List Loc} {cells slots : Nat} {Q : State → Prop} {cc : ByteArray} {pc nL : Nat} {ls : Array Slot} {rest : List Value} {A0 : Nat → Prop} {D : va_G} {y0 : MethodName} {r0 : Option FieldType} {g : Nat → ClassId} {sl : List SL} {bS lenS : Nat} {xS : Nat → Int32} {v : Int32} {K : Int32 → Prop}
    (G : GV l p s m args meth c y0 cc nL r0 g D sl A0) (hX : va_X bS lenS xS s s.heap) (hbl : bS < s.heap.size) (hbA : ¬ A0 bS) (hS : va_S A0 s.heap H locs) (h : xL lenS xS v K) (hdg : decode cc pc = .ok (.iaload, 1))
    (kk : ∀ x : Int32, K x → W p l e R s m args below meth c H locs cells slots Q (F0 m (pc + 1) ls (.int x :: rest))) : W p l e R s m args below meth c H locs cells slots Q (F0 m pc ls (.int v :: .ref bS :: rest)) := by
  obtain ⟨i, rfl, hi, hn, hk⟩ := h
  refine va_sld G.1 G.2.1 hX hbl hbA hS (fun q => by rcases q with q | q; exact nI_pos (by omega) q; rw [nI_clamp (by omega)] at q; omega) hdg ?_
  rw [nI_clamp (by omega)]
  exact kk _ hk
theorem d_Law_18 : decode code 18 = .ok (.iload_n 3, 1) := by decide +kernel
theorem d_Law_19 : decode code 19 = .ok (.aload_n 0, 1) := by decide +kernel
theorem d_Law_20 : decode code 20 = .ok (.arraylength, 1) := by decide +kernel
theorem d_Law_21 : decode code 21 = .ok (.bipush 6, 2) := by decide +kernel
theorem d_Law_23 : decode code 23 = .ok (.isub, 1) := by decide +kernel
theorem d_Law_24 : decode code 24 = .ok (.if_icmp .gt 1750, 3) := by decide +kernel
theorem d_Law_27 : decode code 27 = .ok (.aload_n 0, 1) := by decide +kernel
theorem d_Law_28 : decode code 28 = .ok (.iload_n 3, 1) := by decide +kernel
theorem d_Law_29 : decode code 29 = .ok (.iaload, 1) := by decide +kernel
theorem d_Law_30 : decode code 30 = .ok (.bipush 63, 2) := by decide +kernel
theorem d_Law_32 : decode code 32 = .ok (.iand, 1) := by decide +kernel
theorem d_Law_33 : decode code 33 = .ok (.tableswitch 1735 0 43 #[191, 254, 277, 300, 323, 346, 359, 382, 425, 488, 541, 574, 607, 640, 673, 696, 729, 772, 805, 874, 917, 960, 993, 1016, 1085, 1118, 1171, 1204, 1247, 1280, 1303, 1366, 1409, 1432, 1445, 1488, 1511, 1544, 1567, 1580, 1593, 1626, 1679, 1712], 191) := by decide +kernel
theorem d_Law_224 : decode code 224 = .ok (.aload_n 1, 1) := by decide +kernel
theorem d_Law_225 : decode code 225 = .ok (.aload_n 0, 1) := by decide +kernel
theorem d_Law_226 : decode code 226 = .ok (.iload_n 3, 1) := by decide +kernel
theorem d_Law_227 : decode code 227 = .ok (.iconst 1, 1) := by decide +kernel
theorem d_Law_228 : decode code 228 = .ok (.iadd, 1) := by decide +kernel
theorem d_Law_229 : decode code 229 = .ok (.iaload, 1) := by decide +kernel
theorem d_Law_230 : decode code 230 = .ok (.aload_n 0, 1) := by decide +kernel
theorem d_Law_231 : decode code 231 = .ok (.iload_n 3, 1) := by decide +kernel
theorem d_Law_232 : decode code 232 = .ok (.iconst 2, 1) := by decide +kernel
theorem d_Law_233 : decode code 233 = .ok (.iadd, 1) := by decide +kernel
theorem d_Law_234 : decode code 234 = .ok (.iaload, 1) := by decide +kernel
theorem d_Law_235 : decode code 235 = .ok (.aload_n 0, 1) := by decide +kernel
theorem d_Law_236 : decode code 236 = .ok (.iload_n 3, 1) := by decide +kernel
theorem d_Law_237 : decode code 237 = .ok (.iconst 3, 1) := by decide +kernel
theorem d_Law_238 : decode code 238 = .ok (.iadd, 1) := by decide +kernel
theorem d_Law_239 : decode code 239 = .ok (.iaload, 1) := by decide +kernel
theorem d_Law_240 : decode code 240 = .ok (.aload_n 0, 1) := by decide +kernel
theorem d_Law_241 : decode code 241 = .ok (.iload_n 3, 1) := by decide +kernel
theorem d_Law_242 : decode code 242 = .ok (.iconst 4, 1) := by decide +kernel
theorem d_Law_243 : decode code 243 = .ok (.iadd, 1) := by decide +kernel
theorem d_Law_244 : decode code 244 = .ok (.iaload, 1) := by decide +kernel
theorem d_Law_245 : decode code 245 = .ok (.aload_n 0, 1) := by decide +kernel
theorem d_Law_246 : decode code 246 = .ok (.iload_n 3, 1) := by decide +kernel
theorem d_Law_247 : decode code 247 = .ok (.iconst 5, 1) := by decide +kernel
theorem d_Law_248 : decode code 248 = .ok (.iadd, 1) := by decide +kernel
theorem d_Law_249 : decode code 249 = .ok (.iaload, 1) := by decide +kernel
theorem d_Law_250 : decode code 250 = .ok (.invokevirtual 13, 3) := by decide +kernel
theorem d_Law_253 : decode code 253 = .ok (.aload_n 2, 1) := by decide +kernel
theorem d_Law_254 : decode code 254 = .ok (.aload_n 0, 1) := by decide +kernel
theorem d_Law_255 : decode code 255 = .ok (.iload_n 3, 1) := by decide +kernel
theorem d_Law_256 : decode code 256 = .ok (.iconst 1, 1) := by decide +kernel
theorem d_Law_257 : decode code 257 = .ok (.iadd, 1) := by decide +kernel
theorem d_Law_258 : decode code 258 = .ok (.iaload, 1) := by decide +kernel
theorem d_Law_259 : decode code 259 = .ok (.aload_n 0, 1) := by decide +kernel
theorem d_Law_260 : decode code 260 = .ok (.iload_n 3, 1) := by decide +kernel
theorem d_Law_261 : decode code 261 = .ok (.iconst 2, 1) := by decide +kernel
theorem d_Law_262 : decode code 262 = .ok (.iadd, 1) := by decide +kernel
theorem d_Law_263 : decode code 263 = .ok (.iaload, 1) := by decide +kernel
theorem d_Law_264 : decode code 264 = .ok (.aload_n 0, 1) := by decide +kernel
theorem d_Law_265 : decode code 265 = .ok (.iload_n 3, 1) := by decide +kernel
theorem d_Law_266 : decode code 266 = .ok (.iconst 3, 1) := by decide +kernel
theorem d_Law_267 : decode code 267 = .ok (.iadd, 1) := by decide +kernel
theorem d_Law_268 : decode code 268 = .ok (.iaload, 1) := by decide +kernel
theorem d_Law_269 : decode code 269 = .ok (.aload_n 0, 1) := by decide +kernel
theorem d_Law_270 : decode code 270 = .ok (.iload_n 3, 1) := by decide +kernel
theorem d_Law_271 : decode code 271 = .ok (.iconst 4, 1) := by decide +kernel
theorem d_Law_272 : decode code 272 = .ok (.iadd, 1) := by decide +kernel
theorem d_Law_273 : decode code 273 = .ok (.iaload, 1) := by decide +kernel
theorem d_Law_274 : decode code 274 = .ok (.aload_n 0, 1) := by decide +kernel
theorem d_Law_275 : decode code 275 = .ok (.iload_n 3, 1) := by decide +kernel
theorem d_Law_276 : decode code 276 = .ok (.iconst 5, 1) := by decide +kernel
theorem d_Law_277 : decode code 277 = .ok (.iadd, 1) := by decide +kernel
theorem d_Law_278 : decode code 278 = .ok (.iaload, 1) := by decide +kernel
theorem d_Law_279 : decode code 279 = .ok (.invokevirtual 17, 3) := by decide +kernel
theorem d_Law_282 : decode code 282 = .ok (.if_icmp .eq 1486, 3) := by decide +kernel
theorem d_Law_285 : decode code 285 = .ok (.iconst 0, 1) := by decide +kernel
theorem d_Law_286 : decode code 286 = .ok (.ireturn, 1) := by decide +kernel
theorem d_Law_287 : decode code 287 = .ok (.aload_n 1, 1) := by decide +kernel
theorem d_Law_288 : decode code 288 = .ok (.aload_n 0, 1) := by decide +kernel
theorem d_Law_289 : decode code 289 = .ok (.iload_n 3, 1) := by decide +kernel
theorem d_Law_290 : decode code 290 = .ok (.iconst 1, 1) := by decide +kernel
theorem d_Law_291 : decode code 291 = .ok (.iadd, 1) := by decide +kernel
theorem d_Law_292 : decode code 292 = .ok (.iaload, 1) := by decide +kernel
theorem d_Law_293 : decode code 293 = .ok (.invokevirtual 18, 3) := by decide +kernel
theorem d_Law_296 : decode code 296 = .ok (.aload_n 2, 1) := by decide +kernel
theorem d_Law_297 : decode code 297 = .ok (.aload_n 0, 1) := by decide +kernel
theorem d_Law_298 : decode code 298 = .ok (.iload_n 3, 1) := by decide +kernel
theorem d_Law_299 : decode code 299 = .ok (.iconst 1, 1) := by decide +kernel
theorem d_Law_300 : decode code 300 = .ok (.iadd, 1) := by decide +kernel
theorem d_Law_301 : decode code 301 = .ok (.iaload, 1) := by decide +kernel
theorem d_Law_302 : decode code 302 = .ok (.invokevirtual 22, 3) := by decide +kernel
theorem d_Law_305 : decode code 305 = .ok (.if_icmp .eq 1463, 3) := by decide +kernel
theorem d_Law_308 : decode code 308 = .ok (.iconst 0, 1) := by decide +kernel
theorem d_Law_309 : decode code 309 = .ok (.ireturn, 1) := by decide +kernel
theorem d_Law_310 : decode code 310 = .ok (.aload_n 1, 1) := by decide +kernel
theorem d_Law_311 : decode code 311 = .ok (.aload_n 0, 1) := by decide +kernel
theorem d_Law_312 : decode code 312 = .ok (.iload_n 3, 1) := by decide +kernel
theorem d_Law_313 : decode code 313 = .ok (.iconst 1, 1) := by decide +kernel
theorem d_Law_314 : decode code 314 = .ok (.iadd, 1) := by decide +kernel
theorem d_Law_315 : decode code 315 = .ok (.iaload, 1) := by decide +kernel
theorem d_Law_316 : decode code 316 = .ok (.invokevirtual 23, 3) := by decide +kernel
theorem d_Law_319 : decode code 319 = .ok (.aload_n 2, 1) := by decide +kernel
theorem d_Law_320 : decode code 320 = .ok (.aload_n 0, 1) := by decide +kernel
theorem d_Law_321 : decode code 321 = .ok (.iload_n 3, 1) := by decide +kernel
theorem d_Law_322 : decode code 322 = .ok (.iconst 1, 1) := by decide +kernel
theorem d_Law_323 : decode code 323 = .ok (.iadd, 1) := by decide +kernel
theorem d_Law_324 : decode code 324 = .ok (.iaload, 1) := by decide +kernel
theorem d_Law_325 : decode code 325 = .ok (.invokevirtual 26, 3) := by decide +kernel
theorem d_Law_328 : decode code 328 = .ok (.if_icmp .eq 1440, 3) := by decide +kernel
theorem d_Law_331 : decode code 331 = .ok (.iconst 0, 1) := by decide +kernel
theorem d_Law_332 : decode code 332 = .ok (.ireturn, 1) := by decide +kernel
theorem d_Law_333 : decode code 333 = .ok (.aload_n 1, 1) := by decide +kernel
theorem d_Law_334 : decode code 334 = .ok (.aload_n 0, 1) := by decide +kernel
theorem d_Law_335 : decode code 335 = .ok (.iload_n 3, 1) := by decide +kernel
theorem d_Law_336 : decode code 336 = .ok (.iconst 1, 1) := by decide +kernel
theorem d_Law_337 : decode code 337 = .ok (.iadd, 1) := by decide +kernel
theorem d_Law_338 : decode code 338 = .ok (.iaload, 1) := by decide +kernel
theorem d_Law_339 : decode code 339 = .ok (.invokevirtual 27, 3) := by decide +kernel
theorem d_Law_342 : decode code 342 = .ok (.pop, 1) := by decide +kernel
theorem d_Law_343 : decode code 343 = .ok (.aload_n 2, 1) := by decide +kernel
theorem d_Law_344 : decode code 344 = .ok (.aload_n 0, 1) := by decide +kernel
theorem d_Law_345 : decode code 345 = .ok (.iload_n 3, 1) := by decide +kernel
theorem d_Law_346 : decode code 346 = .ok (.iconst 1, 1) := by decide +kernel
theorem d_Law_347 : decode code 347 = .ok (.iadd, 1) := by decide +kernel
theorem d_Law_348 : decode code 348 = .ok (.iaload, 1) := by decide +kernel
theorem d_Law_349 : decode code 349 = .ok (.invokevirtual 30, 3) := by decide +kernel
theorem d_Law_352 : decode code 352 = .ok (.pop, 1) := by decide +kernel
theorem d_Law_353 : decode code 353 = .ok (.goto 1415, 3) := by decide +kernel
theorem d_Law_356 : decode code 356 = .ok (.aload_n 1, 1) := by decide +kernel
theorem d_Law_357 : decode code 357 = .ok (.aload_n 0, 1) := by decide +kernel
theorem d_Law_358 : decode code 358 = .ok (.iload_n 3, 1) := by decide +kernel
theorem d_Law_359 : decode code 359 = .ok (.iconst 1, 1) := by decide +kernel
theorem d_Law_360 : decode code 360 = .ok (.iadd, 1) := by decide +kernel
theorem d_Law_361 : decode code 361 = .ok (.iaload, 1) := by decide +kernel
theorem d_Law_362 : decode code 362 = .ok (.invokevirtual 31, 3) := by decide +kernel
theorem d_Law_365 : decode code 365 = .ok (.pop, 1) := by decide +kernel
theorem d_Law_366 : decode code 366 = .ok (.aload_n 2, 1) := by decide +kernel
theorem d_Law_367 : decode code 367 = .ok (.aload_n 0, 1) := by decide +kernel
theorem d_Law_368 : decode code 368 = .ok (.iload_n 3, 1) := by decide +kernel
theorem d_Law_369 : decode code 369 = .ok (.iconst 1, 1) := by decide +kernel
theorem d_Law_370 : decode code 370 = .ok (.iadd, 1) := by decide +kernel
theorem d_Law_371 : decode code 371 = .ok (.iaload, 1) := by decide +kernel
theorem d_Law_372 : decode code 372 = .ok (.invokevirtual 34, 3) := by decide +kernel
theorem d_Law_375 : decode code 375 = .ok (.pop, 1) := by decide +kernel
theorem d_Law_376 : decode code 376 = .ok (.goto 1392, 3) := by decide +kernel
theorem d_Law_379 : decode code 379 = .ok (.aload_n 1, 1) := by decide +kernel
theorem d_Law_380 : decode code 380 = .ok (.invokevirtual 35, 3) := by decide +kernel
theorem d_Law_383 : decode code 383 = .ok (.pop, 1) := by decide +kernel
theorem d_Law_384 : decode code 384 = .ok (.aload_n 2, 1) := by decide +kernel
theorem d_Law_385 : decode code 385 = .ok (.invokevirtual 39, 3) := by decide +kernel
theorem d_Law_388 : decode code 388 = .ok (.pop, 1) := by decide +kernel
theorem d_Law_389 : decode code 389 = .ok (.goto 1379, 3) := by decide +kernel
theorem d_Law_392 : decode code 392 = .ok (.aload_n 1, 1) := by decide +kernel
theorem d_Law_393 : decode code 393 = .ok (.aload_n 0, 1) := by decide +kernel
theorem d_Law_394 : decode code 394 = .ok (.iload_n 3, 1) := by decide +kernel
theorem d_Law_395 : decode code 395 = .ok (.iconst 1, 1) := by decide +kernel
theorem d_Law_396 : decode code 396 = .ok (.iadd, 1) := by decide +kernel
theorem d_Law_397 : decode code 397 = .ok (.iaload, 1) := by decide +kernel
theorem d_Law_398 : decode code 398 = .ok (.invokevirtual 40, 3) := by decide +kernel
theorem d_Law_401 : decode code 401 = .ok (.pop, 1) := by decide +kernel
theorem d_Law_402 : decode code 402 = .ok (.aload_n 2, 1) := by decide +kernel
theorem d_Law_403 : decode code 403 = .ok (.aload_n 0, 1) := by decide +kernel
theorem d_Law_404 : decode code 404 = .ok (.iload_n 3, 1) := by decide +kernel
theorem d_Law_405 : decode code 405 = .ok (.iconst 1, 1) := by decide +kernel
theorem d_Law_406 : decode code 406 = .ok (.iadd, 1) := by decide +kernel
theorem d_Law_407 : decode code 407 = .ok (.iaload, 1) := by decide +kernel
theorem d_Law_408 : decode code 408 = .ok (.invokevirtual 43, 3) := by decide +kernel
theorem d_Law_411 : decode code 411 = .ok (.pop, 1) := by decide +kernel
theorem d_Law_412 : decode code 412 = .ok (.goto 1356, 3) := by decide +kernel
theorem d_Law_415 : decode code 415 = .ok (.aload_n 1, 1) := by decide +kernel
theorem d_Law_416 : decode code 416 = .ok (.aload_n 0, 1) := by decide +kernel
theorem d_Law_417 : decode code 417 = .ok (.iload_n 3, 1) := by decide +kernel
theorem d_Law_418 : decode code 418 = .ok (.iconst 1, 1) := by decide +kernel
theorem d_Law_419 : decode code 419 = .ok (.iadd, 1) := by decide +kernel
theorem d_Law_420 : decode code 420 = .ok (.iaload, 1) := by decide +kernel
theorem d_Law_421 : decode code 421 = .ok (.aload_n 0, 1) := by decide +kernel
theorem d_Law_422 : decode code 422 = .ok (.iload_n 3, 1) := by decide +kernel
theorem d_Law_423 : decode code 423 = .ok (.iconst 2, 1) := by decide +kernel
theorem d_Law_424 : decode code 424 = .ok (.iadd, 1) := by decide +kernel
theorem d_Law_425 : decode code 425 = .ok (.iaload, 1) := by decide +kernel
theorem d_Law_426 : decode code 426 = .ok (.aload_n 0, 1) := by decide +kernel
theorem d_Law_427 : decode code 427 = .ok (.iload_n 3, 1) := by decide +kernel
theorem d_Law_428 : decode code 428 = .ok (.iconst 3, 1) := by decide +kernel
theorem d_Law_429 : decode code 429 = .ok (.iadd, 1) := by decide +kernel
theorem d_Law_430 : decode code 430 = .ok (.iaload, 1) := by decide +kernel
theorem d_Law_431 : decode code 431 = .ok (.invokevirtual 44, 3) := by decide +kernel
theorem d_Law_434 : decode code 434 = .ok (.pop, 1) := by decide +kernel
theorem d_Law_435 : decode code 435 = .ok (.aload_n 2, 1) := by decide +kernel
theorem d_Law_436 : decode code 436 = .ok (.aload_n 0, 1) := by decide +kernel
theorem d_Law_437 : decode code 437 = .ok (.iload_n 3, 1) := by decide +kernel
theorem d_Law_438 : decode code 438 = .ok (.iconst 1, 1) := by decide +kernel
theorem d_Law_439 : decode code 439 = .ok (.iadd, 1) := by decide +kernel
theorem d_Law_440 : decode code 440 = .ok (.iaload, 1) := by decide +kernel
theorem d_Law_441 : decode code 441 = .ok (.aload_n 0, 1) := by decide +kernel
theorem d_Law_442 : decode code 442 = .ok (.iload_n 3, 1) := by decide +kernel
theorem d_Law_443 : decode code 443 = .ok (.iconst 2, 1) := by decide +kernel
theorem d_Law_444 : decode code 444 = .ok (.iadd, 1) := by decide +kernel
theorem d_Law_445 : decode code 445 = .ok (.iaload, 1) := by decide +kernel
theorem d_Law_446 : decode code 446 = .ok (.aload_n 0, 1) := by decide +kernel
theorem d_Law_447 : decode code 447 = .ok (.iload_n 3, 1) := by decide +kernel
theorem d_Law_448 : decode code 448 = .ok (.iconst 3, 1) := by decide +kernel
theorem d_Law_449 : decode code 449 = .ok (.iadd, 1) := by decide +kernel
theorem d_Law_450 : decode code 450 = .ok (.iaload, 1) := by decide +kernel
theorem d_Law_451 : decode code 451 = .ok (.invokevirtual 48, 3) := by decide +kernel
theorem d_Law_454 : decode code 454 = .ok (.pop, 1) := by decide +kernel
theorem d_Law_455 : decode code 455 = .ok (.goto 1313, 3) := by decide +kernel
theorem d_Law_458 : decode code 458 = .ok (.aload_n 1, 1) := by decide +kernel
theorem d_Law_459 : decode code 459 = .ok (.aload_n 0, 1) := by decide +kernel
theorem d_Law_460 : decode code 460 = .ok (.iload_n 3, 1) := by decide +kernel
theorem d_Law_461 : decode code 461 = .ok (.iconst 1, 1) := by decide +kernel
theorem d_Law_462 : decode code 462 = .ok (.iadd, 1) := by decide +kernel
theorem d_Law_463 : decode code 463 = .ok (.iaload, 1) := by decide +kernel
theorem d_Law_464 : decode code 464 = .ok (.aload_n 0, 1) := by decide +kernel
theorem d_Law_465 : decode code 465 = .ok (.iload_n 3, 1) := by decide +kernel
theorem d_Law_466 : decode code 466 = .ok (.iconst 2, 1) := by decide +kernel
theorem d_Law_467 : decode code 467 = .ok (.iadd, 1) := by decide +kernel
theorem d_Law_468 : decode code 468 = .ok (.iaload, 1) := by decide +kernel
theorem d_Law_469 : decode code 469 = .ok (.aload_n 0, 1) := by decide +kernel
theorem d_Law_470 : decode code 470 = .ok (.iload_n 3, 1) := by decide +kernel
theorem d_Law_471 : decode code 471 = .ok (.iconst 3, 1) := by decide +kernel
theorem d_Law_472 : decode code 472 = .ok (.iadd, 1) := by decide +kernel
theorem d_Law_473 : decode code 473 = .ok (.iaload, 1) := by decide +kernel
theorem d_Law_474 : decode code 474 = .ok (.aload_n 0, 1) := by decide +kernel
theorem d_Law_475 : decode code 475 = .ok (.iload_n 3, 1) := by decide +kernel
theorem d_Law_476 : decode code 476 = .ok (.iconst 4, 1) := by decide +kernel
theorem d_Law_477 : decode code 477 = .ok (.iadd, 1) := by decide +kernel
theorem d_Law_478 : decode code 478 = .ok (.iaload, 1) := by decide +kernel
theorem d_Law_479 : decode code 479 = .ok (.aload_n 0, 1) := by decide +kernel
theorem d_Law_480 : decode code 480 = .ok (.iload_n 3, 1) := by decide +kernel
theorem d_Law_481 : decode code 481 = .ok (.iconst 5, 1) := by decide +kernel
theorem d_Law_482 : decode code 482 = .ok (.iadd, 1) := by decide +kernel
theorem d_Law_483 : decode code 483 = .ok (.iaload, 1) := by decide +kernel
theorem d_Law_484 : decode code 484 = .ok (.invokevirtual 49, 3) := by decide +kernel
theorem d_Law_487 : decode code 487 = .ok (.pop, 1) := by decide +kernel
theorem d_Law_488 : decode code 488 = .ok (.aload_n 2, 1) := by decide +kernel
theorem d_Law_489 : decode code 489 = .ok (.aload_n 0, 1) := by decide +kernel
theorem d_Law_490 : decode code 490 = .ok (.iload_n 3, 1) := by decide +kernel
theorem d_Law_491 : decode code 491 = .ok (.iconst 1, 1) := by decide +kernel
theorem d_Law_492 : decode code 492 = .ok (.iadd, 1) := by decide +kernel
theorem d_Law_493 : decode code 493 = .ok (.iaload, 1) := by decide +kernel
theorem d_Law_494 : decode code 494 = .ok (.aload_n 0, 1) := by decide +kernel
theorem d_Law_495 : decode code 495 = .ok (.iload_n 3, 1) := by decide +kernel
theorem d_Law_496 : decode code 496 = .ok (.iconst 2, 1) := by decide +kernel
theorem d_Law_497 : decode code 497 = .ok (.iadd, 1) := by decide +kernel
theorem d_Law_498 : decode code 498 = .ok (.iaload, 1) := by decide +kernel
theorem d_Law_499 : decode code 499 = .ok (.aload_n 0, 1) := by decide +kernel
theorem d_Law_500 : decode code 500 = .ok (.iload_n 3, 1) := by decide +kernel
theorem d_Law_501 : decode code 501 = .ok (.iconst 3, 1) := by decide +kernel
theorem d_Law_502 : decode code 502 = .ok (.iadd, 1) := by decide +kernel
theorem d_Law_503 : decode code 503 = .ok (.iaload, 1) := by decide +kernel
theorem d_Law_504 : decode code 504 = .ok (.aload_n 0, 1) := by decide +kernel
theorem d_Law_505 : decode code 505 = .ok (.iload_n 3, 1) := by decide +kernel
theorem d_Law_506 : decode code 506 = .ok (.iconst 4, 1) := by decide +kernel
theorem d_Law_507 : decode code 507 = .ok (.iadd, 1) := by decide +kernel
theorem d_Law_508 : decode code 508 = .ok (.iaload, 1) := by decide +kernel
theorem d_Law_509 : decode code 509 = .ok (.aload_n 0, 1) := by decide +kernel
theorem d_Law_510 : decode code 510 = .ok (.iload_n 3, 1) := by decide +kernel
theorem d_Law_511 : decode code 511 = .ok (.iconst 5, 1) := by decide +kernel
theorem d_Law_512 : decode code 512 = .ok (.iadd, 1) := by decide +kernel
theorem d_Law_513 : decode code 513 = .ok (.iaload, 1) := by decide +kernel
theorem d_Law_514 : decode code 514 = .ok (.invokevirtual 52, 3) := by decide +kernel
theorem d_Law_517 : decode code 517 = .ok (.pop, 1) := by decide +kernel
theorem d_Law_518 : decode code 518 = .ok (.goto 1250, 3) := by decide +kernel
theorem d_Law_521 : decode code 521 = .ok (.aload_n 1, 1) := by decide +kernel
theorem d_Law_522 : decode code 522 = .ok (.aload_n 0, 1) := by decide +kernel
theorem d_Law_523 : decode code 523 = .ok (.iload_n 3, 1) := by decide +kernel
theorem d_Law_524 : decode code 524 = .ok (.iconst 1, 1) := by decide +kernel
theorem d_Law_525 : decode code 525 = .ok (.iadd, 1) := by decide +kernel
theorem d_Law_526 : decode code 526 = .ok (.iaload, 1) := by decide +kernel
theorem d_Law_527 : decode code 527 = .ok (.aload_n 0, 1) := by decide +kernel
theorem d_Law_528 : decode code 528 = .ok (.iload_n 3, 1) := by decide +kernel
theorem d_Law_529 : decode code 529 = .ok (.iconst 2, 1) := by decide +kernel
theorem d_Law_530 : decode code 530 = .ok (.iadd, 1) := by decide +kernel
theorem d_Law_531 : decode code 531 = .ok (.iaload, 1) := by decide +kernel
theorem d_Law_532 : decode code 532 = .ok (.aload_n 0, 1) := by decide +kernel
theorem d_Law_533 : decode code 533 = .ok (.iload_n 3, 1) := by decide +kernel
theorem d_Law_534 : decode code 534 = .ok (.iconst 3, 1) := by decide +kernel
theorem d_Law_535 : decode code 535 = .ok (.iadd, 1) := by decide +kernel
theorem d_Law_536 : decode code 536 = .ok (.iaload, 1) := by decide +kernel
theorem d_Law_537 : decode code 537 = .ok (.aload_n 0, 1) := by decide +kernel
theorem d_Law_538 : decode code 538 = .ok (.iload_n 3, 1) := by decide +kernel
theorem d_Law_539 : decode code 539 = .ok (.iconst 4, 1) := by decide +kernel
theorem d_Law_540 : decode code 540 = .ok (.iadd, 1) := by decide +kernel
theorem d_Law_541 : decode code 541 = .ok (.iaload, 1) := by decide +kernel
theorem d_Law_542 : decode code 542 = .ok (.invokevirtual 53, 3) := by decide +kernel
theorem d_Law_545 : decode code 545 = .ok (.pop, 1) := by decide +kernel
theorem d_Law_546 : decode code 546 = .ok (.aload_n 2, 1) := by decide +kernel
theorem d_Law_547 : decode code 547 = .ok (.aload_n 0, 1) := by decide +kernel
theorem d_Law_548 : decode code 548 = .ok (.iload_n 3, 1) := by decide +kernel
theorem d_Law_549 : decode code 549 = .ok (.iconst 1, 1) := by decide +kernel
theorem d_Law_550 : decode code 550 = .ok (.iadd, 1) := by decide +kernel
theorem d_Law_551 : decode code 551 = .ok (.iaload, 1) := by decide +kernel
theorem d_Law_552 : decode code 552 = .ok (.aload_n 0, 1) := by decide +kernel
theorem d_Law_553 : decode code 553 = .ok (.iload_n 3, 1) := by decide +kernel
theorem d_Law_554 : decode code 554 = .ok (.iconst 2, 1) := by decide +kernel
theorem d_Law_555 : decode code 555 = .ok (.iadd, 1) := by decide +kernel
theorem d_Law_556 : decode code 556 = .ok (.iaload, 1) := by decide +kernel
theorem d_Law_557 : decode code 557 = .ok (.aload_n 0, 1) := by decide +kernel
theorem d_Law_558 : decode code 558 = .ok (.iload_n 3, 1) := by decide +kernel
theorem d_Law_559 : decode code 559 = .ok (.iconst 3, 1) := by decide +kernel
theorem d_Law_560 : decode code 560 = .ok (.iadd, 1) := by decide +kernel
theorem d_Law_561 : decode code 561 = .ok (.iaload, 1) := by decide +kernel
theorem d_Law_562 : decode code 562 = .ok (.aload_n 0, 1) := by decide +kernel
theorem d_Law_563 : decode code 563 = .ok (.iload_n 3, 1) := by decide +kernel
theorem d_Law_564 : decode code 564 = .ok (.iconst 4, 1) := by decide +kernel
theorem d_Law_565 : decode code 565 = .ok (.iadd, 1) := by decide +kernel
theorem d_Law_566 : decode code 566 = .ok (.iaload, 1) := by decide +kernel
theorem d_Law_567 : decode code 567 = .ok (.invokevirtual 57, 3) := by decide +kernel
theorem d_Law_570 : decode code 570 = .ok (.pop, 1) := by decide +kernel
theorem d_Law_571 : decode code 571 = .ok (.goto 1197, 3) := by decide +kernel
theorem d_Law_574 : decode code 574 = .ok (.aload_n 1, 1) := by decide +kernel
theorem d_Law_575 : decode code 575 = .ok (.aload_n 0, 1) := by decide +kernel
theorem d_Law_576 : decode code 576 = .ok (.iload_n 3, 1) := by decide +kernel
theorem d_Law_577 : decode code 577 = .ok (.iconst 1, 1) := by decide +kernel
theorem d_Law_578 : decode code 578 = .ok (.iadd, 1) := by decide +kernel
theorem d_Law_579 : decode code 579 = .ok (.iaload, 1) := by decide +kernel
theorem d_Law_580 : decode code 580 = .ok (.aload_n 0, 1) := by decide +kernel
theorem d_Law_581 : decode code 581 = .ok (.iload_n 3, 1) := by decide +kernel
theorem d_Law_582 : decode code 582 = .ok (.iconst 2, 1) := by decide +kernel
theorem d_Law_583 : decode code 583 = .ok (.iadd, 1) := by decide +kernel
theorem d_Law_584 : decode code 584 = .ok (.iaload, 1) := by decide +kernel
theorem d_Law_585 : decode code 585 = .ok (.invokevirtual 58, 3) := by decide +kernel
theorem d_Law_588 : decode code 588 = .ok (.pop, 1) := by decide +kernel
theorem d_Law_589 : decode code 589 = .ok (.aload_n 2, 1) := by decide +kernel
theorem d_Law_590 : decode code 590 = .ok (.aload_n 0, 1) := by decide +kernel
theorem d_Law_591 : decode code 591 = .ok (.iload_n 3, 1) := by decide +kernel
theorem d_Law_592 : decode code 592 = .ok (.iconst 1, 1) := by decide +kernel
theorem d_Law_593 : decode code 593 = .ok (.iadd, 1) := by decide +kernel
theorem d_Law_594 : decode code 594 = .ok (.iaload, 1) := by decide +kernel
theorem d_Law_595 : decode code 595 = .ok (.aload_n 0, 1) := by decide +kernel
theorem d_Law_596 : decode code 596 = .ok (.iload_n 3, 1) := by decide +kernel
theorem d_Law_597 : decode code 597 = .ok (.iconst 2, 1) := by decide +kernel
theorem d_Law_598 : decode code 598 = .ok (.iadd, 1) := by decide +kernel
theorem d_Law_599 : decode code 599 = .ok (.iaload, 1) := by decide +kernel
theorem d_Law_600 : decode code 600 = .ok (.invokevirtual 62, 3) := by decide +kernel
theorem d_Law_603 : decode code 603 = .ok (.pop, 1) := by decide +kernel
theorem d_Law_604 : decode code 604 = .ok (.goto 1164, 3) := by decide +kernel
theorem d_Law_607 : decode code 607 = .ok (.aload_n 1, 1) := by decide +kernel
theorem d_Law_608 : decode code 608 = .ok (.aload_n 0, 1) := by decide +kernel
theorem d_Law_609 : decode code 609 = .ok (.iload_n 3, 1) := by decide +kernel
theorem d_Law_610 : decode code 610 = .ok (.iconst 1, 1) := by decide +kernel
theorem d_Law_611 : decode code 611 = .ok (.iadd, 1) := by decide +kernel
theorem d_Law_612 : decode code 612 = .ok (.iaload, 1) := by decide +kernel
theorem d_Law_613 : decode code 613 = .ok (.aload_n 0, 1) := by decide +kernel
theorem d_Law_614 : decode code 614 = .ok (.iload_n 3, 1) := by decide +kernel
theorem d_Law_615 : decode code 615 = .ok (.iconst 2, 1) := by decide +kernel
theorem d_Law_616 : decode code 616 = .ok (.iadd, 1) := by decide +kernel
theorem d_Law_617 : decode code 617 = .ok (.iaload, 1) := by decide +kernel
theorem d_Law_618 : decode code 618 = .ok (.invokevirtual 63, 3) := by decide +kernel
theorem d_Law_621 : decode code 621 = .ok (.pop, 1) := by decide +kernel
theorem d_Law_622 : decode code 622 = .ok (.aload_n 2, 1) := by decide +kernel
theorem d_Law_623 : decode code 623 = .ok (.aload_n 0, 1) := by decide +kernel
theorem d_Law_624 : decode code 624 = .ok (.iload_n 3, 1) := by decide +kernel
theorem d_Law_625 : decode code 625 = .ok (.iconst 1, 1) := by decide +kernel
theorem d_Law_626 : decode code 626 = .ok (.iadd, 1) := by decide +kernel
theorem d_Law_627 : decode code 627 = .ok (.iaload, 1) := by decide +kernel
theorem d_Law_628 : decode code 628 = .ok (.aload_n 0, 1) := by decide +kernel
theorem d_Law_629 : decode code 629 = .ok (.iload_n 3, 1) := by decide +kernel
theorem d_Law_630 : decode code 630 = .ok (.iconst 2, 1) := by decide +kernel
theorem d_Law_631 : decode code 631 = .ok (.iadd, 1) := by decide +kernel
theorem d_Law_632 : decode code 632 = .ok (.iaload, 1) := by decide +kernel
theorem d_Law_633 : decode code 633 = .ok (.invokevirtual 66, 3) := by decide +kernel
theorem d_Law_636 : decode code 636 = .ok (.pop, 1) := by decide +kernel
theorem d_Law_637 : decode code 637 = .ok (.goto 1131, 3) := by decide +kernel
theorem d_Law_640 : decode code 640 = .ok (.aload_n 1, 1) := by decide +kernel
theorem d_Law_641 : decode code 641 = .ok (.aload_n 0, 1) := by decide +kernel
theorem d_Law_642 : decode code 642 = .ok (.iload_n 3, 1) := by decide +kernel
theorem d_Law_643 : decode code 643 = .ok (.iconst 1, 1) := by decide +kernel
theorem d_Law_644 : decode code 644 = .ok (.iadd, 1) := by decide +kernel
theorem d_Law_645 : decode code 645 = .ok (.iaload, 1) := by decide +kernel
theorem d_Law_646 : decode code 646 = .ok (.aload_n 0, 1) := by decide +kernel
theorem d_Law_647 : decode code 647 = .ok (.iload_n 3, 1) := by decide +kernel
theorem d_Law_648 : decode code 648 = .ok (.iconst 2, 1) := by decide +kernel
theorem d_Law_649 : decode code 649 = .ok (.iadd, 1) := by decide +kernel
theorem d_Law_650 : decode code 650 = .ok (.iaload, 1) := by decide +kernel
theorem d_Law_651 : decode code 651 = .ok (.invokevirtual 67, 3) := by decide +kernel
theorem d_Law_654 : decode code 654 = .ok (.pop, 1) := by decide +kernel
theorem d_Law_655 : decode code 655 = .ok (.aload_n 2, 1) := by decide +kernel
theorem d_Law_656 : decode code 656 = .ok (.aload_n 0, 1) := by decide +kernel
theorem d_Law_657 : decode code 657 = .ok (.iload_n 3, 1) := by decide +kernel
theorem d_Law_658 : decode code 658 = .ok (.iconst 1, 1) := by decide +kernel
theorem d_Law_659 : decode code 659 = .ok (.iadd, 1) := by decide +kernel
theorem d_Law_660 : decode code 660 = .ok (.iaload, 1) := by decide +kernel
theorem d_Law_661 : decode code 661 = .ok (.aload_n 0, 1) := by decide +kernel
theorem d_Law_662 : decode code 662 = .ok (.iload_n 3, 1) := by decide +kernel
theorem d_Law_663 : decode code 663 = .ok (.iconst 2, 1) := by decide +kernel
theorem d_Law_664 : decode code 664 = .ok (.iadd, 1) := by decide +kernel
theorem d_Law_665 : decode code 665 = .ok (.iaload, 1) := by decide +kernel
theorem d_Law_666 : decode code 666 = .ok (.invokevirtual 70, 3) := by decide +kernel
theorem d_Law_669 : decode code 669 = .ok (.pop, 1) := by decide +kernel
theorem d_Law_670 : decode code 670 = .ok (.goto 1098, 3) := by decide +kernel
theorem d_Law_673 : decode code 673 = .ok (.aload_n 1, 1) := by decide +kernel
theorem d_Law_674 : decode code 674 = .ok (.aload_n 0, 1) := by decide +kernel
theorem d_Law_675 : decode code 675 = .ok (.iload_n 3, 1) := by decide +kernel
theorem d_Law_676 : decode code 676 = .ok (.iconst 1, 1) := by decide +kernel
theorem d_Law_677 : decode code 677 = .ok (.iadd, 1) := by decide +kernel
theorem d_Law_678 : decode code 678 = .ok (.iaload, 1) := by decide +kernel
theorem d_Law_679 : decode code 679 = .ok (.aload_n 0, 1) := by decide +kernel
theorem d_Law_680 : decode code 680 = .ok (.iload_n 3, 1) := by decide +kernel
theorem d_Law_681 : decode code 681 = .ok (.iconst 2, 1) := by decide +kernel
theorem d_Law_682 : decode code 682 = .ok (.iadd, 1) := by decide +kernel
theorem d_Law_683 : decode code 683 = .ok (.iaload, 1) := by decide +kernel
theorem d_Law_684 : decode code 684 = .ok (.invokevirtual 71, 3) := by decide +kernel
theorem d_Law_687 : decode code 687 = .ok (.pop, 1) := by decide +kernel
theorem d_Law_688 : decode code 688 = .ok (.aload_n 2, 1) := by decide +kernel
theorem d_Law_689 : decode code 689 = .ok (.aload_n 0, 1) := by decide +kernel
theorem d_Law_690 : decode code 690 = .ok (.iload_n 3, 1) := by decide +kernel
theorem d_Law_691 : decode code 691 = .ok (.iconst 1, 1) := by decide +kernel
theorem d_Law_692 : decode code 692 = .ok (.iadd, 1) := by decide +kernel
theorem d_Law_693 : decode code 693 = .ok (.iaload, 1) := by decide +kernel
theorem d_Law_694 : decode code 694 = .ok (.aload_n 0, 1) := by decide +kernel
theorem d_Law_695 : decode code 695 = .ok (.iload_n 3, 1) := by decide +kernel
theorem d_Law_696 : decode code 696 = .ok (.iconst 2, 1) := by decide +kernel
theorem d_Law_697 : decode code 697 = .ok (.iadd, 1) := by decide +kernel
theorem d_Law_698 : decode code 698 = .ok (.iaload, 1) := by decide +kernel
theorem d_Law_699 : decode code 699 = .ok (.invokevirtual 74, 3) := by decide +kernel
theorem d_Law_702 : decode code 702 = .ok (.pop, 1) := by decide +kernel
theorem d_Law_703 : decode code 703 = .ok (.goto 1065, 3) := by decide +kernel
theorem d_Law_706 : decode code 706 = .ok (.aload_n 1, 1) := by decide +kernel
theorem d_Law_707 : decode code 707 = .ok (.aload_n 0, 1) := by decide +kernel
theorem d_Law_708 : decode code 708 = .ok (.iload_n 3, 1) := by decide +kernel
theorem d_Law_709 : decode code 709 = .ok (.iconst 1, 1) := by decide +kernel
theorem d_Law_710 : decode code 710 = .ok (.iadd, 1) := by decide +kernel
theorem d_Law_711 : decode code 711 = .ok (.iaload, 1) := by decide +kernel
theorem d_Law_712 : decode code 712 = .ok (.invokevirtual 75, 3) := by decide +kernel
theorem d_Law_715 : decode code 715 = .ok (.pop, 1) := by decide +kernel
theorem d_Law_716 : decode code 716 = .ok (.aload_n 2, 1) := by decide +kernel
theorem d_Law_717 : decode code 717 = .ok (.aload_n 0, 1) := by decide +kernel
theorem d_Law_718 : decode code 718 = .ok (.iload_n 3, 1) := by decide +kernel
theorem d_Law_719 : decode code 719 = .ok (.iconst 1, 1) := by decide +kernel
theorem d_Law_720 : decode code 720 = .ok (.iadd, 1) := by decide +kernel
theorem d_Law_721 : decode code 721 = .ok (.iaload, 1) := by decide +kernel
theorem d_Law_722 : decode code 722 = .ok (.invokevirtual 78, 3) := by decide +kernel
theorem d_Law_725 : decode code 725 = .ok (.pop, 1) := by decide +kernel
theorem d_Law_726 : decode code 726 = .ok (.goto 1042, 3) := by decide +kernel
theorem d_Law_729 : decode code 729 = .ok (.aload_n 1, 1) := by decide +kernel
theorem d_Law_730 : decode code 730 = .ok (.aload_n 0, 1) := by decide +kernel
theorem d_Law_731 : decode code 731 = .ok (.iload_n 3, 1) := by decide +kernel
theorem d_Law_732 : decode code 732 = .ok (.iconst 1, 1) := by decide +kernel
theorem d_Law_733 : decode code 733 = .ok (.iadd, 1) := by decide +kernel
theorem d_Law_734 : decode code 734 = .ok (.iaload, 1) := by decide +kernel
theorem d_Law_735 : decode code 735 = .ok (.aload_n 0, 1) := by decide +kernel
theorem d_Law_736 : decode code 736 = .ok (.iload_n 3, 1) := by decide +kernel
theorem d_Law_737 : decode code 737 = .ok (.iconst 2, 1) := by decide +kernel
theorem d_Law_738 : decode code 738 = .ok (.iadd, 1) := by decide +kernel
theorem d_Law_739 : decode code 739 = .ok (.iaload, 1) := by decide +kernel
theorem d_Law_740 : decode code 740 = .ok (.invokevirtual 79, 3) := by decide +kernel
theorem d_Law_743 : decode code 743 = .ok (.pop, 1) := by decide +kernel
theorem d_Law_744 : decode code 744 = .ok (.aload_n 2, 1) := by decide +kernel
theorem d_Law_745 : decode code 745 = .ok (.aload_n 0, 1) := by decide +kernel
theorem d_Law_746 : decode code 746 = .ok (.iload_n 3, 1) := by decide +kernel
theorem d_Law_747 : decode code 747 = .ok (.iconst 1, 1) := by decide +kernel
theorem d_Law_748 : decode code 748 = .ok (.iadd, 1) := by decide +kernel
theorem d_Law_749 : decode code 749 = .ok (.iaload, 1) := by decide +kernel
theorem d_Law_750 : decode code 750 = .ok (.aload_n 0, 1) := by decide +kernel
theorem d_Law_751 : decode code 751 = .ok (.iload_n 3, 1) := by decide +kernel
theorem d_Law_752 : decode code 752 = .ok (.iconst 2, 1) := by decide +kernel
theorem d_Law_753 : decode code 753 = .ok (.iadd, 1) := by decide +kernel
theorem d_Law_754 : decode code 754 = .ok (.iaload, 1) := by decide +kernel
theorem d_Law_755 : decode code 755 = .ok (.invokevirtual 82, 3) := by decide +kernel
theorem d_Law_758 : decode code 758 = .ok (.pop, 1) := by decide +kernel
theorem d_Law_759 : decode code 759 = .ok (.goto 1009, 3) := by decide +kernel
theorem d_Law_762 : decode code 762 = .ok (.aload_n 1, 1) := by decide +kernel
theorem d_Law_763 : decode code 763 = .ok (.aload_n 0, 1) := by decide +kernel
theorem d_Law_764 : decode code 764 = .ok (.iload_n 3, 1) := by decide +kernel
theorem d_Law_765 : decode code 765 = .ok (.iconst 1, 1) := by decide +kernel
theorem d_Law_766 : decode code 766 = .ok (.iadd, 1) := by decide +kernel
theorem d_Law_767 : decode code 767 = .ok (.iaload, 1) := by decide +kernel
theorem d_Law_768 : decode code 768 = .ok (.aload_n 0, 1) := by decide +kernel
theorem d_Law_769 : decode code 769 = .ok (.iload_n 3, 1) := by decide +kernel
theorem d_Law_770 : decode code 770 = .ok (.iconst 2, 1) := by decide +kernel
theorem d_Law_771 : decode code 771 = .ok (.iadd, 1) := by decide +kernel
theorem d_Law_772 : decode code 772 = .ok (.iaload, 1) := by decide +kernel
theorem d_Law_773 : decode code 773 = .ok (.aload_n 0, 1) := by decide +kernel
theorem d_Law_774 : decode code 774 = .ok (.iload_n 3, 1) := by decide +kernel
theorem d_Law_775 : decode code 775 = .ok (.iconst 3, 1) := by decide +kernel
theorem d_Law_776 : decode code 776 = .ok (.iadd, 1) := by decide +kernel
theorem d_Law_777 : decode code 777 = .ok (.iaload, 1) := by decide +kernel
theorem d_Law_778 : decode code 778 = .ok (.invokevirtual 83, 3) := by decide +kernel
theorem d_Law_781 : decode code 781 = .ok (.pop, 1) := by decide +kernel
theorem d_Law_782 : decode code 782 = .ok (.aload_n 2, 1) := by decide +kernel
theorem d_Law_783 : decode code 783 = .ok (.aload_n 0, 1) := by decide +kernel
theorem d_Law_784 : decode code 784 = .ok (.iload_n 3, 1) := by decide +kernel
theorem d_Law_785 : decode code 785 = .ok (.iconst 1, 1) := by decide +kernel
theorem d_Law_786 : decode code 786 = .ok (.iadd, 1) := by decide +kernel
theorem d_Law_787 : decode code 787 = .ok (.iaload, 1) := by decide +kernel
theorem d_Law_788 : decode code 788 = .ok (.aload_n 0, 1) := by decide +kernel
theorem d_Law_789 : decode code 789 = .ok (.iload_n 3, 1) := by decide +kernel
theorem d_Law_790 : decode code 790 = .ok (.iconst 2, 1) := by decide +kernel
theorem d_Law_791 : decode code 791 = .ok (.iadd, 1) := by decide +kernel
theorem d_Law_792 : decode code 792 = .ok (.iaload, 1) := by decide +kernel
theorem d_Law_793 : decode code 793 = .ok (.aload_n 0, 1) := by decide +kernel
theorem d_Law_794 : decode code 794 = .ok (.iload_n 3, 1) := by decide +kernel
theorem d_Law_795 : decode code 795 = .ok (.iconst 3, 1) := by decide +kernel
theorem d_Law_796 : decode code 796 = .ok (.iadd, 1) := by decide +kernel
theorem d_Law_797 : decode code 797 = .ok (.iaload, 1) := by decide +kernel
theorem d_Law_798 : decode code 798 = .ok (.invokevirtual 86, 3) := by decide +kernel
theorem d_Law_801 : decode code 801 = .ok (.pop, 1) := by decide +kernel
theorem d_Law_802 : decode code 802 = .ok (.goto 966, 3) := by decide +kernel
theorem d_Law_805 : decode code 805 = .ok (.aload_n 1, 1) := by decide +kernel
theorem d_Law_806 : decode code 806 = .ok (.aload_n 0, 1) := by decide +kernel
theorem d_Law_807 : decode code 807 = .ok (.iload_n 3, 1) := by decide +kernel
theorem d_Law_808 : decode code 808 = .ok (.iconst 1, 1) := by decide +kernel
theorem d_Law_809 : decode code 809 = .ok (.iadd, 1) := by decide +kernel
theorem d_Law_810 : decode code 810 = .ok (.iaload, 1) := by decide +kernel
theorem d_Law_811 : decode code 811 = .ok (.aload_n 0, 1) := by decide +kernel
theorem d_Law_812 : decode code 812 = .ok (.iload_n 3, 1) := by decide +kernel
theorem d_Law_813 : decode code 813 = .ok (.iconst 2, 1) := by decide +kernel
theorem d_Law_814 : decode code 814 = .ok (.iadd, 1) := by decide +kernel
theorem d_Law_815 : decode code 815 = .ok (.iaload, 1) := by decide +kernel
theorem d_Law_816 : decode code 816 = .ok (.invokevirtual 87, 3) := by decide +kernel
theorem d_Law_819 : decode code 819 = .ok (.pop, 1) := by decide +kernel
theorem d_Law_820 : decode code 820 = .ok (.aload_n 2, 1) := by decide +kernel
theorem d_Law_821 : decode code 821 = .ok (.aload_n 0, 1) := by decide +kernel
theorem d_Law_822 : decode code 822 = .ok (.iload_n 3, 1) := by decide +kernel
theorem d_Law_823 : decode code 823 = .ok (.iconst 1, 1) := by decide +kernel
theorem d_Law_824 : decode code 824 = .ok (.iadd, 1) := by decide +kernel
theorem d_Law_825 : decode code 825 = .ok (.iaload, 1) := by decide +kernel
theorem d_Law_826 : decode code 826 = .ok (.aload_n 0, 1) := by decide +kernel
theorem d_Law_827 : decode code 827 = .ok (.iload_n 3, 1) := by decide +kernel
theorem d_Law_828 : decode code 828 = .ok (.iconst 2, 1) := by decide +kernel
theorem d_Law_829 : decode code 829 = .ok (.iadd, 1) := by decide +kernel
theorem d_Law_830 : decode code 830 = .ok (.iaload, 1) := by decide +kernel
theorem d_Law_831 : decode code 831 = .ok (.invokevirtual 90, 3) := by decide +kernel
theorem d_Law_834 : decode code 834 = .ok (.pop, 1) := by decide +kernel
theorem d_Law_835 : decode code 835 = .ok (.goto 933, 3) := by decide +kernel
theorem d_Law_838 : decode code 838 = .ok (.aload_n 1, 1) := by decide +kernel
theorem d_Law_839 : decode code 839 = .ok (.aload_n 0, 1) := by decide +kernel
theorem d_Law_840 : decode code 840 = .ok (.iload_n 3, 1) := by decide +kernel
theorem d_Law_841 : decode code 841 = .ok (.iconst 1, 1) := by decide +kernel
theorem d_Law_842 : decode code 842 = .ok (.iadd, 1) := by decide +kernel
theorem d_Law_843 : decode code 843 = .ok (.iaload, 1) := by decide +kernel
theorem d_Law_844 : decode code 844 = .ok (.aload_n 0, 1) := by decide +kernel
theorem d_Law_845 : decode code 845 = .ok (.iload_n 3, 1) := by decide +kernel
theorem d_Law_846 : decode code 846 = .ok (.iconst 2, 1) := by decide +kernel
theorem d_Law_847 : decode code 847 = .ok (.iadd, 1) := by decide +kernel
theorem d_Law_848 : decode code 848 = .ok (.iaload, 1) := by decide +kernel
theorem d_Law_849 : decode code 849 = .ok (.aload_n 0, 1) := by decide +kernel
theorem d_Law_850 : decode code 850 = .ok (.iload_n 3, 1) := by decide +kernel
theorem d_Law_851 : decode code 851 = .ok (.iconst 3, 1) := by decide +kernel
theorem d_Law_852 : decode code 852 = .ok (.iadd, 1) := by decide +kernel
theorem d_Law_853 : decode code 853 = .ok (.iaload, 1) := by decide +kernel
theorem d_Law_854 : decode code 854 = .ok (.ifCond .eq 7, 3) := by decide +kernel
theorem d_Law_857 : decode code 857 = .ok (.iconst 1, 1) := by decide +kernel
theorem d_Law_858 : decode code 858 = .ok (.goto 4, 3) := by decide +kernel
theorem d_Law_861 : decode code 861 = .ok (.iconst 0, 1) := by decide +kernel
theorem d_Law_862 : decode code 862 = .ok (.aload_n 0, 1) := by decide +kernel
theorem d_Law_863 : decode code 863 = .ok (.iload_n 3, 1) := by decide +kernel
theorem d_Law_864 : decode code 864 = .ok (.iconst 4, 1) := by decide +kernel
theorem d_Law_865 : decode code 865 = .ok (.iadd, 1) := by decide +kernel
theorem d_Law_866 : decode code 866 = .ok (.iaload, 1) := by decide +kernel
theorem d_Law_867 : decode code 867 = .ok (.invokevirtual 91, 3) := by decide +kernel
theorem d_Law_870 : decode code 870 = .ok (.pop, 1) := by decide +kernel
theorem d_Law_871 : decode code 871 = .ok (.aload_n 2, 1) := by decide +kernel
theorem d_Law_872 : decode code 872 = .ok (.aload_n 0, 1) := by decide +kernel
theorem d_Law_873 : decode code 873 = .ok (.iload_n 3, 1) := by decide +kernel
theorem d_Law_874 : decode code 874 = .ok (.iconst 1, 1) := by decide +kernel
theorem d_Law_875 : decode code 875 = .ok (.iadd, 1) := by decide +kernel
theorem d_Law_876 : decode code 876 = .ok (.iaload, 1) := by decide +kernel
theorem d_Law_877 : decode code 877 = .ok (.aload_n 0, 1) := by decide +kernel
theorem d_Law_878 : decode code 878 = .ok (.iload_n 3, 1) := by decide +kernel
theorem d_Law_879 : decode code 879 = .ok (.iconst 2, 1) := by decide +kernel
theorem d_Law_880 : decode code 880 = .ok (.iadd, 1) := by decide +kernel
theorem d_Law_881 : decode code 881 = .ok (.iaload, 1) := by decide +kernel
theorem d_Law_882 : decode code 882 = .ok (.aload_n 0, 1) := by decide +kernel
theorem d_Law_883 : decode code 883 = .ok (.iload_n 3, 1) := by decide +kernel
theorem d_Law_884 : decode code 884 = .ok (.iconst 3, 1) := by decide +kernel
theorem d_Law_885 : decode code 885 = .ok (.iadd, 1) := by decide +kernel
theorem d_Law_886 : decode code 886 = .ok (.iaload, 1) := by decide +kernel
theorem d_Law_887 : decode code 887 = .ok (.ifCond .eq 7, 3) := by decide +kernel
theorem d_Law_890 : decode code 890 = .ok (.iconst 1, 1) := by decide +kernel
theorem d_Law_891 : decode code 891 = .ok (.goto 4, 3) := by decide +kernel
theorem d_Law_894 : decode code 894 = .ok (.iconst 0, 1) := by decide +kernel
theorem d_Law_895 : decode code 895 = .ok (.aload_n 0, 1) := by decide +kernel
theorem d_Law_896 : decode code 896 = .ok (.iload_n 3, 1) := by decide +kernel
theorem d_Law_897 : decode code 897 = .ok (.iconst 4, 1) := by decide +kernel
theorem d_Law_898 : decode code 898 = .ok (.iadd, 1) := by decide +kernel
theorem d_Law_899 : decode code 899 = .ok (.iaload, 1) := by decide +kernel
theorem d_Law_900 : decode code 900 = .ok (.invokevirtual 95, 3) := by decide +kernel
theorem d_Law_903 : decode code 903 = .ok (.pop, 1) := by decide +kernel
theorem d_Law_904 : decode code 904 = .ok (.goto 864, 3) := by decide +kernel
theorem d_Law_907 : decode code 907 = .ok (.aload_n 1, 1) := by decide +kernel
theorem d_Law_908 : decode code 908 = .ok (.aload_n 0, 1) := by decide +kernel
theorem d_Law_909 : decode code 909 = .ok (.iload_n 3, 1) := by decide +kernel
theorem d_Law_910 : decode code 910 = .ok (.iconst 1, 1) := by decide +kernel
theorem d_Law_911 : decode code 911 = .ok (.iadd, 1) := by decide +kernel
theorem d_Law_912 : decode code 912 = .ok (.iaload, 1) := by decide +kernel
theorem d_Law_913 : decode code 913 = .ok (.aload_n 0, 1) := by decide +kernel
theorem d_Law_914 : decode code 914 = .ok (.iload_n 3, 1) := by decide +kernel
theorem d_Law_915 : decode code 915 = .ok (.iconst 2, 1) := by decide +kernel
theorem d_Law_916 : decode code 916 = .ok (.iadd, 1) := by decide +kernel
theorem d_Law_917 : decode code 917 = .ok (.iaload, 1) := by decide +kernel
theorem d_Law_918 : decode code 918 = .ok (.aload_n 0, 1) := by decide +kernel
theorem d_Law_919 : decode code 919 = .ok (.iload_n 3, 1) := by decide +kernel
theorem d_Law_920 : decode code 920 = .ok (.iconst 3, 1) := by decide +kernel
theorem d_Law_921 : decode code 921 = .ok (.iadd, 1) := by decide +kernel
theorem d_Law_922 : decode code 922 = .ok (.iaload, 1) := by decide +kernel
theorem d_Law_923 : decode code 923 = .ok (.invokevirtual 96, 3) := by decide +kernel
theorem d_Law_926 : decode code 926 = .ok (.pop, 1) := by decide +kernel
theorem d_Law_927 : decode code 927 = .ok (.aload_n 2, 1) := by decide +kernel
theorem d_Law_928 : decode code 928 = .ok (.aload_n 0, 1) := by decide +kernel
theorem d_Law_929 : decode code 929 = .ok (.iload_n 3, 1) := by decide +kernel
theorem d_Law_930 : decode code 930 = .ok (.iconst 1, 1) := by decide +kernel
theorem d_Law_931 : decode code 931 = .ok (.iadd, 1) := by decide +kernel
theorem d_Law_932 : decode code 932 = .ok (.iaload, 1) := by decide +kernel
theorem d_Law_933 : decode code 933 = .ok (.aload_n 0, 1) := by decide +kernel
theorem d_Law_934 : decode code 934 = .ok (.iload_n 3, 1) := by decide +kernel
theorem d_Law_935 : decode code 935 = .ok (.iconst 2, 1) := by decide +kernel
theorem d_Law_936 : decode code 936 = .ok (.iadd, 1) := by decide +kernel
theorem d_Law_937 : decode code 937 = .ok (.iaload, 1) := by decide +kernel
theorem d_Law_938 : decode code 938 = .ok (.aload_n 0, 1) := by decide +kernel
theorem d_Law_939 : decode code 939 = .ok (.iload_n 3, 1) := by decide +kernel
theorem d_Law_940 : decode code 940 = .ok (.iconst 3, 1) := by decide +kernel
theorem d_Law_941 : decode code 941 = .ok (.iadd, 1) := by decide +kernel
theorem d_Law_942 : decode code 942 = .ok (.iaload, 1) := by decide +kernel
theorem d_Law_943 : decode code 943 = .ok (.invokevirtual 99, 3) := by decide +kernel
theorem d_Law_946 : decode code 946 = .ok (.pop, 1) := by decide +kernel
theorem d_Law_947 : decode code 947 = .ok (.goto 821, 3) := by decide +kernel
theorem d_Law_950 : decode code 950 = .ok (.aload_n 1, 1) := by decide +kernel
theorem d_Law_951 : decode code 951 = .ok (.aload_n 0, 1) := by decide +kernel
theorem d_Law_952 : decode code 952 = .ok (.iload_n 3, 1) := by decide +kernel
theorem d_Law_953 : decode code 953 = .ok (.iconst 1, 1) := by decide +kernel
theorem d_Law_954 : decode code 954 = .ok (.iadd, 1) := by decide +kernel
theorem d_Law_955 : decode code 955 = .ok (.iaload, 1) := by decide +kernel
theorem d_Law_956 : decode code 956 = .ok (.aload_n 0, 1) := by decide +kernel
theorem d_Law_957 : decode code 957 = .ok (.iload_n 3, 1) := by decide +kernel
theorem d_Law_958 : decode code 958 = .ok (.iconst 2, 1) := by decide +kernel
theorem d_Law_959 : decode code 959 = .ok (.iadd, 1) := by decide +kernel
theorem d_Law_960 : decode code 960 = .ok (.iaload, 1) := by decide +kernel
theorem d_Law_961 : decode code 961 = .ok (.aload_n 0, 1) := by decide +kernel
theorem d_Law_962 : decode code 962 = .ok (.iload_n 3, 1) := by decide +kernel
theorem d_Law_963 : decode code 963 = .ok (.iconst 3, 1) := by decide +kernel
theorem d_Law_964 : decode code 964 = .ok (.iadd, 1) := by decide +kernel
theorem d_Law_965 : decode code 965 = .ok (.iaload, 1) := by decide +kernel
theorem d_Law_966 : decode code 966 = .ok (.invokevirtual 100, 3) := by decide +kernel
theorem d_Law_969 : decode code 969 = .ok (.pop, 1) := by decide +kernel
theorem d_Law_970 : decode code 970 = .ok (.aload_n 2, 1) := by decide +kernel
theorem d_Law_971 : decode code 971 = .ok (.aload_n 0, 1) := by decide +kernel
theorem d_Law_972 : decode code 972 = .ok (.iload_n 3, 1) := by decide +kernel
theorem d_Law_973 : decode code 973 = .ok (.iconst 1, 1) := by decide +kernel
theorem d_Law_974 : decode code 974 = .ok (.iadd, 1) := by decide +kernel
theorem d_Law_975 : decode code 975 = .ok (.iaload, 1) := by decide +kernel
theorem d_Law_976 : decode code 976 = .ok (.aload_n 0, 1) := by decide +kernel
theorem d_Law_977 : decode code 977 = .ok (.iload_n 3, 1) := by decide +kernel
theorem d_Law_978 : decode code 978 = .ok (.iconst 2, 1) := by decide +kernel
theorem d_Law_979 : decode code 979 = .ok (.iadd, 1) := by decide +kernel
theorem d_Law_980 : decode code 980 = .ok (.iaload, 1) := by decide +kernel
theorem d_Law_981 : decode code 981 = .ok (.aload_n 0, 1) := by decide +kernel
theorem d_Law_982 : decode code 982 = .ok (.iload_n 3, 1) := by decide +kernel
theorem d_Law_983 : decode code 983 = .ok (.iconst 3, 1) := by decide +kernel
theorem d_Law_984 : decode code 984 = .ok (.iadd, 1) := by decide +kernel
theorem d_Law_985 : decode code 985 = .ok (.iaload, 1) := by decide +kernel
theorem d_Law_986 : decode code 986 = .ok (.invokevirtual 103, 3) := by decide +kernel
theorem d_Law_989 : decode code 989 = .ok (.pop, 1) := by decide +kernel
theorem d_Law_990 : decode code 990 = .ok (.goto 778, 3) := by decide +kernel
theorem d_Law_993 : decode code 993 = .ok (.aload_n 1, 1) := by decide +kernel
theorem d_Law_994 : decode code 994 = .ok (.aload_n 0, 1) := by decide +kernel
theorem d_Law_995 : decode code 995 = .ok (.iload_n 3, 1) := by decide +kernel
theorem d_Law_996 : decode code 996 = .ok (.iconst 1, 1) := by decide +kernel
theorem d_Law_997 : decode code 997 = .ok (.iadd, 1) := by decide +kernel
theorem d_Law_998 : decode code 998 = .ok (.iaload, 1) := by decide +kernel
theorem d_Law_999 : decode code 999 = .ok (.aload_n 0, 1) := by decide +kernel
theorem d_Law_1000 : decode code 1000 = .ok (.iload_n 3, 1) := by decide +kernel
theorem d_Law_1001 : decode code 1001 = .ok (.iconst 2, 1) := by decide +kernel
theorem d_Law_1002 : decode code 1002 = .ok (.iadd, 1) := by decide +kernel
theorem d_Law_1003 : decode code 1003 = .ok (.iaload, 1) := by decide +kernel
theorem d_Law_1004 : decode code 1004 = .ok (.invokevirtual 104, 3) := by decide +kernel
theorem d_Law_1007 : decode code 1007 = .ok (.pop, 1) := by decide +kernel
theorem d_Law_1008 : decode code 1008 = .ok (.aload_n 2, 1) := by decide +kernel
theorem d_Law_1009 : decode code 1009 = .ok (.aload_n 0, 1) := by decide +kernel
theorem d_Law_1010 : decode code 1010 = .ok (.iload_n 3, 1) := by decide +kernel
theorem d_Law_1011 : decode code 1011 = .ok (.iconst 1, 1) := by decide +kernel
theorem d_Law_1012 : decode code 1012 = .ok (.iadd, 1) := by decide +kernel
theorem d_Law_1013 : decode code 1013 = .ok (.iaload, 1) := by decide +kernel
theorem d_Law_1014 : decode code 1014 = .ok (.aload_n 0, 1) := by decide +kernel
theorem d_Law_1015 : decode code 1015 = .ok (.iload_n 3, 1) := by decide +kernel
theorem d_Law_1016 : decode code 1016 = .ok (.iconst 2, 1) := by decide +kernel
theorem d_Law_1017 : decode code 1017 = .ok (.iadd, 1) := by decide +kernel
theorem d_Law_1018 : decode code 1018 = .ok (.iaload, 1) := by decide +kernel
theorem d_Law_1019 : decode code 1019 = .ok (.invokevirtual 107, 3) := by decide +kernel
theorem d_Law_1022 : decode code 1022 = .ok (.pop, 1) := by decide +kernel
theorem d_Law_1023 : decode code 1023 = .ok (.goto 745, 3) := by decide +kernel
theorem d_Law_1026 : decode code 1026 = .ok (.aload_n 1, 1) := by decide +kernel
theorem d_Law_1027 : decode code 1027 = .ok (.aload_n 0, 1) := by decide +kernel
theorem d_Law_1028 : decode code 1028 = .ok (.iload_n 3, 1) := by decide +kernel
theorem d_Law_1029 : decode code 1029 = .ok (.iconst 1, 1) := by decide +kernel
theorem d_Law_1030 : decode code 1030 = .ok (.iadd, 1) := by decide +kernel
theorem d_Law_1031 : decode code 1031 = .ok (.iaload, 1) := by decide +kernel
theorem d_Law_1032 : decode code 1032 = .ok (.invokevirtual 108, 3) := by decide +kernel
theorem d_Law_1035 : decode code 1035 = .ok (.pop, 1) := by decide +kernel
theorem d_Law_1036 : decode code 1036 = .ok (.aload_n 2, 1) := by decide +kernel
theorem d_Law_1037 : decode code 1037 = .ok (.aload_n 0, 1) := by decide +kernel
theorem d_Law_1038 : decode code 1038 = .ok (.iload_n 3, 1) := by decide +kernel
theorem d_Law_1039 : decode code 1039 = .ok (.iconst 1, 1) := by decide +kernel
theorem d_Law_1040 : decode code 1040 = .ok (.iadd, 1) := by decide +kernel
theorem d_Law_1041 : decode code 1041 = .ok (.iaload, 1) := by decide +kernel
theorem d_Law_1042 : decode code 1042 = .ok (.invokevirtual 111, 3) := by decide +kernel
theorem d_Law_1045 : decode code 1045 = .ok (.pop, 1) := by decide +kernel
theorem d_Law_1046 : decode code 1046 = .ok (.goto 722, 3) := by decide +kernel
theorem d_Law_1049 : decode code 1049 = .ok (.aload_n 1, 1) := by decide +kernel
theorem d_Law_1050 : decode code 1050 = .ok (.aload_n 0, 1) := by decide +kernel
theorem d_Law_1051 : decode code 1051 = .ok (.iload_n 3, 1) := by decide +kernel
theorem d_Law_1052 : decode code 1052 = .ok (.iconst 1, 1) := by decide +kernel
theorem d_Law_1053 : decode code 1053 = .ok (.iadd, 1) := by decide +kernel
theorem d_Law_1054 : decode code 1054 = .ok (.iaload, 1) := by decide +kernel
theorem d_Law_1055 : decode code 1055 = .ok (.aload_n 0, 1) := by decide +kernel
theorem d_Law_1056 : decode code 1056 = .ok (.iload_n 3, 1) := by decide +kernel
theorem d_Law_1057 : decode code 1057 = .ok (.iconst 2, 1) := by decide +kernel
theorem d_Law_1058 : decode code 1058 = .ok (.iadd, 1) := by decide +kernel
theorem d_Law_1059 : decode code 1059 = .ok (.iaload, 1) := by decide +kernel
theorem d_Law_1060 : decode code 1060 = .ok (.aload_n 0, 1) := by decide +kernel
theorem d_Law_1061 : decode code 1061 = .ok (.iload_n 3, 1) := by decide +kernel
theorem d_Law_1062 : decode code 1062 = .ok (.iconst 3, 1) := by decide +kernel
theorem d_Law_1063 : decode code 1063 = .ok (.iadd, 1) := by decide +kernel
theorem d_Law_1064 : decode code 1064 = .ok (.iaload, 1) := by decide +kernel
theorem d_Law_1065 : decode code 1065 = .ok (.aload_n 0, 1) := by decide +kernel
theorem d_Law_1066 : decode code 1066 = .ok (.iload_n 3, 1) := by decide +kernel
theorem d_Law_1067 : decode code 1067 = .ok (.iconst 4, 1) := by decide +kernel
theorem d_Law_1068 : decode code 1068 = .ok (.iadd, 1) := by decide +kernel
theorem d_Law_1069 : decode code 1069 = .ok (.iaload, 1) := by decide +kernel
theorem d_Law_1070 : decode code 1070 = .ok (.ifCond .eq 7, 3) := by decide +kernel
theorem d_Law_1073 : decode code 1073 = .ok (.iconst 1, 1) := by decide +kernel
theorem d_Law_1074 : decode code 1074 = .ok (.goto 4, 3) := by decide +kernel
theorem d_Law_1077 : decode code 1077 = .ok (.iconst 0, 1) := by decide +kernel
theorem d_Law_1078 : decode code 1078 = .ok (.invokevirtual 112, 3) := by decide +kernel
theorem d_Law_1081 : decode code 1081 = .ok (.pop, 1) := by decide +kernel
theorem d_Law_1082 : decode code 1082 = .ok (.aload_n 2, 1) := by decide +kernel
theorem d_Law_1083 : decode code 1083 = .ok (.aload_n 0, 1) := by decide +kernel
theorem d_Law_1084 : decode code 1084 = .ok (.iload_n 3, 1) := by decide +kernel
theorem d_Law_1085 : decode code 1085 = .ok (.iconst 1, 1) := by decide +kernel
theorem d_Law_1086 : decode code 1086 = .ok (.iadd, 1) := by decide +kernel
theorem d_Law_1087 : decode code 1087 = .ok (.iaload, 1) := by decide +kernel
theorem d_Law_1088 : decode code 1088 = .ok (.aload_n 0, 1) := by decide +kernel
theorem d_Law_1089 : decode code 1089 = .ok (.iload_n 3, 1) := by decide +kernel
theorem d_Law_1090 : decode code 1090 = .ok (.iconst 2, 1) := by decide +kernel
theorem d_Law_1091 : decode code 1091 = .ok (.iadd, 1) := by decide +kernel
theorem d_Law_1092 : decode code 1092 = .ok (.iaload, 1) := by decide +kernel
theorem d_Law_1093 : decode code 1093 = .ok (.aload_n 0, 1) := by decide +kernel
theorem d_Law_1094 : decode code 1094 = .ok (.iload_n 3, 1) := by decide +kernel
theorem d_Law_1095 : decode code 1095 = .ok (.iconst 3, 1) := by decide +kernel
theorem d_Law_1096 : decode code 1096 = .ok (.iadd, 1) := by decide +kernel
theorem d_Law_1097 : decode code 1097 = .ok (.iaload, 1) := by decide +kernel
theorem d_Law_1098 : decode code 1098 = .ok (.aload_n 0, 1) := by decide +kernel
theorem d_Law_1099 : decode code 1099 = .ok (.iload_n 3, 1) := by decide +kernel
theorem d_Law_1100 : decode code 1100 = .ok (.iconst 4, 1) := by decide +kernel
theorem d_Law_1101 : decode code 1101 = .ok (.iadd, 1) := by decide +kernel
theorem d_Law_1102 : decode code 1102 = .ok (.iaload, 1) := by decide +kernel
theorem d_Law_1103 : decode code 1103 = .ok (.ifCond .eq 7, 3) := by decide +kernel
theorem d_Law_1106 : decode code 1106 = .ok (.iconst 1, 1) := by decide +kernel
theorem d_Law_1107 : decode code 1107 = .ok (.goto 4, 3) := by decide +kernel
theorem d_Law_1110 : decode code 1110 = .ok (.iconst 0, 1) := by decide +kernel
theorem d_Law_1111 : decode code 1111 = .ok (.invokevirtual 116, 3) := by decide +kernel
theorem d_Law_1114 : decode code 1114 = .ok (.pop, 1) := by decide +kernel
theorem d_Law_1115 : decode code 1115 = .ok (.goto 653, 3) := by decide +kernel
theorem d_Law_1118 : decode code 1118 = .ok (.aload_n 1, 1) := by decide +kernel
theorem d_Law_1119 : decode code 1119 = .ok (.aload_n 0, 1) := by decide +kernel
theorem d_Law_1120 : decode code 1120 = .ok (.iload_n 3, 1) := by decide +kernel
theorem d_Law_1121 : decode code 1121 = .ok (.iconst 1, 1) := by decide +kernel
theorem d_Law_1122 : decode code 1122 = .ok (.iadd, 1) := by decide +kernel
theorem d_Law_1123 : decode code 1123 = .ok (.iaload, 1) := by decide +kernel
theorem d_Law_1124 : decode code 1124 = .ok (.aload_n 0, 1) := by decide +kernel
theorem d_Law_1125 : decode code 1125 = .ok (.iload_n 3, 1) := by decide +kernel
theorem d_Law_1126 : decode code 1126 = .ok (.iconst 2, 1) := by decide +kernel
theorem d_Law_1127 : decode code 1127 = .ok (.iadd, 1) := by decide +kernel
theorem d_Law_1128 : decode code 1128 = .ok (.iaload, 1) := by decide +kernel
theorem d_Law_1129 : decode code 1129 = .ok (.invokevirtual 117, 3) := by decide +kernel
theorem d_Law_1132 : decode code 1132 = .ok (.pop, 1) := by decide +kernel
theorem d_Law_1133 : decode code 1133 = .ok (.aload_n 2, 1) := by decide +kernel
theorem d_Law_1134 : decode code 1134 = .ok (.aload_n 0, 1) := by decide +kernel
theorem d_Law_1135 : decode code 1135 = .ok (.iload_n 3, 1) := by decide +kernel
theorem d_Law_1136 : decode code 1136 = .ok (.iconst 1, 1) := by decide +kernel
theorem d_Law_1137 : decode code 1137 = .ok (.iadd, 1) := by decide +kernel
theorem d_Law_1138 : decode code 1138 = .ok (.iaload, 1) := by decide +kernel
theorem d_Law_1139 : decode code 1139 = .ok (.aload_n 0, 1) := by decide +kernel
theorem d_Law_1140 : decode code 1140 = .ok (.iload_n 3, 1) := by decide +kernel
theorem d_Law_1141 : decode code 1141 = .ok (.iconst 2, 1) := by decide +kernel
theorem d_Law_1142 : decode code 1142 = .ok (.iadd, 1) := by decide +kernel
theorem d_Law_1143 : decode code 1143 = .ok (.iaload, 1) := by decide +kernel
theorem d_Law_1144 : decode code 1144 = .ok (.invokevirtual 120, 3) := by decide +kernel
theorem d_Law_1147 : decode code 1147 = .ok (.pop, 1) := by decide +kernel
theorem d_Law_1148 : decode code 1148 = .ok (.goto 620, 3) := by decide +kernel
theorem d_Law_1151 : decode code 1151 = .ok (.aload_n 1, 1) := by decide +kernel
theorem d_Law_1152 : decode code 1152 = .ok (.aload_n 0, 1) := by decide +kernel
theorem d_Law_1153 : decode code 1153 = .ok (.iload_n 3, 1) := by decide +kernel
theorem d_Law_1154 : decode code 1154 = .ok (.iconst 1, 1) := by decide +kernel
theorem d_Law_1155 : decode code 1155 = .ok (.iadd, 1) := by decide +kernel
theorem d_Law_1156 : decode code 1156 = .ok (.iaload, 1) := by decide +kernel
theorem d_Law_1157 : decode code 1157 = .ok (.aload_n 0, 1) := by decide +kernel
theorem d_Law_1158 : decode code 1158 = .ok (.iload_n 3, 1) := by decide +kernel
theorem d_Law_1159 : decode code 1159 = .ok (.iconst 2, 1) := by decide +kernel
theorem d_Law_1160 : decode code 1160 = .ok (.iadd, 1) := by decide +kernel
theorem d_Law_1161 : decode code 1161 = .ok (.iaload, 1) := by decide +kernel
theorem d_Law_1162 : decode code 1162 = .ok (.aload_n 0, 1) := by decide +kernel
theorem d_Law_1163 : decode code 1163 = .ok (.iload_n 3, 1) := by decide +kernel
theorem d_Law_1164 : decode code 1164 = .ok (.iconst 3, 1) := by decide +kernel
theorem d_Law_1165 : decode code 1165 = .ok (.iadd, 1) := by decide +kernel
theorem d_Law_1166 : decode code 1166 = .ok (.iaload, 1) := by decide +kernel
theorem d_Law_1167 : decode code 1167 = .ok (.aload_n 0, 1) := by decide +kernel
theorem d_Law_1168 : decode code 1168 = .ok (.iload_n 3, 1) := by decide +kernel
theorem d_Law_1169 : decode code 1169 = .ok (.iconst 4, 1) := by decide +kernel
theorem d_Law_1170 : decode code 1170 = .ok (.iadd, 1) := by decide +kernel
theorem d_Law_1171 : decode code 1171 = .ok (.iaload, 1) := by decide +kernel
theorem d_Law_1172 : decode code 1172 = .ok (.invokevirtual 121, 3) := by decide +kernel
theorem d_Law_1175 : decode code 1175 = .ok (.pop, 1) := by decide +kernel
theorem d_Law_1176 : decode code 1176 = .ok (.aload_n 2, 1) := by decide +kernel
theorem d_Law_1177 : decode code 1177 = .ok (.aload_n 0, 1) := by decide +kernel
theorem d_Law_1178 : decode code 1178 = .ok (.iload_n 3, 1) := by decide +kernel
theorem d_Law_1179 : decode code 1179 = .ok (.iconst 1, 1) := by decide +kernel
theorem d_Law_1180 : decode code 1180 = .ok (.iadd, 1) := by decide +kernel
theorem d_Law_1181 : decode code 1181 = .ok (.iaload, 1) := by decide +kernel
theorem d_Law_1182 : decode code 1182 = .ok (.aload_n 0, 1) := by decide +kernel
theorem d_Law_1183 : decode code 1183 = .ok (.iload_n 3, 1) := by decide +kernel
theorem d_Law_1184 : decode code 1184 = .ok (.iconst 2, 1) := by decide +kernel
theorem d_Law_1185 : decode code 1185 = .ok (.iadd, 1) := by decide +kernel
theorem d_Law_1186 : decode code 1186 = .ok (.iaload, 1) := by decide +kernel
theorem d_Law_1187 : decode code 1187 = .ok (.aload_n 0, 1) := by decide +kernel
theorem d_Law_1188 : decode code 1188 = .ok (.iload_n 3, 1) := by decide +kernel
theorem d_Law_1189 : decode code 1189 = .ok (.iconst 3, 1) := by decide +kernel
theorem d_Law_1190 : decode code 1190 = .ok (.iadd, 1) := by decide +kernel
theorem d_Law_1191 : decode code 1191 = .ok (.iaload, 1) := by decide +kernel
theorem d_Law_1192 : decode code 1192 = .ok (.aload_n 0, 1) := by decide +kernel
theorem d_Law_1193 : decode code 1193 = .ok (.iload_n 3, 1) := by decide +kernel
theorem d_Law_1194 : decode code 1194 = .ok (.iconst 4, 1) := by decide +kernel
theorem d_Law_1195 : decode code 1195 = .ok (.iadd, 1) := by decide +kernel
theorem d_Law_1196 : decode code 1196 = .ok (.iaload, 1) := by decide +kernel
theorem d_Law_1197 : decode code 1197 = .ok (.invokevirtual 124, 3) := by decide +kernel
theorem d_Law_1200 : decode code 1200 = .ok (.pop, 1) := by decide +kernel
theorem d_Law_1201 : decode code 1201 = .ok (.goto 567, 3) := by decide +kernel
theorem d_Law_1204 : decode code 1204 = .ok (.aload_n 1, 1) := by decide +kernel
theorem d_Law_1205 : decode code 1205 = .ok (.aload_n 0, 1) := by decide +kernel
theorem d_Law_1206 : decode code 1206 = .ok (.iload_n 3, 1) := by decide +kernel
theorem d_Law_1207 : decode code 1207 = .ok (.iconst 1, 1) := by decide +kernel
theorem d_Law_1208 : decode code 1208 = .ok (.iadd, 1) := by decide +kernel
theorem d_Law_1209 : decode code 1209 = .ok (.iaload, 1) := by decide +kernel
theorem d_Law_1210 : decode code 1210 = .ok (.aload_n 0, 1) := by decide +kernel
theorem d_Law_1211 : decode code 1211 = .ok (.iload_n 3, 1) := by decide +kernel
theorem d_Law_1212 : decode code 1212 = .ok (.iconst 2, 1) := by decide +kernel
theorem d_Law_1213 : decode code 1213 = .ok (.iadd, 1) := by decide +kernel
theorem d_Law_1214 : decode code 1214 = .ok (.iaload, 1) := by decide +kernel
theorem d_Law_1215 : decode code 1215 = .ok (.invokevirtual 125, 3) := by decide +kernel
theorem d_Law_1218 : decode code 1218 = .ok (.pop, 1) := by decide +kernel
theorem d_Law_1219 : decode code 1219 = .ok (.aload_n 2, 1) := by decide +kernel
theorem d_Law_1220 : decode code 1220 = .ok (.aload_n 0, 1) := by decide +kernel
theorem d_Law_1221 : decode code 1221 = .ok (.iload_n 3, 1) := by decide +kernel
theorem d_Law_1222 : decode code 1222 = .ok (.iconst 1, 1) := by decide +kernel
theorem d_Law_1223 : decode code 1223 = .ok (.iadd, 1) := by decide +kernel
theorem d_Law_1224 : decode code 1224 = .ok (.iaload, 1) := by decide +kernel
theorem d_Law_1225 : decode code 1225 = .ok (.aload_n 0, 1) := by decide +kernel
theorem d_Law_1226 : decode code 1226 = .ok (.iload_n 3, 1) := by decide +kernel
theorem d_Law_1227 : decode code 1227 = .ok (.iconst 2, 1) := by decide +kernel
theorem d_Law_1228 : decode code 1228 = .ok (.iadd, 1) := by decide +kernel
theorem d_Law_1229 : decode code 1229 = .ok (.iaload, 1) := by decide +kernel
theorem d_Law_1230 : decode code 1230 = .ok (.invokevirtual 128, 3) := by decide +kernel
theorem d_Law_1233 : decode code 1233 = .ok (.pop, 1) := by decide +kernel
theorem d_Law_1234 : decode code 1234 = .ok (.goto 534, 3) := by decide +kernel
theorem d_Law_1237 : decode code 1237 = .ok (.aload_n 1, 1) := by decide +kernel
theorem d_Law_1238 : decode code 1238 = .ok (.aload_n 0, 1) := by decide +kernel
theorem d_Law_1239 : decode code 1239 = .ok (.iload_n 3, 1) := by decide +kernel
theorem d_Law_1240 : decode code 1240 = .ok (.iconst 1, 1) := by decide +kernel
theorem d_Law_1241 : decode code 1241 = .ok (.iadd, 1) := by decide +kernel
theorem d_Law_1242 : decode code 1242 = .ok (.iaload, 1) := by decide +kernel
theorem d_Law_1243 : decode code 1243 = .ok (.aload_n 0, 1) := by decide +kernel
theorem d_Law_1244 : decode code 1244 = .ok (.iload_n 3, 1) := by decide +kernel
theorem d_Law_1245 : decode code 1245 = .ok (.iconst 2, 1) := by decide +kernel
theorem d_Law_1246 : decode code 1246 = .ok (.iadd, 1) := by decide +kernel
theorem d_Law_1247 : decode code 1247 = .ok (.iaload, 1) := by decide +kernel
theorem d_Law_1248 : decode code 1248 = .ok (.aload_n 0, 1) := by decide +kernel
theorem d_Law_1249 : decode code 1249 = .ok (.iload_n 3, 1) := by decide +kernel
theorem d_Law_1250 : decode code 1250 = .ok (.iconst 3, 1) := by decide +kernel
theorem d_Law_1251 : decode code 1251 = .ok (.iadd, 1) := by decide +kernel
theorem d_Law_1252 : decode code 1252 = .ok (.iaload, 1) := by decide +kernel
theorem d_Law_1253 : decode code 1253 = .ok (.invokevirtual 129, 3) := by decide +kernel
theorem d_Law_1256 : decode code 1256 = .ok (.pop, 1) := by decide +kernel
theorem d_Law_1257 : decode code 1257 = .ok (.aload_n 2, 1) := by decide +kernel
theorem d_Law_1258 : decode code 1258 = .ok (.aload_n 0, 1) := by decide +kernel
theorem d_Law_1259 : decode code 1259 = .ok (.iload_n 3, 1) := by decide +kernel
theorem d_Law_1260 : decode code 1260 = .ok (.iconst 1, 1) := by decide +kernel
theorem d_Law_1261 : decode code 1261 = .ok (.iadd, 1) := by decide +kernel
theorem d_Law_1262 : decode code 1262 = .ok (.iaload, 1) := by decide +kernel
theorem d_Law_1263 : decode code 1263 = .ok (.aload_n 0, 1) := by decide +kernel
theorem d_Law_1264 : decode code 1264 = .ok (.iload_n 3, 1) := by decide +kernel
theorem d_Law_1265 : decode code 1265 = .ok (.iconst 2, 1) := by decide +kernel
theorem d_Law_1266 : decode code 1266 = .ok (.iadd, 1) := by decide +kernel
theorem d_Law_1267 : decode code 1267 = .ok (.iaload, 1) := by decide +kernel
theorem d_Law_1268 : decode code 1268 = .ok (.aload_n 0, 1) := by decide +kernel
theorem d_Law_1269 : decode code 1269 = .ok (.iload_n 3, 1) := by decide +kernel
theorem d_Law_1270 : decode code 1270 = .ok (.iconst 3, 1) := by decide +kernel
theorem d_Law_1271 : decode code 1271 = .ok (.iadd, 1) := by decide +kernel
theorem d_Law_1272 : decode code 1272 = .ok (.iaload, 1) := by decide +kernel
theorem d_Law_1273 : decode code 1273 = .ok (.invokevirtual 132, 3) := by decide +kernel
theorem d_Law_1276 : decode code 1276 = .ok (.pop, 1) := by decide +kernel
theorem d_Law_1277 : decode code 1277 = .ok (.goto 491, 3) := by decide +kernel
theorem d_Law_1280 : decode code 1280 = .ok (.aload_n 1, 1) := by decide +kernel
theorem d_Law_1281 : decode code 1281 = .ok (.aload_n 0, 1) := by decide +kernel
theorem d_Law_1282 : decode code 1282 = .ok (.iload_n 3, 1) := by decide +kernel
theorem d_Law_1283 : decode code 1283 = .ok (.iconst 1, 1) := by decide +kernel
theorem d_Law_1284 : decode code 1284 = .ok (.iadd, 1) := by decide +kernel
theorem d_Law_1285 : decode code 1285 = .ok (.iaload, 1) := by decide +kernel
theorem d_Law_1286 : decode code 1286 = .ok (.aload_n 0, 1) := by decide +kernel
theorem d_Law_1287 : decode code 1287 = .ok (.iload_n 3, 1) := by decide +kernel
theorem d_Law_1288 : decode code 1288 = .ok (.iconst 2, 1) := by decide +kernel
theorem d_Law_1289 : decode code 1289 = .ok (.iadd, 1) := by decide +kernel
theorem d_Law_1290 : decode code 1290 = .ok (.iaload, 1) := by decide +kernel
theorem d_Law_1291 : decode code 1291 = .ok (.invokevirtual 133, 3) := by decide +kernel
theorem d_Law_1294 : decode code 1294 = .ok (.pop, 1) := by decide +kernel
theorem d_Law_1295 : decode code 1295 = .ok (.aload_n 2, 1) := by decide +kernel
theorem d_Law_1296 : decode code 1296 = .ok (.aload_n 0, 1) := by decide +kernel
theorem d_Law_1297 : decode code 1297 = .ok (.iload_n 3, 1) := by decide +kernel
theorem d_Law_1298 : decode code 1298 = .ok (.iconst 1, 1) := by decide +kernel
theorem d_Law_1299 : decode code 1299 = .ok (.iadd, 1) := by decide +kernel
theorem d_Law_1300 : decode code 1300 = .ok (.iaload, 1) := by decide +kernel
theorem d_Law_1301 : decode code 1301 = .ok (.aload_n 0, 1) := by decide +kernel
theorem d_Law_1302 : decode code 1302 = .ok (.iload_n 3, 1) := by decide +kernel
theorem d_Law_1303 : decode code 1303 = .ok (.iconst 2, 1) := by decide +kernel
theorem d_Law_1304 : decode code 1304 = .ok (.iadd, 1) := by decide +kernel
theorem d_Law_1305 : decode code 1305 = .ok (.iaload, 1) := by decide +kernel
theorem d_Law_1306 : decode code 1306 = .ok (.invokevirtual 136, 3) := by decide +kernel
theorem d_Law_1309 : decode code 1309 = .ok (.pop, 1) := by decide +kernel
theorem d_Law_1310 : decode code 1310 = .ok (.goto 458, 3) := by decide +kernel
theorem d_Law_1313 : decode code 1313 = .ok (.aload_n 1, 1) := by decide +kernel
theorem d_Law_1314 : decode code 1314 = .ok (.aload_n 0, 1) := by decide +kernel
theorem d_Law_1315 : decode code 1315 = .ok (.iload_n 3, 1) := by decide +kernel
theorem d_Law_1316 : decode code 1316 = .ok (.iconst 1, 1) := by decide +kernel
theorem d_Law_1317 : decode code 1317 = .ok (.iadd, 1) := by decide +kernel
theorem d_Law_1318 : decode code 1318 = .ok (.iaload, 1) := by decide +kernel
theorem d_Law_1319 : decode code 1319 = .ok (.invokevirtual 137, 3) := by decide +kernel
theorem d_Law_1322 : decode code 1322 = .ok (.pop, 1) := by decide +kernel
theorem d_Law_1323 : decode code 1323 = .ok (.aload_n 2, 1) := by decide +kernel
theorem d_Law_1324 : decode code 1324 = .ok (.aload_n 0, 1) := by decide +kernel
theorem d_Law_1325 : decode code 1325 = .ok (.iload_n 3, 1) := by decide +kernel
theorem d_Law_1326 : decode code 1326 = .ok (.iconst 1, 1) := by decide +kernel
theorem d_Law_1327 : decode code 1327 = .ok (.iadd, 1) := by decide +kernel
theorem d_Law_1328 : decode code 1328 = .ok (.iaload, 1) := by decide +kernel
theorem d_Law_1329 : decode code 1329 = .ok (.invokevirtual 140, 3) := by decide +kernel
theorem d_Law_1332 : decode code 1332 = .ok (.pop, 1) := by decide +kernel
theorem d_Law_1333 : decode code 1333 = .ok (.goto 435, 3) := by decide +kernel
theorem d_Law_1336 : decode code 1336 = .ok (.aload_n 1, 1) := by decide +kernel
theorem d_Law_1337 : decode code 1337 = .ok (.aload_n 0, 1) := by decide +kernel
theorem d_Law_1338 : decode code 1338 = .ok (.iload_n 3, 1) := by decide +kernel
theorem d_Law_1339 : decode code 1339 = .ok (.iconst 1, 1) := by decide +kernel
theorem d_Law_1340 : decode code 1340 = .ok (.iadd, 1) := by decide +kernel
theorem d_Law_1341 : decode code 1341 = .ok (.iaload, 1) := by decide +kernel
theorem d_Law_1342 : decode code 1342 = .ok (.aload_n 0, 1) := by decide +kernel
theorem d_Law_1343 : decode code 1343 = .ok (.iload_n 3, 1) := by decide +kernel
theorem d_Law_1344 : decode code 1344 = .ok (.iconst 2, 1) := by decide +kernel
theorem d_Law_1345 : decode code 1345 = .ok (.iadd, 1) := by decide +kernel
theorem d_Law_1346 : decode code 1346 = .ok (.iaload, 1) := by decide +kernel
theorem d_Law_1347 : decode code 1347 = .ok (.aload_n 0, 1) := by decide +kernel
theorem d_Law_1348 : decode code 1348 = .ok (.iload_n 3, 1) := by decide +kernel
theorem d_Law_1349 : decode code 1349 = .ok (.iconst 3, 1) := by decide +kernel
theorem d_Law_1350 : decode code 1350 = .ok (.iadd, 1) := by decide +kernel
theorem d_Law_1351 : decode code 1351 = .ok (.iaload, 1) := by decide +kernel
theorem d_Law_1352 : decode code 1352 = .ok (.aload_n 0, 1) := by decide +kernel
theorem d_Law_1353 : decode code 1353 = .ok (.iload_n 3, 1) := by decide +kernel
theorem d_Law_1354 : decode code 1354 = .ok (.iconst 4, 1) := by decide +kernel
theorem d_Law_1355 : decode code 1355 = .ok (.iadd, 1) := by decide +kernel
theorem d_Law_1356 : decode code 1356 = .ok (.iaload, 1) := by decide +kernel
theorem d_Law_1357 : decode code 1357 = .ok (.aload_n 0, 1) := by decide +kernel
theorem d_Law_1358 : decode code 1358 = .ok (.iload_n 3, 1) := by decide +kernel
theorem d_Law_1359 : decode code 1359 = .ok (.iconst 5, 1) := by decide +kernel
theorem d_Law_1360 : decode code 1360 = .ok (.iadd, 1) := by decide +kernel
theorem d_Law_1361 : decode code 1361 = .ok (.iaload, 1) := by decide +kernel
theorem d_Law_1362 : decode code 1362 = .ok (.invokevirtual 141, 3) := by decide +kernel
theorem d_Law_1365 : decode code 1365 = .ok (.pop, 1) := by decide +kernel
theorem d_Law_1366 : decode code 1366 = .ok (.aload_n 2, 1) := by decide +kernel
theorem d_Law_1367 : decode code 1367 = .ok (.aload_n 0, 1) := by decide +kernel
theorem d_Law_1368 : decode code 1368 = .ok (.iload_n 3, 1) := by decide +kernel
theorem d_Law_1369 : decode code 1369 = .ok (.iconst 1, 1) := by decide +kernel
theorem d_Law_1370 : decode code 1370 = .ok (.iadd, 1) := by decide +kernel
theorem d_Law_1371 : decode code 1371 = .ok (.iaload, 1) := by decide +kernel
theorem d_Law_1372 : decode code 1372 = .ok (.aload_n 0, 1) := by decide +kernel
theorem d_Law_1373 : decode code 1373 = .ok (.iload_n 3, 1) := by decide +kernel
theorem d_Law_1374 : decode code 1374 = .ok (.iconst 2, 1) := by decide +kernel
theorem d_Law_1375 : decode code 1375 = .ok (.iadd, 1) := by decide +kernel
theorem d_Law_1376 : decode code 1376 = .ok (.iaload, 1) := by decide +kernel
theorem d_Law_1377 : decode code 1377 = .ok (.aload_n 0, 1) := by decide +kernel
theorem d_Law_1378 : decode code 1378 = .ok (.iload_n 3, 1) := by decide +kernel
theorem d_Law_1379 : decode code 1379 = .ok (.iconst 3, 1) := by decide +kernel
theorem d_Law_1380 : decode code 1380 = .ok (.iadd, 1) := by decide +kernel
theorem d_Law_1381 : decode code 1381 = .ok (.iaload, 1) := by decide +kernel
theorem d_Law_1382 : decode code 1382 = .ok (.aload_n 0, 1) := by decide +kernel
theorem d_Law_1383 : decode code 1383 = .ok (.iload_n 3, 1) := by decide +kernel
theorem d_Law_1384 : decode code 1384 = .ok (.iconst 4, 1) := by decide +kernel
theorem d_Law_1385 : decode code 1385 = .ok (.iadd, 1) := by decide +kernel
theorem d_Law_1386 : decode code 1386 = .ok (.iaload, 1) := by decide +kernel
theorem d_Law_1387 : decode code 1387 = .ok (.aload_n 0, 1) := by decide +kernel
theorem d_Law_1388 : decode code 1388 = .ok (.iload_n 3, 1) := by decide +kernel
theorem d_Law_1389 : decode code 1389 = .ok (.iconst 5, 1) := by decide +kernel
theorem d_Law_1390 : decode code 1390 = .ok (.iadd, 1) := by decide +kernel
theorem d_Law_1391 : decode code 1391 = .ok (.iaload, 1) := by decide +kernel
theorem d_Law_1392 : decode code 1392 = .ok (.invokevirtual 144, 3) := by decide +kernel
theorem d_Law_1395 : decode code 1395 = .ok (.pop, 1) := by decide +kernel
theorem d_Law_1396 : decode code 1396 = .ok (.goto 372, 3) := by decide +kernel
theorem d_Law_1399 : decode code 1399 = .ok (.aload_n 1, 1) := by decide +kernel
theorem d_Law_1400 : decode code 1400 = .ok (.aload_n 0, 1) := by decide +kernel
theorem d_Law_1401 : decode code 1401 = .ok (.iload_n 3, 1) := by decide +kernel
theorem d_Law_1402 : decode code 1402 = .ok (.iconst 1, 1) := by decide +kernel
theorem d_Law_1403 : decode code 1403 = .ok (.iadd, 1) := by decide +kernel
theorem d_Law_1404 : decode code 1404 = .ok (.iaload, 1) := by decide +kernel
theorem d_Law_1405 : decode code 1405 = .ok (.aload_n 0, 1) := by decide +kernel
theorem d_Law_1406 : decode code 1406 = .ok (.iload_n 3, 1) := by decide +kernel
theorem d_Law_1407 : decode code 1407 = .ok (.iconst 2, 1) := by decide +kernel
theorem d_Law_1408 : decode code 1408 = .ok (.iadd, 1) := by decide +kernel
theorem d_Law_1409 : decode code 1409 = .ok (.iaload, 1) := by decide +kernel
theorem d_Law_1410 : decode code 1410 = .ok (.aload_n 0, 1) := by decide +kernel
theorem d_Law_1411 : decode code 1411 = .ok (.iload_n 3, 1) := by decide +kernel
theorem d_Law_1412 : decode code 1412 = .ok (.iconst 3, 1) := by decide +kernel
theorem d_Law_1413 : decode code 1413 = .ok (.iadd, 1) := by decide +kernel
theorem d_Law_1414 : decode code 1414 = .ok (.iaload, 1) := by decide +kernel
theorem d_Law_1415 : decode code 1415 = .ok (.invokevirtual 145, 3) := by decide +kernel
theorem d_Law_1418 : decode code 1418 = .ok (.pop, 1) := by decide +kernel
theorem d_Law_1419 : decode code 1419 = .ok (.aload_n 2, 1) := by decide +kernel
theorem d_Law_1420 : decode code 1420 = .ok (.aload_n 0, 1) := by decide +kernel
theorem d_Law_1421 : decode code 1421 = .ok (.iload_n 3, 1) := by decide +kernel
theorem d_Law_1422 : decode code 1422 = .ok (.iconst 1, 1) := by decide +kernel
theorem d_Law_1423 : decode code 1423 = .ok (.iadd, 1) := by decide +kernel
theorem d_Law_1424 : decode code 1424 = .ok (.iaload, 1) := by decide +kernel
theorem d_Law_1425 : decode code 1425 = .ok (.aload_n 0, 1) := by decide +kernel
theorem d_Law_1426 : decode code 1426 = .ok (.iload_n 3, 1) := by decide +kernel
theorem d_Law_1427 : decode code 1427 = .ok (.iconst 2, 1) := by decide +kernel
theorem d_Law_1428 : decode code 1428 = .ok (.iadd, 1) := by decide +kernel
theorem d_Law_1429 : decode code 1429 = .ok (.iaload, 1) := by decide +kernel
theorem d_Law_1430 : decode code 1430 = .ok (.aload_n 0, 1) := by decide +kernel
theorem d_Law_1431 : decode code 1431 = .ok (.iload_n 3, 1) := by decide +kernel
theorem d_Law_1432 : decode code 1432 = .ok (.iconst 3, 1) := by decide +kernel
theorem d_Law_1433 : decode code 1433 = .ok (.iadd, 1) := by decide +kernel
theorem d_Law_1434 : decode code 1434 = .ok (.iaload, 1) := by decide +kernel
theorem d_Law_1435 : decode code 1435 = .ok (.invokevirtual 148, 3) := by decide +kernel
theorem d_Law_1438 : decode code 1438 = .ok (.pop, 1) := by decide +kernel
theorem d_Law_1439 : decode code 1439 = .ok (.goto 329, 3) := by decide +kernel
theorem d_Law_1442 : decode code 1442 = .ok (.aload_n 1, 1) := by decide +kernel
theorem d_Law_1443 : decode code 1443 = .ok (.aload_n 0, 1) := by decide +kernel
theorem d_Law_1444 : decode code 1444 = .ok (.iload_n 3, 1) := by decide +kernel
theorem d_Law_1445 : decode code 1445 = .ok (.iconst 1, 1) := by decide +kernel
theorem d_Law_1446 : decode code 1446 = .ok (.iadd, 1) := by decide +kernel
theorem d_Law_1447 : decode code 1447 = .ok (.iaload, 1) := by decide +kernel
theorem d_Law_1448 : decode code 1448 = .ok (.invokevirtual 149, 3) := by decide +kernel
theorem d_Law_1451 : decode code 1451 = .ok (.pop, 1) := by decide +kernel
theorem d_Law_1452 : decode code 1452 = .ok (.aload_n 2, 1) := by decide +kernel
theorem d_Law_1453 : decode code 1453 = .ok (.aload_n 0, 1) := by decide +kernel
theorem d_Law_1454 : decode code 1454 = .ok (.iload_n 3, 1) := by decide +kernel
theorem d_Law_1455 : decode code 1455 = .ok (.iconst 1, 1) := by decide +kernel
theorem d_Law_1456 : decode code 1456 = .ok (.iadd, 1) := by decide +kernel
theorem d_Law_1457 : decode code 1457 = .ok (.iaload, 1) := by decide +kernel
theorem d_Law_1458 : decode code 1458 = .ok (.invokevirtual 152, 3) := by decide +kernel
theorem d_Law_1461 : decode code 1461 = .ok (.pop, 1) := by decide +kernel
theorem d_Law_1462 : decode code 1462 = .ok (.goto 306, 3) := by decide +kernel
theorem d_Law_1465 : decode code 1465 = .ok (.aload_n 1, 1) := by decide +kernel
theorem d_Law_1466 : decode code 1466 = .ok (.invokevirtual 153, 3) := by decide +kernel
theorem d_Law_1469 : decode code 1469 = .ok (.pop, 1) := by decide +kernel
theorem d_Law_1470 : decode code 1470 = .ok (.aload_n 2, 1) := by decide +kernel
theorem d_Law_1471 : decode code 1471 = .ok (.invokevirtual 156, 3) := by decide +kernel
theorem d_Law_1474 : decode code 1474 = .ok (.pop, 1) := by decide +kernel
theorem d_Law_1475 : decode code 1475 = .ok (.goto 293, 3) := by decide +kernel
theorem d_Law_1478 : decode code 1478 = .ok (.aload_n 1, 1) := by decide +kernel
theorem d_Law_1479 : decode code 1479 = .ok (.aload_n 0, 1) := by decide +kernel
theorem d_Law_1480 : decode code 1480 = .ok (.iload_n 3, 1) := by decide +kernel
theorem d_Law_1481 : decode code 1481 = .ok (.iconst 1, 1) := by decide +kernel
theorem d_Law_1482 : decode code 1482 = .ok (.iadd, 1) := by decide +kernel
theorem d_Law_1483 : decode code 1483 = .ok (.iaload, 1) := by decide +kernel
theorem d_Law_1484 : decode code 1484 = .ok (.aload_n 0, 1) := by decide +kernel
theorem d_Law_1485 : decode code 1485 = .ok (.iload_n 3, 1) := by decide +kernel
theorem d_Law_1486 : decode code 1486 = .ok (.iconst 2, 1) := by decide +kernel
theorem d_Law_1487 : decode code 1487 = .ok (.iadd, 1) := by decide +kernel
theorem d_Law_1488 : decode code 1488 = .ok (.iaload, 1) := by decide +kernel
theorem d_Law_1489 : decode code 1489 = .ok (.aload_n 0, 1) := by decide +kernel
theorem d_Law_1490 : decode code 1490 = .ok (.iload_n 3, 1) := by decide +kernel
theorem d_Law_1491 : decode code 1491 = .ok (.iconst 3, 1) := by decide +kernel
theorem d_Law_1492 : decode code 1492 = .ok (.iadd, 1) := by decide +kernel
theorem d_Law_1493 : decode code 1493 = .ok (.iaload, 1) := by decide +kernel
theorem d_Law_1494 : decode code 1494 = .ok (.invokevirtual 157, 3) := by decide +kernel
theorem d_Law_1497 : decode code 1497 = .ok (.pop, 1) := by decide +kernel
theorem d_Law_1498 : decode code 1498 = .ok (.aload_n 2, 1) := by decide +kernel
theorem d_Law_1499 : decode code 1499 = .ok (.aload_n 0, 1) := by decide +kernel
theorem d_Law_1500 : decode code 1500 = .ok (.iload_n 3, 1) := by decide +kernel
theorem d_Law_1501 : decode code 1501 = .ok (.iconst 1, 1) := by decide +kernel
theorem d_Law_1502 : decode code 1502 = .ok (.iadd, 1) := by decide +kernel
theorem d_Law_1503 : decode code 1503 = .ok (.iaload, 1) := by decide +kernel
theorem d_Law_1504 : decode code 1504 = .ok (.aload_n 0, 1) := by decide +kernel
theorem d_Law_1505 : decode code 1505 = .ok (.iload_n 3, 1) := by decide +kernel
theorem d_Law_1506 : decode code 1506 = .ok (.iconst 2, 1) := by decide +kernel
theorem d_Law_1507 : decode code 1507 = .ok (.iadd, 1) := by decide +kernel
theorem d_Law_1508 : decode code 1508 = .ok (.iaload, 1) := by decide +kernel
theorem d_Law_1509 : decode code 1509 = .ok (.aload_n 0, 1) := by decide +kernel
theorem d_Law_1510 : decode code 1510 = .ok (.iload_n 3, 1) := by decide +kernel
theorem d_Law_1511 : decode code 1511 = .ok (.iconst 3, 1) := by decide +kernel
theorem d_Law_1512 : decode code 1512 = .ok (.iadd, 1) := by decide +kernel
theorem d_Law_1513 : decode code 1513 = .ok (.iaload, 1) := by decide +kernel
theorem d_Law_1514 : decode code 1514 = .ok (.invokevirtual 160, 3) := by decide +kernel
theorem d_Law_1517 : decode code 1517 = .ok (.pop, 1) := by decide +kernel
theorem d_Law_1518 : decode code 1518 = .ok (.goto 250, 3) := by decide +kernel
theorem d_Law_1521 : decode code 1521 = .ok (.aload_n 1, 1) := by decide +kernel
theorem d_Law_1522 : decode code 1522 = .ok (.aload_n 0, 1) := by decide +kernel
theorem d_Law_1523 : decode code 1523 = .ok (.iload_n 3, 1) := by decide +kernel
theorem d_Law_1524 : decode code 1524 = .ok (.iconst 1, 1) := by decide +kernel
theorem d_Law_1525 : decode code 1525 = .ok (.iadd, 1) := by decide +kernel
theorem d_Law_1526 : decode code 1526 = .ok (.iaload, 1) := by decide +kernel
theorem d_Law_1527 : decode code 1527 = .ok (.invokevirtual 161, 3) := by decide +kernel
theorem d_Law_1530 : decode code 1530 = .ok (.pop, 1) := by decide +kernel
theorem d_Law_1531 : decode code 1531 = .ok (.aload_n 2, 1) := by decide +kernel
theorem d_Law_1532 : decode code 1532 = .ok (.aload_n 0, 1) := by decide +kernel
theorem d_Law_1533 : decode code 1533 = .ok (.iload_n 3, 1) := by decide +kernel
theorem d_Law_1534 : decode code 1534 = .ok (.iconst 1, 1) := by decide +kernel
theorem d_Law_1535 : decode code 1535 = .ok (.iadd, 1) := by decide +kernel
theorem d_Law_1536 : decode code 1536 = .ok (.iaload, 1) := by decide +kernel
theorem d_Law_1537 : decode code 1537 = .ok (.invokevirtual 164, 3) := by decide +kernel
theorem d_Law_1540 : decode code 1540 = .ok (.pop, 1) := by decide +kernel
theorem d_Law_1541 : decode code 1541 = .ok (.goto 227, 3) := by decide +kernel
theorem d_Law_1544 : decode code 1544 = .ok (.aload_n 1, 1) := by decide +kernel
theorem d_Law_1545 : decode code 1545 = .ok (.aload_n 0, 1) := by decide +kernel
theorem d_Law_1546 : decode code 1546 = .ok (.iload_n 3, 1) := by decide +kernel
theorem d_Law_1547 : decode code 1547 = .ok (.iconst 1, 1) := by decide +kernel
theorem d_Law_1548 : decode code 1548 = .ok (.iadd, 1) := by decide +kernel
theorem d_Law_1549 : decode code 1549 = .ok (.iaload, 1) := by decide +kernel
theorem d_Law_1550 : decode code 1550 = .ok (.aload_n 0, 1) := by decide +kernel
theorem d_Law_1551 : decode code 1551 = .ok (.iload_n 3, 1) := by decide +kernel
theorem d_Law_1552 : decode code 1552 = .ok (.iconst 2, 1) := by decide +kernel
theorem d_Law_1553 : decode code 1553 = .ok (.iadd, 1) := by decide +kernel
theorem d_Law_1554 : decode code 1554 = .ok (.iaload, 1) := by decide +kernel
theorem d_Law_1555 : decode code 1555 = .ok (.invokevirtual 165, 3) := by decide +kernel
theorem d_Law_1558 : decode code 1558 = .ok (.pop, 1) := by decide +kernel
theorem d_Law_1559 : decode code 1559 = .ok (.aload_n 2, 1) := by decide +kernel
theorem d_Law_1560 : decode code 1560 = .ok (.aload_n 0, 1) := by decide +kernel
theorem d_Law_1561 : decode code 1561 = .ok (.iload_n 3, 1) := by decide +kernel
theorem d_Law_1562 : decode code 1562 = .ok (.iconst 1, 1) := by decide +kernel
theorem d_Law_1563 : decode code 1563 = .ok (.iadd, 1) := by decide +kernel
theorem d_Law_1564 : decode code 1564 = .ok (.iaload, 1) := by decide +kernel
theorem d_Law_1565 : decode code 1565 = .ok (.aload_n 0, 1) := by decide +kernel
theorem d_Law_1566 : decode code 1566 = .ok (.iload_n 3, 1) := by decide +kernel
theorem d_Law_1567 : decode code 1567 = .ok (.iconst 2, 1) := by decide +kernel
theorem d_Law_1568 : decode code 1568 = .ok (.iadd, 1) := by decide +kernel
theorem d_Law_1569 : decode code 1569 = .ok (.iaload, 1) := by decide +kernel
theorem d_Law_1570 : decode code 1570 = .ok (.invokevirtual 168, 3) := by decide +kernel
theorem d_Law_1573 : decode code 1573 = .ok (.pop, 1) := by decide +kernel
theorem d_Law_1574 : decode code 1574 = .ok (.goto 194, 3) := by decide +kernel
theorem d_Law_1577 : decode code 1577 = .ok (.aload_n 1, 1) := by decide +kernel
theorem d_Law_1578 : decode code 1578 = .ok (.aload_n 0, 1) := by decide +kernel
theorem d_Law_1579 : decode code 1579 = .ok (.iload_n 3, 1) := by decide +kernel
theorem d_Law_1580 : decode code 1580 = .ok (.iconst 1, 1) := by decide +kernel
theorem d_Law_1581 : decode code 1581 = .ok (.iadd, 1) := by decide +kernel
theorem d_Law_1582 : decode code 1582 = .ok (.iaload, 1) := by decide +kernel
theorem d_Law_1583 : decode code 1583 = .ok (.invokevirtual 169, 3) := by decide +kernel
theorem d_Law_1586 : decode code 1586 = .ok (.pop, 1) := by decide +kernel
theorem d_Law_1587 : decode code 1587 = .ok (.aload_n 2, 1) := by decide +kernel
theorem d_Law_1588 : decode code 1588 = .ok (.aload_n 0, 1) := by decide +kernel
theorem d_Law_1589 : decode code 1589 = .ok (.iload_n 3, 1) := by decide +kernel
theorem d_Law_1590 : decode code 1590 = .ok (.iconst 1, 1) := by decide +kernel
theorem d_Law_1591 : decode code 1591 = .ok (.iadd, 1) := by decide +kernel
theorem d_Law_1592 : decode code 1592 = .ok (.iaload, 1) := by decide +kernel
theorem d_Law_1593 : decode code 1593 = .ok (.invokevirtual 172, 3) := by decide +kernel
theorem d_Law_1596 : decode code 1596 = .ok (.pop, 1) := by decide +kernel
theorem d_Law_1597 : decode code 1597 = .ok (.goto 171, 3) := by decide +kernel
theorem d_Law_1600 : decode code 1600 = .ok (.aload_n 1, 1) := by decide +kernel
theorem d_Law_1601 : decode code 1601 = .ok (.invokevirtual 173, 3) := by decide +kernel
theorem d_Law_1604 : decode code 1604 = .ok (.pop, 1) := by decide +kernel
theorem d_Law_1605 : decode code 1605 = .ok (.aload_n 2, 1) := by decide +kernel
theorem d_Law_1606 : decode code 1606 = .ok (.invokevirtual 176, 3) := by decide +kernel
theorem d_Law_1609 : decode code 1609 = .ok (.pop, 1) := by decide +kernel
theorem d_Law_1610 : decode code 1610 = .ok (.goto 158, 3) := by decide +kernel
theorem d_Law_1613 : decode code 1613 = .ok (.aload_n 1, 1) := by decide +kernel
theorem d_Law_1614 : decode code 1614 = .ok (.invokevirtual 177, 3) := by decide +kernel
theorem d_Law_1617 : decode code 1617 = .ok (.pop, 1) := by decide +kernel
theorem d_Law_1618 : decode code 1618 = .ok (.aload_n 2, 1) := by decide +kernel
theorem d_Law_1619 : decode code 1619 = .ok (.invokevirtual 180, 3) := by decide +kernel
theorem d_Law_1622 : decode code 1622 = .ok (.pop, 1) := by decide +kernel
theorem d_Law_1623 : decode code 1623 = .ok (.goto 145, 3) := by decide +kernel
theorem d_Law_1626 : decode code 1626 = .ok (.aload_n 1, 1) := by decide +kernel
theorem d_Law_1627 : decode code 1627 = .ok (.aload_n 0, 1) := by decide +kernel
theorem d_Law_1628 : decode code 1628 = .ok (.iload_n 3, 1) := by decide +kernel
theorem d_Law_1629 : decode code 1629 = .ok (.iconst 1, 1) := by decide +kernel
theorem d_Law_1630 : decode code 1630 = .ok (.iadd, 1) := by decide +kernel
theorem d_Law_1631 : decode code 1631 = .ok (.iaload, 1) := by decide +kernel
theorem d_Law_1632 : decode code 1632 = .ok (.aload_n 0, 1) := by decide +kernel
theorem d_Law_1633 : decode code 1633 = .ok (.iload_n 3, 1) := by decide +kernel
theorem d_Law_1634 : decode code 1634 = .ok (.iconst 2, 1) := by decide +kernel
theorem d_Law_1635 : decode code 1635 = .ok (.iadd, 1) := by decide +kernel
theorem d_Law_1636 : decode code 1636 = .ok (.iaload, 1) := by decide +kernel
theorem d_Law_1637 : decode code 1637 = .ok (.invokevirtual 181, 3) := by decide +kernel
theorem d_Law_1640 : decode code 1640 = .ok (.pop, 1) := by decide +kernel
theorem d_Law_1641 : decode code 1641 = .ok (.aload_n 2, 1) := by decide +kernel
theorem d_Law_1642 : decode code 1642 = .ok (.aload_n 0, 1) := by decide +kernel
theorem d_Law_1643 : decode code 1643 = .ok (.iload_n 3, 1) := by decide +kernel
theorem d_Law_1644 : decode code 1644 = .ok (.iconst 1, 1) := by decide +kernel
theorem d_Law_1645 : decode code 1645 = .ok (.iadd, 1) := by decide +kernel
theorem d_Law_1646 : decode code 1646 = .ok (.iaload, 1) := by decide +kernel
theorem d_Law_1647 : decode code 1647 = .ok (.aload_n 0, 1) := by decide +kernel
theorem d_Law_1648 : decode code 1648 = .ok (.iload_n 3, 1) := by decide +kernel
theorem d_Law_1649 : decode code 1649 = .ok (.iconst 2, 1) := by decide +kernel
theorem d_Law_1650 : decode code 1650 = .ok (.iadd, 1) := by decide +kernel
theorem d_Law_1651 : decode code 1651 = .ok (.iaload, 1) := by decide +kernel
theorem d_Law_1652 : decode code 1652 = .ok (.invokevirtual 184, 3) := by decide +kernel
theorem d_Law_1655 : decode code 1655 = .ok (.pop, 1) := by decide +kernel
theorem d_Law_1656 : decode code 1656 = .ok (.goto 112, 3) := by decide +kernel
theorem d_Law_1659 : decode code 1659 = .ok (.aload_n 1, 1) := by decide +kernel
theorem d_Law_1660 : decode code 1660 = .ok (.aload_n 0, 1) := by decide +kernel
theorem d_Law_1661 : decode code 1661 = .ok (.iload_n 3, 1) := by decide +kernel
theorem d_Law_1662 : decode code 1662 = .ok (.iconst 1, 1) := by decide +kernel
theorem d_Law_1663 : decode code 1663 = .ok (.iadd, 1) := by decide +kernel
theorem d_Law_1664 : decode code 1664 = .ok (.iaload, 1) := by decide +kernel
theorem d_Law_1665 : decode code 1665 = .ok (.aload_n 0, 1) := by decide +kernel
theorem d_Law_1666 : decode code 1666 = .ok (.iload_n 3, 1) := by decide +kernel
theorem d_Law_1667 : decode code 1667 = .ok (.iconst 2, 1) := by decide +kernel
theorem d_Law_1668 : decode code 1668 = .ok (.iadd, 1) := by decide +kernel
theorem d_Law_1669 : decode code 1669 = .ok (.iaload, 1) := by decide +kernel
theorem d_Law_1670 : decode code 1670 = .ok (.aload_n 0, 1) := by decide +kernel
theorem d_Law_1671 : decode code 1671 = .ok (.iload_n 3, 1) := by decide +kernel
theorem d_Law_1672 : decode code 1672 = .ok (.iconst 3, 1) := by decide +kernel
theorem d_Law_1673 : decode code 1673 = .ok (.iadd, 1) := by decide +kernel
theorem d_Law_1674 : decode code 1674 = .ok (.iaload, 1) := by decide +kernel
theorem d_Law_1675 : decode code 1675 = .ok (.aload_n 0, 1) := by decide +kernel
theorem d_Law_1676 : decode code 1676 = .ok (.iload_n 3, 1) := by decide +kernel
theorem d_Law_1677 : decode code 1677 = .ok (.iconst 4, 1) := by decide +kernel
theorem d_Law_1678 : decode code 1678 = .ok (.iadd, 1) := by decide +kernel
theorem d_Law_1679 : decode code 1679 = .ok (.iaload, 1) := by decide +kernel
theorem d_Law_1680 : decode code 1680 = .ok (.invokevirtual 185, 3) := by decide +kernel
theorem d_Law_1683 : decode code 1683 = .ok (.pop, 1) := by decide +kernel
theorem d_Law_1684 : decode code 1684 = .ok (.aload_n 2, 1) := by decide +kernel
theorem d_Law_1685 : decode code 1685 = .ok (.aload_n 0, 1) := by decide +kernel
theorem d_Law_1686 : decode code 1686 = .ok (.iload_n 3, 1) := by decide +kernel
theorem d_Law_1687 : decode code 1687 = .ok (.iconst 1, 1) := by decide +kernel
theorem d_Law_1688 : decode code 1688 = .ok (.iadd, 1) := by decide +kernel
theorem d_Law_1689 : decode code 1689 = .ok (.iaload, 1) := by decide +kernel
theorem d_Law_1690 : decode code 1690 = .ok (.aload_n 0, 1) := by decide +kernel
theorem d_Law_1691 : decode code 1691 = .ok (.iload_n 3, 1) := by decide +kernel
theorem d_Law_1692 : decode code 1692 = .ok (.iconst 2, 1) := by decide +kernel
theorem d_Law_1693 : decode code 1693 = .ok (.iadd, 1) := by decide +kernel
theorem d_Law_1694 : decode code 1694 = .ok (.iaload, 1) := by decide +kernel
theorem d_Law_1695 : decode code 1695 = .ok (.aload_n 0, 1) := by decide +kernel
theorem d_Law_1696 : decode code 1696 = .ok (.iload_n 3, 1) := by decide +kernel
theorem d_Law_1697 : decode code 1697 = .ok (.iconst 3, 1) := by decide +kernel
theorem d_Law_1698 : decode code 1698 = .ok (.iadd, 1) := by decide +kernel
theorem d_Law_1699 : decode code 1699 = .ok (.iaload, 1) := by decide +kernel
theorem d_Law_1700 : decode code 1700 = .ok (.aload_n 0, 1) := by decide +kernel
theorem d_Law_1701 : decode code 1701 = .ok (.iload_n 3, 1) := by decide +kernel
theorem d_Law_1702 : decode code 1702 = .ok (.iconst 4, 1) := by decide +kernel
theorem d_Law_1703 : decode code 1703 = .ok (.iadd, 1) := by decide +kernel
theorem d_Law_1704 : decode code 1704 = .ok (.iaload, 1) := by decide +kernel
theorem d_Law_1705 : decode code 1705 = .ok (.invokevirtual 188, 3) := by decide +kernel
theorem d_Law_1708 : decode code 1708 = .ok (.pop, 1) := by decide +kernel
theorem d_Law_1709 : decode code 1709 = .ok (.goto 59, 3) := by decide +kernel
theorem d_Law_1712 : decode code 1712 = .ok (.aload_n 1, 1) := by decide +kernel
theorem d_Law_1713 : decode code 1713 = .ok (.aload_n 0, 1) := by decide +kernel
theorem d_Law_1714 : decode code 1714 = .ok (.iload_n 3, 1) := by decide +kernel
theorem d_Law_1715 : decode code 1715 = .ok (.iconst 1, 1) := by decide +kernel
theorem d_Law_1716 : decode code 1716 = .ok (.iadd, 1) := by decide +kernel
theorem d_Law_1717 : decode code 1717 = .ok (.iaload, 1) := by decide +kernel
theorem d_Law_1718 : decode code 1718 = .ok (.aload_n 0, 1) := by decide +kernel
theorem d_Law_1719 : decode code 1719 = .ok (.iload_n 3, 1) := by decide +kernel
theorem d_Law_1720 : decode code 1720 = .ok (.iconst 2, 1) := by decide +kernel
theorem d_Law_1721 : decode code 1721 = .ok (.iadd, 1) := by decide +kernel
theorem d_Law_1722 : decode code 1722 = .ok (.iaload, 1) := by decide +kernel
theorem d_Law_1723 : decode code 1723 = .ok (.invokevirtual 189, 3) := by decide +kernel
theorem d_Law_1726 : decode code 1726 = .ok (.pop, 1) := by decide +kernel
theorem d_Law_1727 : decode code 1727 = .ok (.aload_n 2, 1) := by decide +kernel
theorem d_Law_1728 : decode code 1728 = .ok (.aload_n 0, 1) := by decide +kernel
theorem d_Law_1729 : decode code 1729 = .ok (.iload_n 3, 1) := by decide +kernel
theorem d_Law_1730 : decode code 1730 = .ok (.iconst 1, 1) := by decide +kernel
theorem d_Law_1731 : decode code 1731 = .ok (.iadd, 1) := by decide +kernel
theorem d_Law_1732 : decode code 1732 = .ok (.iaload, 1) := by decide +kernel
theorem d_Law_1733 : decode code 1733 = .ok (.aload_n 0, 1) := by decide +kernel
theorem d_Law_1734 : decode code 1734 = .ok (.iload_n 3, 1) := by decide +kernel
theorem d_Law_1735 : decode code 1735 = .ok (.iconst 2, 1) := by decide +kernel
theorem d_Law_1736 : decode code 1736 = .ok (.iadd, 1) := by decide +kernel
theorem d_Law_1737 : decode code 1737 = .ok (.iaload, 1) := by decide +kernel
theorem d_Law_1738 : decode code 1738 = .ok (.invokevirtual 192, 3) := by decide +kernel
theorem d_Law_1741 : decode code 1741 = .ok (.pop, 1) := by decide +kernel
theorem d_Law_1742 : decode code 1742 = .ok (.goto 26, 3) := by decide +kernel
theorem d_Law_1745 : decode code 1745 = .ok (.aload_n 1, 1) := by decide +kernel
theorem d_Law_1746 : decode code 1746 = .ok (.aload_n 0, 1) := by decide +kernel
theorem d_Law_1747 : decode code 1747 = .ok (.iload_n 3, 1) := by decide +kernel
theorem d_Law_1748 : decode code 1748 = .ok (.iconst 1, 1) := by decide +kernel
theorem d_Law_1749 : decode code 1749 = .ok (.iadd, 1) := by decide +kernel
theorem d_Law_1750 : decode code 1750 = .ok (.iaload, 1) := by decide +kernel
theorem d_Law_1751 : decode code 1751 = .ok (.invokevirtual 193, 3) := by decide +kernel
theorem d_Law_1754 : decode code 1754 = .ok (.pop, 1) := by decide +kernel
theorem d_Law_1755 : decode code 1755 = .ok (.aload_n 2, 1) := by decide +kernel
theorem d_Law_1756 : decode code 1756 = .ok (.aload_n 0, 1) := by decide +kernel
theorem d_Law_1757 : decode code 1757 = .ok (.iload_n 3, 1) := by decide +kernel
theorem d_Law_1758 : decode code 1758 = .ok (.iconst 1, 1) := by decide +kernel
theorem d_Law_1759 : decode code 1759 = .ok (.iadd, 1) := by decide +kernel
theorem d_Law_1760 : decode code 1760 = .ok (.iaload, 1) := by decide +kernel
theorem d_Law_1761 : decode code 1761 = .ok (.invokevirtual 196, 3) := by decide +kernel
theorem d_Law_1764 : decode code 1764 = .ok (.pop, 1) := by decide +kernel
theorem d_Law_1765 : decode code 1765 = .ok (.goto 3, 3) := by decide +kernel
theorem d_Law_1768 : decode code 1768 = .ok (.iinc 3 6, 3) := by decide +kernel
theorem d_Law_1771 : decode code 1771 = .ok (.goto (-1753), 3) := by decide +kernel
theorem d_Law_1774 : decode code 1774 = .ok (.iconst 1, 1) := by decide +kernel
theorem d_Law_1775 : decode code 1775 = .ok (.ireturn, 1) := by decide +kernel
abbrev ra_Law (mc ms : Nat) : Room := { frames := 2048, cells := mc, slots := ms, locals := 84000 }
def wja_Law_1768 (mc ms : Nat) (lenS : Nat) (xS : Nat → Int32) (Post : Ly → St → Int32 → Nat → Nat → Prop) (K_18 : Ly → St → Nat → Nat → Int32 → Prop) (y_j1768 : Ly) (s_j1768 : St) (d_j1768 e_j1768 : Nat) (x3j1768 : Int32) : Prop := (d_j1768 ≤ mc ∧ e_j1768 ≤ ms) ∧ K_18 y_j1768 s_j1768 d_j1768 e_j1768 (x3j1768 + 6)
def wja_Law_895 (mc ms : Nat) (lenS : Nat) (xS : Nat → Int32) (Post : Ly → St → Int32 → Nat → Nat → Prop) (K_18 : Ly → St → Nat → Nat → Int32 → Prop) (y_j895 : Ly) (s_j895 : St) (d_j895 e_j895 : Nat) (x3j895 : Int32) (z1j895 : Int32) (z2j895 : Int32) (z3j895 : Int32) : Prop := (d_j895 ≤ mc ∧ e_j895 ≤ ms) ∧ xL lenS xS (x3j895 + 4) (fun x_201 : Int32 => wu_Mo_value y_j895 (fun (s_203 : St) (r_202 : Int32) => wja_Law_1768 mc ms lenS xS Post K_18 y_j895 s_203 d_j895 e_j895 x3j895) s_j895 76 z1j895 z2j895 z3j895 x_201)
def wja_Law_862 (mc ms : Nat) (lenS : Nat) (xS : Nat → Int32) (Post : Ly → St → Int32 → Nat → Nat → Prop) (K_18 : Ly → St → Nat → Nat → Int32 → Prop) (y_j862 : Ly) (s_j862 : St) (d_j862 e_j862 : Nat) (x3j862 : Int32) (z1j862 : Int32) (z2j862 : Int32) (z3j862 : Int32) : Prop := (d_j862 ≤ mc ∧ e_j862 ≤ ms) ∧ xL lenS xS (x3j862 + 4) (fun x_195 : Int32 => wu_Cw_value y_j862 (fun (s_197 : St) (r_196 : Int32) => xL lenS xS (x3j862 + 1) (fun x_198 : Int32 => xL lenS xS (x3j862 + 2) (fun x_199 : Int32 => xL lenS xS (x3j862 + 3) (fun x_200 : Int32 => ((x_200 = 0 → wja_Law_895 mc ms lenS xS Post K_18 y_j862 s_197 d_j862 e_j862 x3j862 x_198 x_199 0) ∧ (¬ (x_200 = 0) → wja_Law_895 mc ms lenS xS Post K_18 y_j862 s_197 d_j862 e_j862 x3j862 x_198 x_199 1)))))) s_j862 0 z1j862 z2j862 z3j862 x_195)
def wja_Law_1111 (mc ms : Nat) (lenS : Nat) (xS : Nat → Int32) (Post : Ly → St → Int32 → Nat → Nat → Prop) (K_18 : Ly → St → Nat → Nat → Int32 → Prop) (y_j1111 : Ly) (s_j1111 : St) (d_j1111 e_j1111 : Nat) (x3j1111 : Int32) (z1j1111 : Int32) (z2j1111 : Int32) (z3j1111 : Int32) (z4j1111 : Int32) : Prop := (d_j1111 ≤ mc ∧ e_j1111 ≤ ms) ∧ wu_Mo_kinds y_j1111 (fun (s_261 : St) (r_260 : Int32) => wja_Law_1768 mc ms lenS xS Post K_18 y_j1111 s_261 d_j1111 e_j1111 x3j1111) s_j1111 76 z1j1111 z2j1111 z3j1111 z4j1111
def wja_Law_1078 (mc ms : Nat) (lenS : Nat) (xS : Nat → Int32) (Post : Ly → St → Int32 → Nat → Nat → Prop) (K_18 : Ly → St → Nat → Nat → Int32 → Prop) (y_j1078 : Ly) (s_j1078 : St) (d_j1078 e_j1078 : Nat) (x3j1078 : Int32) (z1j1078 : Int32) (z2j1078 : Int32) (z3j1078 : Int32) (z4j1078 : Int32) : Prop := (d_j1078 ≤ mc ∧ e_j1078 ≤ ms) ∧ wu_Cw_kinds y_j1078 (fun (s_255 : St) (r_254 : Int32) => xL lenS xS (x3j1078 + 1) (fun x_256 : Int32 => xL lenS xS (x3j1078 + 2) (fun x_257 : Int32 => xL lenS xS (x3j1078 + 3) (fun x_258 : Int32 => xL lenS xS (x3j1078 + 4) (fun x_259 : Int32 => ((x_259 = 0 → wja_Law_1111 mc ms lenS xS Post K_18 y_j1078 s_255 d_j1078 e_j1078 x3j1078 x_256 x_257 x_258 0) ∧ (¬ (x_259 = 0) → wja_Law_1111 mc ms lenS xS Post K_18 y_j1078 s_255 d_j1078 e_j1078 x3j1078 x_256 x_257 x_258 1))))))) s_j1078 0 z1j1078 z2j1078 z3j1078 z4j1078
def wba_Law_18 (mc ms : Nat) (lenS : Nat) (xS : Nat → Int32) (Post : Ly → St → Int32 → Nat → Nat → Prop) (K_18 : Ly → St → Nat → Nat → Int32 → Prop) (y_h18 : Ly) (s_h18 : St) (d_h18 e_h18 : Nat) (x3h18 : Int32) : Prop := (d_h18 ≤ mc ∧ e_h18 ≤ ms) ∧ ((((nI lenS) - 6) < x3h18 → (nb 1 ∧ Post y_h18 s_h18 1 d_h18 e_h18)) ∧ (¬ (((nI lenS) - 6) < x3h18) → xL lenS xS x3h18 (fun x_1 : Int32 => (((x_1 &&& 63) = 0 → xL lenS xS (x3h18 + 1) (fun x_2 : Int32 => xL lenS xS (x3h18 + 2) (fun x_3 : Int32 => xL lenS xS (x3h18 + 3) (fun x_4 : Int32 => xL lenS xS (x3h18 + 4) (fun x_5 : Int32 => xL lenS xS (x3h18 + 5) (fun x_6 : Int32 => wu_Cw_feed y_h18 (fun (s_8 : St) (r_7 : Int32) => xL lenS xS (x3h18 + 1) (fun x_9 : Int32 => xL lenS xS (x3h18 + 2) (fun x_10 : Int32 => xL lenS xS (x3h18 + 3) (fun x_11 : Int32 => xL lenS xS (x3h18 + 4) (fun x_12 : Int32 => xL lenS xS (x3h18 + 5) (fun x_13 : Int32 => wu_Mo_feed y_h18 (fun (s_15 : St) (r_14 : Int32) => ((r_7 = r_14 → wja_Law_1768 mc ms lenS xS Post K_18 y_h18 s_15 d_h18 e_h18 x3h18) ∧ (¬ (r_7 = r_14) → (nb 0 ∧ Post y_h18 s_15 0 d_h18 e_h18)))) s_8 76 x_9 x_10 x_11 x_12 x_13)))))) s_h18 0 x_2 x_3 x_4 x_5 x_6)))))) ∧ (¬ ((x_1 &&& 63) = 0) → (((x_1 &&& 63) = 1 → xL lenS xS (x3h18 + 1) (fun x_16 : Int32 => wu_Cw_cut y_h18 (fun (s_18 : St) (r_17 : Int32) => xL lenS xS (x3h18 + 1) (fun x_19 : Int32 => wu_Mo_cut y_h18 (fun (s_21 : St) (r_20 : Int32) => ((r_17 = r_20 → wja_Law_1768 mc ms lenS xS Post K_18 y_h18 s_21 d_h18 e_h18 x3h18) ∧ (¬ (r_17 = r_20) → (nb 0 ∧ Post y_h18 s_21 0 d_h18 e_h18)))) s_18 76 x_19)) s_h18 0 x_16)) ∧ (¬ ((x_1 &&& 63) = 1) → (((x_1 &&& 63) = 2 → xL lenS xS (x3h18 + 1) (fun x_22 : Int32 => wu_Cw_world y_h18 (fun (s_24 : St) (r_23 : Int32) => xL lenS xS (x3h18 + 1) (fun x_25 : Int32 => wu_Mo_world y_h18 (fun (s_27 : St) (r_26 : Int32) => ((r_23 = r_26 → wja_Law_1768 mc ms lenS xS Post K_18 y_h18 s_27 d_h18 e_h18 x3h18) ∧ (¬ (r_23 = r_26) → (nb 0 ∧ Post y_h18 s_27 0 d_h18 e_h18)))) s_24 76 x_25)) s_h18 0 x_22)) ∧ (¬ ((x_1 &&& 63) = 2) → (((x_1 &&& 63) = 3 → xL lenS xS (x3h18 + 1) (fun x_28 : Int32 => wu_Cw_drop y_h18 (fun (s_30 : St) (r_29 : Int32) => xL lenS xS (x3h18 + 1) (fun x_31 : Int32 => wu_Mo_drop y_h18 (fun (s_33 : St) (r_32 : Int32) => wja_Law_1768 mc ms lenS xS Post K_18 y_h18 s_33 d_h18 e_h18 x3h18) s_30 76 x_31)) s_h18 0 x_28)) ∧ (¬ ((x_1 &&& 63) = 3) → (((x_1 &&& 63) = 4 → xL lenS xS (x3h18 + 1) (fun x_34 : Int32 => ∃ mc_40 ms_41 : Nat, (d_h18 + mc_40 ≤ mc ∧ e_h18 + ms_41 ≤ ms) ∧ wa_Cw_define mc_40 ms_41 y_h18 (fun (y_37 : Ly) (s_36 : St) (r_35 : Int32) (d_38 e_39 : Nat) => (d_h18 + d_38 ≤ mc ∧ e_h18 + e_39 ≤ ms) ∧ xL lenS xS (x3h18 + 1) (fun x_43 : Int32 => ∃ mc_49 ms_50 : Nat, (d_h18 + d_38 + mc_49 ≤ mc ∧ e_h18 + e_39 + ms_50 ≤ ms) ∧ wa_Mo_define mc_49 ms_50 y_37 (fun (y_46 : Ly) (s_45 : St) (r_44 : Int32) (d_47 e_48 : Nat) => (d_h18 + d_38 + d_47 ≤ mc ∧ e_h18 + e_39 + e_48 ≤ ms) ∧ wja_Law_1768 mc ms lenS xS Post K_18 y_46 s_45 (d_h18 + d_38 + d_47) (e_h18 + e_39 + e_48) x3h18) s_36 76 x_43)) s_h18 0 x_34)) ∧ (¬ ((x_1 &&& 63) = 4) → (((x_1 &&& 63) = 5 → wu_Cw_place y_h18 (fun (s_53 : St) (r_52 : Int32) => wu_Mo_place y_h18 (fun (s_55 : St) (r_54 : Int32) => wja_Law_1768 mc ms lenS xS Post K_18 y_h18 s_55 d_h18 e_h18 x3h18) s_53 76) s_h18 0) ∧ (¬ ((x_1 &&& 63) = 5) → (((x_1 &&& 63) = 6 → xL lenS xS (x3h18 + 1) (fun x_56 : Int32 => wu_Cw_classes y_h18 (fun (s_58 : St) (r_57 : Int32) => xL lenS xS (x3h18 + 1) (fun x_59 : Int32 => wu_Mo_classes y_h18 (fun (s_61 : St) (r_60 : Int32) => wja_Law_1768 mc ms lenS xS Post K_18 y_h18 s_61 d_h18 e_h18 x3h18) s_58 76 x_59)) s_h18 0 x_56)) ∧ (¬ ((x_1 &&& 63) = 6) → (((x_1 &&& 63) = 7 → xL lenS xS (x3h18 + 1) (fun x_62 : Int32 => xL lenS xS (x3h18 + 2) (fun x_63 : Int32 => xL lenS xS (x3h18 + 3) (fun x_64 : Int32 => wu_Cw_told y_h18 (fun (s_66 : St) (r_65 : Int32) => xL lenS xS (x3h18 + 1) (fun x_67 : Int32 => xL lenS xS (x3h18 + 2) (fun x_68 : Int32 => xL lenS xS (x3h18 + 3) (fun x_69 : Int32 => wu_Mo_told y_h18 (fun (s_71 : St) (r_70 : Int32) => wja_Law_1768 mc ms lenS xS Post K_18 y_h18 s_71 d_h18 e_h18 x3h18) s_66 76 x_67 x_68 x_69)))) s_h18 0 x_62 x_63 x_64)))) ∧ (¬ ((x_1 &&& 63) = 7) → (((x_1 &&& 63) = 8 → xL lenS xS (x3h18 + 1) (fun x_72 : Int32 => xL lenS xS (x3h18 + 2) (fun x_73 : Int32 => xL lenS xS (x3h18 + 3) (fun x_74 : Int32 => xL lenS xS (x3h18 + 4) (fun x_75 : Int32 => xL lenS xS (x3h18 + 5) (fun x_76 : Int32 => wu_Cw_name y_h18 (fun (s_78 : St) (r_77 : Int32) => xL lenS xS (x3h18 + 1) (fun x_79 : Int32 => xL lenS xS (x3h18 + 2) (fun x_80 : Int32 => xL lenS xS (x3h18 + 3) (fun x_81 : Int32 => xL lenS xS (x3h18 + 4) (fun x_82 : Int32 => xL lenS xS (x3h18 + 5) (fun x_83 : Int32 => wu_Mo_name y_h18 (fun (s_85 : St) (r_84 : Int32) => wja_Law_1768 mc ms lenS xS Post K_18 y_h18 s_85 d_h18 e_h18 x3h18) s_78 76 x_79 x_80 x_81 x_82 x_83)))))) s_h18 0 x_72 x_73 x_74 x_75 x_76)))))) ∧ (¬ ((x_1 &&& 63) = 8) → (((x_1 &&& 63) = 9 → xL lenS xS (x3h18 + 1) (fun x_86 : Int32 => xL lenS xS (x3h18 + 2) (fun x_87 : Int32 => xL lenS xS (x3h18 + 3) (fun x_88 : Int32 => xL lenS xS (x3h18 + 4) (fun x_89 : Int32 => wu_Cw_member y_h18 (fun (s_91 : St) (r_90 : Int32) => xL lenS xS (x3h18 + 1) (fun x_92 : Int32 => xL lenS xS (x3h18 + 2) (fun x_93 : Int32 => xL lenS xS (x3h18 + 3) (fun x_94 : Int32 => xL lenS xS (x3h18 + 4) (fun x_95 : Int32 => wu_Mo_member y_h18 (fun (s_97 : St) (r_96 : Int32) => wja_Law_1768 mc ms lenS xS Post K_18 y_h18 s_97 d_h18 e_h18 x3h18) s_91 76 x_92 x_93 x_94 x_95))))) s_h18 0 x_86 x_87 x_88 x_89))))) ∧ (¬ ((x_1 &&& 63) = 9) → (((x_1 &&& 63) = 10 → xL lenS xS (x3h18 + 1) (fun x_98 : Int32 => xL lenS xS (x3h18 + 2) (fun x_99 : Int32 => ∃ mc_105 ms_106 : Nat, (d_h18 + mc_105 ≤ mc ∧ e_h18 + ms_106 ≤ ms) ∧ wa_Cw_link mc_105 ms_106 y_h18 (fun (y_102 : Ly) (s_101 : St) (r_100 : Int32) (d_103 e_104 : Nat) => (d_h18 + d_103 ≤ mc ∧ e_h18 + e_104 ≤ ms) ∧ xL lenS xS (x3h18 + 1) (fun x_108 : Int32 => xL lenS xS (x3h18 + 2) (fun x_109 : Int32 => wu_Mo_link y_102 (fun (s_111 : St) (r_110 : Int32) => wja_Law_1768 mc ms lenS xS Post K_18 y_102 s_111 (d_h18 + d_103) (e_h18 + e_104) x3h18) s_101 76 x_108 x_109))) s_h18 0 x_98 x_99))) ∧ (¬ ((x_1 &&& 63) = 10) → (((x_1 &&& 63) = 11 → xL lenS xS (x3h18 + 1) (fun x_112 : Int32 => xL lenS xS (x3h18 + 2) (fun x_113 : Int32 => wu_Cw_checked y_h18 (fun (s_115 : St) (r_114 : Int32) => xL lenS xS (x3h18 + 1) (fun x_116 : Int32 => xL lenS xS (x3h18 + 2) (fun x_117 : Int32 => wu_Mo_checked y_h18 (fun (s_119 : St) (r_118 : Int32) => wja_Law_1768 mc ms lenS xS Post K_18 y_h18 s_119 d_h18 e_h18 x3h18) s_115 76 x_116 x_117))) s_h18 0 x_112 x_113))) ∧ (¬ ((x_1 &&& 63) = 11) → (((x_1 &&& 63) = 12 → xL lenS xS (x3h18 + 1) (fun x_120 : Int32 => xL lenS xS (x3h18 + 2) (fun x_121 : Int32 => ∃ mc_127 ms_128 : Nat, (d_h18 + mc_127 ≤ mc ∧ e_h18 + ms_128 ≤ ms) ∧ wa_Cw_call mc_127 ms_128 y_h18 (fun (y_124 : Ly) (s_123 : St) (r_122 : Int32) (d_125 e_126 : Nat) => (d_h18 + d_125 ≤ mc ∧ e_h18 + e_126 ≤ ms) ∧ xL lenS xS (x3h18 + 1) (fun x_130 : Int32 => xL lenS xS (x3h18 + 2) (fun x_131 : Int32 => ∃ mc_137 ms_138 : Nat, (d_h18 + d_125 + mc_137 ≤ mc ∧ e_h18 + e_126 + ms_138 ≤ ms) ∧ wa_Mo_call mc_137 ms_138 y_124 (fun (y_134 : Ly) (s_133 : St) (r_132 : Int32) (d_135 e_136 : Nat) => (d_h18 + d_125 + d_135 ≤ mc ∧ e_h18 + e_126 + e_136 ≤ ms) ∧ wja_Law_1768 mc ms lenS xS Post K_18 y_134 s_133 (d_h18 + d_125 + d_135) (e_h18 + e_126 + e_136) x3h18) s_123 76 x_130 x_131))) s_h18 0 x_120 x_121))) ∧ (¬ ((x_1 &&& 63) = 12) → (((x_1 &&& 63) = 13 → xL lenS xS (x3h18 + 1) (fun x_140 : Int32 => xL lenS xS (x3h18 + 2) (fun x_141 : Int32 => wu_Cw_quantum y_h18 (fun (s_143 : St) (r_142 : Int32) => xL lenS xS (x3h18 + 1) (fun x_144 : Int32 => xL lenS xS (x3h18 + 2) (fun x_145 : Int32 => wu_Mo_quantum y_h18 (fun (s_147 : St) (r_146 : Int32) => wja_Law_1768 mc ms lenS xS Post K_18 y_h18 s_147 d_h18 e_h18 x3h18) s_143 76 x_144 x_145))) s_h18 0 x_140 x_141))) ∧ (¬ ((x_1 &&& 63) = 13) → (((x_1 &&& 63) = 14 → xL lenS xS (x3h18 + 1) (fun x_148 : Int32 => wu_Cw_halt y_h18 (fun (s_150 : St) (r_149 : Int32) => xL lenS xS (x3h18 + 1) (fun x_151 : Int32 => wu_Mo_halt y_h18 (fun (s_153 : St) (r_152 : Int32) => wja_Law_1768 mc ms lenS xS Post K_18 y_h18 s_153 d_h18 e_h18 x3h18) s_150 76 x_151)) s_h18 0 x_148)) ∧ (¬ ((x_1 &&& 63) = 14) → (((x_1 &&& 63) = 15 → xL lenS xS (x3h18 + 1) (fun x_154 : Int32 => xL lenS xS (x3h18 + 2) (fun x_155 : Int32 => ∃ mc_161 ms_162 : Nat, (d_h18 + mc_161 ≤ mc ∧ e_h18 + ms_162 ≤ ms) ∧ wa_Cw_step mc_161 ms_162 y_h18 (fun (y_158 : Ly) (s_157 : St) (r_156 : Int32) (d_159 e_160 : Nat) => (d_h18 + d_159 ≤ mc ∧ e_h18 + e_160 ≤ ms) ∧ xL lenS xS (x3h18 + 1) (fun x_164 : Int32 => xL lenS xS (x3h18 + 2) (fun x_165 : Int32 => ∃ mc_171 ms_172 : Nat, (d_h18 + d_159 + mc_171 ≤ mc ∧ e_h18 + e_160 + ms_172 ≤ ms) ∧ wa_Mo_step mc_171 ms_172 y_158 (fun (y_168 : Ly) (s_167 : St) (r_166 : Int32) (d_169 e_170 : Nat) => (d_h18 + d_159 + d_169 ≤ mc ∧ e_h18 + e_160 + e_170 ≤ ms) ∧ wja_Law_1768 mc ms lenS xS Post K_18 y_168 s_167 (d_h18 + d_159 + d_169) (e_h18 + e_160 + e_170) x3h18) s_157 76 x_164 x_165))) s_h18 0 x_154 x_155))) ∧ (¬ ((x_1 &&& 63) = 15) → (((x_1 &&& 63) = 16 → xL lenS xS (x3h18 + 1) (fun x_174 : Int32 => xL lenS xS (x3h18 + 2) (fun x_175 : Int32 => xL lenS xS (x3h18 + 3) (fun x_176 : Int32 => wu_Cw_run y_h18 (fun (s_178 : St) (r_177 : Int32) => xL lenS xS (x3h18 + 1) (fun x_179 : Int32 => xL lenS xS (x3h18 + 2) (fun x_180 : Int32 => xL lenS xS (x3h18 + 3) (fun x_181 : Int32 => wu_Mo_run y_h18 (fun (s_183 : St) (r_182 : Int32) => wja_Law_1768 mc ms lenS xS Post K_18 y_h18 s_183 d_h18 e_h18 x3h18) s_178 76 x_179 x_180 x_181)))) s_h18 0 x_174 x_175 x_176)))) ∧ (¬ ((x_1 &&& 63) = 16) → (((x_1 &&& 63) = 17 → xL lenS xS (x3h18 + 1) (fun x_184 : Int32 => xL lenS xS (x3h18 + 2) (fun x_185 : Int32 => wu_Cw_started y_h18 (fun (s_187 : St) (r_186 : Int32) => xL lenS xS (x3h18 + 1) (fun x_188 : Int32 => xL lenS xS (x3h18 + 2) (fun x_189 : Int32 => wu_Mo_started y_h18 (fun (s_191 : St) (r_190 : Int32) => wja_Law_1768 mc ms lenS xS Post K_18 y_h18 s_191 d_h18 e_h18 x3h18) s_187 76 x_188 x_189))) s_h18 0 x_184 x_185))) ∧ (¬ ((x_1 &&& 63) = 17) → (((x_1 &&& 63) = 18 → xL lenS xS (x3h18 + 1) (fun x_192 : Int32 => xL lenS xS (x3h18 + 2) (fun x_193 : Int32 => xL lenS xS (x3h18 + 3) (fun x_194 : Int32 => ((x_194 = 0 → wja_Law_862 mc ms lenS xS Post K_18 y_h18 s_h18 d_h18 e_h18 x3h18 x_192 x_193 0) ∧ (¬ (x_194 = 0) → wja_Law_862 mc ms lenS xS Post K_18 y_h18 s_h18 d_h18 e_h18 x3h18 x_192 x_193 1)))))) ∧ (¬ ((x_1 &&& 63) = 18) → (((x_1 &&& 63) = 19 → xL lenS xS (x3h18 + 1) (fun x_204 : Int32 => xL lenS xS (x3h18 + 2) (fun x_205 : Int32 => xL lenS xS (x3h18 + 3) (fun x_206 : Int32 => wu_Cw_fixed y_h18 (fun (s_208 : St) (r_207 : Int32) => xL lenS xS (x3h18 + 1) (fun x_209 : Int32 => xL lenS xS (x3h18 + 2) (fun x_210 : Int32 => xL lenS xS (x3h18 + 3) (fun x_211 : Int32 => wu_Mo_fixed y_h18 (fun (s_213 : St) (r_212 : Int32) => wja_Law_1768 mc ms lenS xS Post K_18 y_h18 s_213 d_h18 e_h18 x3h18) s_208 76 x_209 x_210 x_211)))) s_h18 0 x_204 x_205 x_206)))) ∧ (¬ ((x_1 &&& 63) = 19) → (((x_1 &&& 63) = 20 → xL lenS xS (x3h18 + 1) (fun x_214 : Int32 => xL lenS xS (x3h18 + 2) (fun x_215 : Int32 => xL lenS xS (x3h18 + 3) (fun x_216 : Int32 => wu_Cw_object y_h18 (fun (s_218 : St) (r_217 : Int32) => xL lenS xS (x3h18 + 1) (fun x_219 : Int32 => xL lenS xS (x3h18 + 2) (fun x_220 : Int32 => xL lenS xS (x3h18 + 3) (fun x_221 : Int32 => wu_Mo_object y_h18 (fun (s_223 : St) (r_222 : Int32) => wja_Law_1768 mc ms lenS xS Post K_18 y_h18 s_223 d_h18 e_h18 x3h18) s_218 76 x_219 x_220 x_221)))) s_h18 0 x_214 x_215 x_216)))) ∧ (¬ ((x_1 &&& 63) = 20) → (((x_1 &&& 63) = 21 → xL lenS xS (x3h18 + 1) (fun x_224 : Int32 => xL lenS xS (x3h18 + 2) (fun x_225 : Int32 => ∃ mc_231 ms_232 : Nat, (d_h18 + mc_231 ≤ mc ∧ e_h18 + ms_232 ≤ ms) ∧ wa_Cw_print mc_231 ms_232 y_h18 (fun (y_228 : Ly) (s_227 : St) (r_226 : Int32) (d_229 e_230 : Nat) => (d_h18 + d_229 ≤ mc ∧ e_h18 + e_230 ≤ ms) ∧ xL lenS xS (x3h18 + 1) (fun x_234 : Int32 => xL lenS xS (x3h18 + 2) (fun x_235 : Int32 => ∃ mc_241 ms_242 : Nat, (d_h18 + d_229 + mc_241 ≤ mc ∧ e_h18 + e_230 + ms_242 ≤ ms) ∧ wa_Mo_print mc_241 ms_242 y_228 (fun (y_238 : Ly) (s_237 : St) (r_236 : Int32) (d_239 e_240 : Nat) => (d_h18 + d_229 + d_239 ≤ mc ∧ e_h18 + e_230 + e_240 ≤ ms) ∧ wja_Law_1768 mc ms lenS xS Post K_18 y_238 s_237 (d_h18 + d_229 + d_239) (e_h18 + e_230 + e_240) x3h18) s_227 76 x_234 x_235))) s_h18 0 x_224 x_225))) ∧ (¬ ((x_1 &&& 63) = 21) → (((x_1 &&& 63) = 22 → xL lenS xS (x3h18 + 1) (fun x_244 : Int32 => wu_Cw_written y_h18 (fun (s_246 : St) (r_245 : Int32) => xL lenS xS (x3h18 + 1) (fun x_247 : Int32 => wu_Mo_written y_h18 (fun (s_249 : St) (r_248 : Int32) => wja_Law_1768 mc ms lenS xS Post K_18 y_h18 s_249 d_h18 e_h18 x3h18) s_246 76 x_247)) s_h18 0 x_244)) ∧ (¬ ((x_1 &&& 63) = 22) → (((x_1 &&& 63) = 23 → xL lenS xS (x3h18 + 1) (fun x_250 : Int32 => xL lenS xS (x3h18 + 2) (fun x_251 : Int32 => xL lenS xS (x3h18 + 3) (fun x_252 : Int32 => xL lenS xS (x3h18 + 4) (fun x_253 : Int32 => ((x_253 = 0 → wja_Law_1078 mc ms lenS xS Post K_18 y_h18 s_h18 d_h18 e_h18 x3h18 x_250 x_251 x_252 0) ∧ (¬ (x_253 = 0) → wja_Law_1078 mc ms lenS xS Post K_18 y_h18 s_h18 d_h18 e_h18 x3h18 x_250 x_251 x_252 1))))))) ∧ (¬ ((x_1 &&& 63) = 23) → (((x_1 &&& 63) = 24 → xL lenS xS (x3h18 + 1) (fun x_262 : Int32 => xL lenS xS (x3h18 + 2) (fun x_263 : Int32 => wu_Cw_kind y_h18 (fun (s_265 : St) (r_264 : Int32) => xL lenS xS (x3h18 + 1) (fun x_266 : Int32 => xL lenS xS (x3h18 + 2) (fun x_267 : Int32 => wu_Mo_kind y_h18 (fun (s_269 : St) (r_268 : Int32) => wja_Law_1768 mc ms lenS xS Post K_18 y_h18 s_269 d_h18 e_h18 x3h18) s_265 76 x_266 x_267))) s_h18 0 x_262 x_263))) ∧ (¬ ((x_1 &&& 63) = 24) → (((x_1 &&& 63) = 25 → xL lenS xS (x3h18 + 1) (fun x_270 : Int32 => xL lenS xS (x3h18 + 2) (fun x_271 : Int32 => xL lenS xS (x3h18 + 3) (fun x_272 : Int32 => xL lenS xS (x3h18 + 4) (fun x_273 : Int32 => ∃ mc_279 ms_280 : Nat, (d_h18 + mc_279 ≤ mc ∧ e_h18 + ms_280 ≤ ms) ∧ wa_Cw_foretell mc_279 ms_280 y_h18 (fun (y_276 : Ly) (s_275 : St) (r_274 : Int32) (d_277 e_278 : Nat) => (d_h18 + d_277 ≤ mc ∧ e_h18 + e_278 ≤ ms) ∧ xL lenS xS (x3h18 + 1) (fun x_282 : Int32 => xL lenS xS (x3h18 + 2) (fun x_283 : Int32 => xL lenS xS (x3h18 + 3) (fun x_284 : Int32 => xL lenS xS (x3h18 + 4) (fun x_285 : Int32 => wu_Mo_foretell y_276 (fun (s_287 : St) (r_286 : Int32) => wja_Law_1768 mc ms lenS xS Post K_18 y_276 s_287 (d_h18 + d_277) (e_h18 + e_278) x3h18) s_275 76 x_282 x_283 x_284 x_285))))) s_h18 0 x_270 x_271 x_272 x_273))))) ∧ (¬ ((x_1 &&& 63) = 25) → (((x_1 &&& 63) = 26 → xL lenS xS (x3h18 + 1) (fun x_288 : Int32 => xL lenS xS (x3h18 + 2) (fun x_289 : Int32 => ∃ mc_295 ms_296 : Nat, (d_h18 + mc_295 ≤ mc ∧ e_h18 + ms_296 ≤ ms) ∧ wa_Cw_asked mc_295 ms_296 y_h18 (fun (y_292 : Ly) (s_291 : St) (r_290 : Int32) (d_293 e_294 : Nat) => (d_h18 + d_293 ≤ mc ∧ e_h18 + e_294 ≤ ms) ∧ xL lenS xS (x3h18 + 1) (fun x_298 : Int32 => xL lenS xS (x3h18 + 2) (fun x_299 : Int32 => ∃ mc_305 ms_306 : Nat, (d_h18 + d_293 + mc_305 ≤ mc ∧ e_h18 + e_294 + ms_306 ≤ ms) ∧ wa_Mo_asked mc_305 ms_306 y_292 (fun (y_302 : Ly) (s_301 : St) (r_300 : Int32) (d_303 e_304 : Nat) => (d_h18 + d_293 + d_303 ≤ mc ∧ e_h18 + e_294 + e_304 ≤ ms) ∧ wja_Law_1768 mc ms lenS xS Post K_18 y_302 s_301 (d_h18 + d_293 + d_303) (e_h18 + e_294 + e_304) x3h18) s_291 76 x_298 x_299))) s_h18 0 x_288 x_289))) ∧ (¬ ((x_1 &&& 63) = 26) → (((x_1 &&& 63) = 27 → xL lenS xS (x3h18 + 1) (fun x_308 : Int32 => xL lenS xS (x3h18 + 2) (fun x_309 : Int32 => xL lenS xS (x3h18 + 3) (fun x_310 : Int32 => wu_Cw_trace y_h18 (fun (s_312 : St) (r_311 : Int32) => xL lenS xS (x3h18 + 1) (fun x_313 : Int32 => xL lenS xS (x3h18 + 2) (fun x_314 : Int32 => xL lenS xS (x3h18 + 3) (fun x_315 : Int32 => wu_Mo_trace y_h18 (fun (s_317 : St) (r_316 : Int32) => wja_Law_1768 mc ms lenS xS Post K_18 y_h18 s_317 d_h18 e_h18 x3h18) s_312 76 x_313 x_314 x_315)))) s_h18 0 x_308 x_309 x_310)))) ∧ (¬ ((x_1 &&& 63) = 27) → (((x_1 &&& 63) = 28 → xL lenS xS (x3h18 + 1) (fun x_318 : Int32 => xL lenS xS (x3h18 + 2) (fun x_319 : Int32 => wu_Cw_done y_h18 (fun (s_321 : St) (r_320 : Int32) => xL lenS xS (x3h18 + 1) (fun x_322 : Int32 => xL lenS xS (x3h18 + 2) (fun x_323 : Int32 => wu_Mo_done y_h18 (fun (s_325 : St) (r_324 : Int32) => wja_Law_1768 mc ms lenS xS Post K_18 y_h18 s_325 d_h18 e_h18 x3h18) s_321 76 x_322 x_323))) s_h18 0 x_318 x_319))) ∧ (¬ ((x_1 &&& 63) = 28) → (((x_1 &&& 63) = 29 → xL lenS xS (x3h18 + 1) (fun x_326 : Int32 => ∃ mc_332 ms_333 : Nat, (d_h18 + mc_332 ≤ mc ∧ e_h18 + ms_333 ≤ ms) ∧ wa_Cw_collect mc_332 ms_333 y_h18 (fun (y_329 : Ly) (s_328 : St) (r_327 : Int32) (d_330 e_331 : Nat) => (d_h18 + d_330 ≤ mc ∧ e_h18 + e_331 ≤ ms) ∧ xL lenS xS (x3h18 + 1) (fun x_335 : Int32 => wu_Mo_collect y_329 (fun (s_337 : St) (r_336 : Int32) => wja_Law_1768 mc ms lenS xS Post K_18 y_329 s_337 (d_h18 + d_330) (e_h18 + e_331) x3h18) s_328 76 x_335)) s_h18 0 x_326)) ∧ (¬ ((x_1 &&& 63) = 29) → (((x_1 &&& 63) = 30 → xL lenS xS (x3h18 + 1) (fun x_338 : Int32 => xL lenS xS (x3h18 + 2) (fun x_339 : Int32 => xL lenS xS (x3h18 + 3) (fun x_340 : Int32 => xL lenS xS (x3h18 + 4) (fun x_341 : Int32 => xL lenS xS (x3h18 + 5) (fun x_342 : Int32 => wu_Cw_differ y_h18 (fun (s_344 : St) (r_343 : Int32) => xL lenS xS (x3h18 + 1) (fun x_345 : Int32 => xL lenS xS (x3h18 + 2) (fun x_346 : Int32 => xL lenS xS (x3h18 + 3) (fun x_347 : Int32 => xL lenS xS (x3h18 + 4) (fun x_348 : Int32 => xL lenS xS (x3h18 + 5) (fun x_349 : Int32 => ∃ mc_355 ms_356 : Nat, (d_h18 + mc_355 ≤ mc ∧ e_h18 + ms_356 ≤ ms) ∧ wa_Mo_differ mc_355 ms_356 y_h18 (fun (y_352 : Ly) (s_351 : St) (r_350 : Int32) (d_353 e_354 : Nat) => (d_h18 + d_353 ≤ mc ∧ e_h18 + e_354 ≤ ms) ∧ wja_Law_1768 mc ms lenS xS Post K_18 y_352 s_351 (d_h18 + d_353) (e_h18 + e_354) x3h18) s_344 76 x_345 x_346 x_347 x_348 x_349)))))) s_h18 0 x_338 x_339 x_340 x_341 x_342)))))) ∧ (¬ ((x_1 &&& 63) = 30) → (((x_1 &&& 63) = 31 → xL lenS xS (x3h18 + 1) (fun x_358 : Int32 => xL lenS xS (x3h18 + 2) (fun x_359 : Int32 => xL lenS xS (x3h18 + 3) (fun x_360 : Int32 => ∃ mc_366 ms_367 : Nat, (d_h18 + mc_366 ≤ mc ∧ e_h18 + ms_367 ≤ ms) ∧ wa_Cw_reach mc_366 ms_367 y_h18 (fun (y_363 : Ly) (s_362 : St) (r_361 : Int32) (d_364 e_365 : Nat) => (d_h18 + d_364 ≤ mc ∧ e_h18 + e_365 ≤ ms) ∧ xL lenS xS (x3h18 + 1) (fun x_369 : Int32 => xL lenS xS (x3h18 + 2) (fun x_370 : Int32 => xL lenS xS (x3h18 + 3) (fun x_371 : Int32 => wu_Mo_reach y_363 (fun (s_373 : St) (r_372 : Int32) => wja_Law_1768 mc ms lenS xS Post K_18 y_363 s_373 (d_h18 + d_364) (e_h18 + e_365) x3h18) s_362 76 x_369 x_370 x_371)))) s_h18 0 x_358 x_359 x_360)))) ∧ (¬ ((x_1 &&& 63) = 31) → (((x_1 &&& 63) = 32 → xL lenS xS (x3h18 + 1) (fun x_374 : Int32 => wu_Cw_reached y_h18 (fun (s_376 : St) (r_375 : Int32) => xL lenS xS (x3h18 + 1) (fun x_377 : Int32 => wu_Mo_reached y_h18 (fun (s_379 : St) (r_378 : Int32) => wja_Law_1768 mc ms lenS xS Post K_18 y_h18 s_379 d_h18 e_h18 x3h18) s_376 76 x_377)) s_h18 0 x_374)) ∧ (¬ ((x_1 &&& 63) = 32) → (((x_1 &&& 63) = 33 → ∃ mc_385 ms_386 : Nat, (d_h18 + mc_385 ≤ mc ∧ e_h18 + ms_386 ≤ ms) ∧ wa_Cw_trial mc_385 ms_386 y_h18 (fun (y_382 : Ly) (s_381 : St) (r_380 : Int32) (d_383 e_384 : Nat) => (d_h18 + d_383 ≤ mc ∧ e_h18 + e_384 ≤ ms) ∧ ∃ mc_393 ms_394 : Nat, (d_h18 + d_383 + mc_393 ≤ mc ∧ e_h18 + e_384 + ms_394 ≤ ms) ∧ wa_Mo_trial mc_393 ms_394 y_382 (fun (y_390 : Ly) (s_389 : St) (r_388 : Int32) (d_391 e_392 : Nat) => (d_h18 + d_383 + d_391 ≤ mc ∧ e_h18 + e_384 + e_392 ≤ ms) ∧ wja_Law_1768 mc ms lenS xS Post K_18 y_390 s_389 (d_h18 + d_383 + d_391) (e_h18 + e_384 + e_392) x3h18) s_381 76) s_h18 0) ∧ (¬ ((x_1 &&& 63) = 33) → (((x_1 &&& 63) = 34 → xL lenS xS (x3h18 + 1) (fun x_396 : Int32 => xL lenS xS (x3h18 + 2) (fun x_397 : Int32 => xL lenS xS (x3h18 + 3) (fun x_398 : Int32 => ∃ mc_404 ms_405 : Nat, (d_h18 + mc_404 ≤ mc ∧ e_h18 + ms_405 ≤ ms) ∧ wa_Cw_outcome mc_404 ms_405 y_h18 (fun (y_401 : Ly) (s_400 : St) (r_399 : Int32) (d_402 e_403 : Nat) => (d_h18 + d_402 ≤ mc ∧ e_h18 + e_403 ≤ ms) ∧ xL lenS xS (x3h18 + 1) (fun x_407 : Int32 => xL lenS xS (x3h18 + 2) (fun x_408 : Int32 => xL lenS xS (x3h18 + 3) (fun x_409 : Int32 => ∃ mc_415 ms_416 : Nat, (d_h18 + d_402 + mc_415 ≤ mc ∧ e_h18 + e_403 + ms_416 ≤ ms) ∧ wx_Mo_outcome mc_415 ms_416 y_401 (fun (y_412 : Ly) (s_411 : St) (r_410 : Int32) (d_413 e_414 : Nat) => (d_h18 + d_402 + d_413 ≤ mc ∧ e_h18 + e_403 + e_414 ≤ ms) ∧ wja_Law_1768 mc ms lenS xS Post K_18 y_412 s_411 (d_h18 + d_402 + d_413) (e_h18 + e_403 + e_414) x3h18) (fun (y_412 : Ly) (s_411 : St) (d_413 e_414 : Nat) => False) s_400 76 x_407 x_408 x_409)))) s_h18 0 x_396 x_397 x_398)))) ∧ (¬ ((x_1 &&& 63) = 34) → (((x_1 &&& 63) = 35 → xL lenS xS (x3h18 + 1) (fun x_418 : Int32 => ∃ mc_424 ms_425 : Nat, (d_h18 + mc_424 ≤ mc ∧ e_h18 + ms_425 ≤ ms) ∧ wa_Cw_meets mc_424 ms_425 y_h18 (fun (y_421 : Ly) (s_420 : St) (r_419 : Int32) (d_422 e_423 : Nat) => (d_h18 + d_422 ≤ mc ∧ e_h18 + e_423 ≤ ms) ∧ xL lenS xS (x3h18 + 1) (fun x_427 : Int32 => ∃ mc_433 ms_434 : Nat, (d_h18 + d_422 + mc_433 ≤ mc ∧ e_h18 + e_423 + ms_434 ≤ ms) ∧ wx_Mo_meets mc_433 ms_434 y_421 (fun (y_430 : Ly) (s_429 : St) (r_428 : Int32) (d_431 e_432 : Nat) => (d_h18 + d_422 + d_431 ≤ mc ∧ e_h18 + e_423 + e_432 ≤ ms) ∧ wja_Law_1768 mc ms lenS xS Post K_18 y_430 s_429 (d_h18 + d_422 + d_431) (e_h18 + e_423 + e_432) x3h18) (fun (y_430 : Ly) (s_429 : St) (d_431 e_432 : Nat) => False) s_420 76 x_427)) s_h18 0 x_418)) ∧ (¬ ((x_1 &&& 63) = 35) → (((x_1 &&& 63) = 36 → xL lenS xS (x3h18 + 1) (fun x_436 : Int32 => xL lenS xS (x3h18 + 2) (fun x_437 : Int32 => ∃ mc_443 ms_444 : Nat, (d_h18 + mc_443 ≤ mc ∧ e_h18 + ms_444 ≤ ms) ∧ wa_Cw_finds mc_443 ms_444 y_h18 (fun (y_440 : Ly) (s_439 : St) (r_438 : Int32) (d_441 e_442 : Nat) => (d_h18 + d_441 ≤ mc ∧ e_h18 + e_442 ≤ ms) ∧ xL lenS xS (x3h18 + 1) (fun x_446 : Int32 => xL lenS xS (x3h18 + 2) (fun x_447 : Int32 => ∃ mc_453 ms_454 : Nat, (d_h18 + d_441 + mc_453 ≤ mc ∧ e_h18 + e_442 + ms_454 ≤ ms) ∧ wx_Mo_finds mc_453 ms_454 y_440 (fun (y_450 : Ly) (s_449 : St) (r_448 : Int32) (d_451 e_452 : Nat) => (d_h18 + d_441 + d_451 ≤ mc ∧ e_h18 + e_442 + e_452 ≤ ms) ∧ wja_Law_1768 mc ms lenS xS Post K_18 y_450 s_449 (d_h18 + d_441 + d_451) (e_h18 + e_442 + e_452) x3h18) (fun (y_450 : Ly) (s_449 : St) (d_451 e_452 : Nat) => False) s_439 76 x_446 x_447))) s_h18 0 x_436 x_437))) ∧ (¬ ((x_1 &&& 63) = 36) → (((x_1 &&& 63) = 37 → xL lenS xS (x3h18 + 1) (fun x_456 : Int32 => ∃ mc_462 ms_463 : Nat, (d_h18 + mc_462 ≤ mc ∧ e_h18 + ms_463 ≤ ms) ∧ wa_Cw_hole mc_462 ms_463 y_h18 (fun (y_459 : Ly) (s_458 : St) (r_457 : Int32) (d_460 e_461 : Nat) => (d_h18 + d_460 ≤ mc ∧ e_h18 + e_461 ≤ ms) ∧ xL lenS xS (x3h18 + 1) (fun x_465 : Int32 => ∃ mc_471 ms_472 : Nat, (d_h18 + d_460 + mc_471 ≤ mc ∧ e_h18 + e_461 + ms_472 ≤ ms) ∧ wx_Mo_hole mc_471 ms_472 y_459 (fun (y_468 : Ly) (s_467 : St) (r_466 : Int32) (d_469 e_470 : Nat) => (d_h18 + d_460 + d_469 ≤ mc ∧ e_h18 + e_461 + e_470 ≤ ms) ∧ wja_Law_1768 mc ms lenS xS Post K_18 y_468 s_467 (d_h18 + d_460 + d_469) (e_h18 + e_461 + e_470) x3h18) (fun (y_468 : Ly) (s_467 : St) (d_469 e_470 : Nat) => False) s_458 76 x_465)) s_h18 0 x_456)) ∧ (¬ ((x_1 &&& 63) = 37) → (((x_1 &&& 63) = 38 → ∃ mc_479 ms_480 : Nat, (d_h18 + mc_479 ≤ mc ∧ e_h18 + ms_480 ≤ ms) ∧ wa_Cw_least mc_479 ms_480 y_h18 (fun (y_476 : Ly) (s_475 : St) (r_474 : Int32) (d_477 e_478 : Nat) => (d_h18 + d_477 ≤ mc ∧ e_h18 + e_478 ≤ ms) ∧ ∃ mc_487 ms_488 : Nat, (d_h18 + d_477 + mc_487 ≤ mc ∧ e_h18 + e_478 + ms_488 ≤ ms) ∧ wx_Mo_least mc_487 ms_488 y_476 (fun (y_484 : Ly) (s_483 : St) (r_482 : Int32) (d_485 e_486 : Nat) => (d_h18 + d_477 + d_485 ≤ mc ∧ e_h18 + e_478 + e_486 ≤ ms) ∧ wja_Law_1768 mc ms lenS xS Post K_18 y_484 s_483 (d_h18 + d_477 + d_485) (e_h18 + e_478 + e_486) x3h18) (fun (y_484 : Ly) (s_483 : St) (d_485 e_486 : Nat) => False) s_475 76) s_h18 0) ∧ (¬ ((x_1 &&& 63) = 38) → (((x_1 &&& 63) = 39 → ∃ mc_495 ms_496 : Nat, (d_h18 + mc_495 ≤ mc ∧ e_h18 + ms_496 ≤ ms) ∧ wa_Cw_fewest mc_495 ms_496 y_h18 (fun (y_492 : Ly) (s_491 : St) (r_490 : Int32) (d_493 e_494 : Nat) => (d_h18 + d_493 ≤ mc ∧ e_h18 + e_494 ≤ ms) ∧ ∃ mc_503 ms_504 : Nat, (d_h18 + d_493 + mc_503 ≤ mc ∧ e_h18 + e_494 + ms_504 ≤ ms) ∧ wx_Mo_fewest mc_503 ms_504 y_492 (fun (y_500 : Ly) (s_499 : St) (r_498 : Int32) (d_501 e_502 : Nat) => (d_h18 + d_493 + d_501 ≤ mc ∧ e_h18 + e_494 + e_502 ≤ ms) ∧ wja_Law_1768 mc ms lenS xS Post K_18 y_500 s_499 (d_h18 + d_493 + d_501) (e_h18 + e_494 + e_502) x3h18) (fun (y_500 : Ly) (s_499 : St) (d_501 e_502 : Nat) => False) s_491 76) s_h18 0) ∧ (¬ ((x_1 &&& 63) = 39) → (((x_1 &&& 63) = 40 → xL lenS xS (x3h18 + 1) (fun x_506 : Int32 => xL lenS xS (x3h18 + 2) (fun x_507 : Int32 => ∃ mc_513 ms_514 : Nat, (d_h18 + mc_513 ≤ mc ∧ e_h18 + ms_514 ≤ ms) ∧ wa_Cw_shrink mc_513 ms_514 y_h18 (fun (y_510 : Ly) (s_509 : St) (r_508 : Int32) (d_511 e_512 : Nat) => (d_h18 + d_511 ≤ mc ∧ e_h18 + e_512 ≤ ms) ∧ xL lenS xS (x3h18 + 1) (fun x_516 : Int32 => xL lenS xS (x3h18 + 2) (fun x_517 : Int32 => ∃ mc_523 ms_524 : Nat, (d_h18 + d_511 + mc_523 ≤ mc ∧ e_h18 + e_512 + ms_524 ≤ ms) ∧ wx_Mo_shrink mc_523 ms_524 y_510 (fun (y_520 : Ly) (s_519 : St) (r_518 : Int32) (d_521 e_522 : Nat) => (d_h18 + d_511 + d_521 ≤ mc ∧ e_h18 + e_512 + e_522 ≤ ms) ∧ wja_Law_1768 mc ms lenS xS Post K_18 y_520 s_519 (d_h18 + d_511 + d_521) (e_h18 + e_512 + e_522) x3h18) (fun (y_520 : Ly) (s_519 : St) (d_521 e_522 : Nat) => False) s_509 76 x_516 x_517))) s_h18 0 x_506 x_507))) ∧ (¬ ((x_1 &&& 63) = 40) → (((x_1 &&& 63) = 41 → xL lenS xS (x3h18 + 1) (fun x_526 : Int32 => xL lenS xS (x3h18 + 2) (fun x_527 : Int32 => xL lenS xS (x3h18 + 3) (fun x_528 : Int32 => xL lenS xS (x3h18 + 4) (fun x_529 : Int32 => wu_Cw_change y_h18 (fun (s_531 : St) (r_530 : Int32) => xL lenS xS (x3h18 + 1) (fun x_532 : Int32 => xL lenS xS (x3h18 + 2) (fun x_533 : Int32 => xL lenS xS (x3h18 + 3) (fun x_534 : Int32 => xL lenS xS (x3h18 + 4) (fun x_535 : Int32 => wu_Mo_change y_h18 (fun (s_537 : St) (r_536 : Int32) => wja_Law_1768 mc ms lenS xS Post K_18 y_h18 s_537 d_h18 e_h18 x3h18) s_531 76 x_532 x_533 x_534 x_535))))) s_h18 0 x_526 x_527 x_528 x_529))))) ∧ (¬ ((x_1 &&& 63) = 41) → (((x_1 &&& 63) = 42 → xL lenS xS (x3h18 + 1) (fun x_538 : Int32 => xL lenS xS (x3h18 + 2) (fun x_539 : Int32 => wu_Cw_text y_h18 (fun (s_541 : St) (r_540 : Int32) => xL lenS xS (x3h18 + 1) (fun x_542 : Int32 => xL lenS xS (x3h18 + 2) (fun x_543 : Int32 => wu_Mo_text y_h18 (fun (s_545 : St) (r_544 : Int32) => wja_Law_1768 mc ms lenS xS Post K_18 y_h18 s_545 d_h18 e_h18 x3h18) s_541 76 x_542 x_543))) s_h18 0 x_538 x_539))) ∧ (¬ ((x_1 &&& 63) = 42) → (((x_1 &&& 63) = 43 → xL lenS xS (x3h18 + 1) (fun x_546 : Int32 => wu_Cw_count y_h18 (fun (s_548 : St) (r_547 : Int32) => xL lenS xS (x3h18 + 1) (fun x_549 : Int32 => wu_Mo_count y_h18 (fun (s_551 : St) (r_550 : Int32) => wja_Law_1768 mc ms lenS xS Post K_18 y_h18 s_551 d_h18 e_h18 x3h18) s_548 76 x_549)) s_h18 0 x_546)) ∧ (¬ ((x_1 &&& 63) = 43) → wja_Law_1768 mc ms lenS xS Post K_18 y_h18 s_h18 d_h18 e_h18 x3h18)))))))))))))))))))))))))))))))))))))))))))))))))))))))))))))))))))))))))))))))))))))))))))
def wla_Law_18 (mc ms : Nat) (lenS : Nat) (xS : Nat → Int32) (Post : Ly → St → Int32 → Nat → Nat → Prop) (y_h18 : Ly) (s_h18 : St) (d_h18 e_h18 : Nat) (x3h18 : Int32) : Prop := ∃ (I : Ly → St → Nat → Nat → Int32 → Prop) (μ : Ly → St → Nat → Nat → Int32 → Nat), I y_h18 s_h18 d_h18 e_h18 x3h18 ∧ ∀ (u1 : Ly) (u2 : St) (u3 u4 : Nat) (t0 : Int32), I u1 u2 u3 u4 t0 → wba_Law_18 mc ms lenS xS Post (fun z1 z2 z3 z4 t0q => I z1 z2 z3 z4 t0q ∧ μ z1 z2 z3 z4 t0q < μ u1 u2 u3 u4 t0) u1 u2 u3 u4 t0
def wa_Law (mc ms : Nat) (lenS : Nat) (xS : Nat → Int32) (Post : Ly → St → Int32 → Nat → Nat → Prop) (y : Ly) (σ : St) (k0 n0 : Nat) : Prop := wla_Law_18 mc ms lenS xS Post y σ k0 n0 0
set_option maxHeartbeats 8000000 in
set_option maxRecDepth 100000 in
theorem ca_Law {p : Program} {e : Env} {s : State} {m : MethodId} {args : Array Value} {below : List Frame} {meth : Method} {c : Code} {A : Nat → Prop} {Q : State → Prop} {ls : Array Slot} {H : Heap} {locs : List Loc} (l : Launch) (D : va_G) (g : Nat → ClassId) (F : Nat → SL) (sl : List SL) (hF : SOK F sl) (ad : Nat → Nat) (bS lenS : Nat) (xS : Nat → Int32) (mc ms : Nat) (y : Ly) (Post : Ly → St → Int32 → Nat → Nat → Prop) (σ : St) (k0 n0 : Nat) (r0 : Option FieldType)
    (G : GV l p s m args meth c (⟨"ClassWorksLaw", meth.name, ""⟩ : MethodName) code 4 r0 g D sl A) (hX : va_X bS lenS xS s s.heap) (hbl : bS < s.heap.size) (hbA : ¬ A bS) (h_a0 : cl 0 = 11) (h_a76 : cl 76 = 14) (hP : va_P D CL (ws g ad y σ) H) (hD : va_D A (ws g ad y σ)) (hS : va_S A s.heap H locs) (hl : lv_has ls 4 [(0, .ref bS), (1, .ref (ad 0)), (2, .ref (ad 76)), (3, .int 0)]) (hd : k0 ≤ mc ∧ n0 ≤ ms) (h : wa_Law mc ms lenS xS Post y σ k0 n0)
    (hret : ∀ (v : Int32) (u : Ly × St × Nat × Nat) (H : Heap) (locs : List Loc) (k n pc : Nat) (ls : Array Slot), narrow .boolean (.int v) = .int v → Post u.1 u.2.1 v u.2.2.1 u.2.2.2 → va_P D CL (ws g ad u.1 u.2.1) H → va_D A (ws g ad u.1 u.2.1) → va_S A s.heap H locs → k ≤ u.2.2.1 → n ≤ u.2.2.2 → u.2.2.1 ≤ mc → u.2.2.2 ≤ ms → decode code pc = .ok (.ireturn, 1) → W p l e (ra_Law mc ms) s m args below meth c H locs k n Q (F0 m pc ls [.int v])) :
    W p l e (ra_Law mc ms) s m args below meth c H locs k0 n0 Q (F0 m 18 ls []) := by
  unfold wa_Law at h
  unfold wla_Law_18 at h
  obtain ⟨I_18, μ_18, hI_18, hB_18⟩ := h
  have L_18 : ∀ (n_18 : Nat) (y_h18 : Ly) (s_h18 : St) (d_h18 e_h18 : Nat) (x3h18 : Int32), μ_18 y_h18 s_h18 d_h18 e_h18 x3h18 < n_18 → I_18 y_h18 s_h18 d_h18 e_h18 x3h18 → ∀ (H : Heap) (locs : List Loc), va_P D CL (ws g ad y_h18 s_h18) H → va_D A (ws g ad y_h18 s_h18) → va_S A s.heap H locs → ∀ ls, lv_has ls 4 [(0, .ref bS), (1, .ref (ad 0)), (2, .ref (ad 76)), (3, .int x3h18)] → W p l e (ra_Law mc ms) s m args below meth c H locs d_h18 e_h18 Q (F0 m 18 ls []) := by
    intro n_18
    induction n_18 with
    | zero => intro y_h18 s_h18 d_h18 e_h18 x3h18 hμ; exact absurd hμ (Nat.not_lt_zero _)
    | succ n_18 ih_18 =>
      intro y_h18 s_h18 d_h18 e_h18 x3h18 hμ_18 hJ H locs hP hD hS ls hl
      obtain ⟨K_18, hK_18, h⟩ : ∃ K : Ly → St → Nat → Nat → Int32 → Prop, (∀ z1 z2 z3 z4 (t0 : Int32), K z1 z2 z3 z4 t0 → I_18 z1 z2 z3 z4 t0 ∧ μ_18 z1 z2 z3 z4 t0 < μ_18 y_h18 s_h18 d_h18 e_h18 x3h18) ∧ wba_Law_18 mc ms lenS xS Post K y_h18 s_h18 d_h18 e_h18 x3h18 := ⟨_, fun _ _ _ _ _ h => h, hB_18 y_h18 s_h18 d_h18 e_h18 x3h18 hJ⟩
      unfold wba_Law_18 at h
      obtain ⟨hd, h⟩ := h
      refine lv_iload_n G.1 G.2.1 d_Law_18 rfl (lv_at hl 3 rfl) ?_
      refine lv_aload_n G.1 G.2.1 d_Law_19 rfl (lv_at hl 0 rfl) ?_
      refine va_slen G.1 G.2.1 hX hbl hbA hS d_Law_20 ?_
      refine tpi (w := nI lenS) rfl ?_
      refine lv_bipush (v := 6) G.1 G.2.1 d_Law_21 (by decide) ?_
      refine lv_isub G.1 G.2.1 d_Law_23 ?_
      refine lv_icmp_gt (tgt := 1774) G.1 G.2.1 d_Law_24 (by decide) (fun c24 => ?_) (fun c24 => ?_)
      · skip
        have h := h.1 c24
        refine lv_iconst (v := 1) G.1 G.2.1 d_Law_1774 (by decide) ?_
        exact hret _ (y_h18, s_h18, d_h18, e_h18) _ _ _ _ _ ls (nb_n h.1) h.2 hP hD hS (Nat.le_refl _) (Nat.le_refl _) hd.1 hd.2 d_Law_1775
      · skip
        have h := h.2 c24
        refine lv_aload_n G.1 G.2.1 d_Law_27 rfl (lv_at hl 0 rfl) ?_
        refine lv_iload_n G.1 G.2.1 d_Law_28 rfl (lv_at hl 3 rfl) ?_
        refine usld G hX hbl hbA hS h d_Law_29 (fun x_1 h => ?_)
        refine lv_bipush (v := 63) G.1 G.2.1 d_Law_30 (by decide) ?_
        refine lv_iand G.1 G.2.1 d_Law_32 ?_
        have J_1768 : ∀ (y_j1768 : Ly) (s_j1768 : St) (d_j1768 e_j1768 : Nat) (x3j1768 : Int32) (H : Heap) (locs : List Loc), wja_Law_1768 mc ms lenS xS Post K_18 y_j1768 s_j1768 d_j1768 e_j1768 x3j1768 → va_P D CL (ws g ad y_j1768 s_j1768) H → va_D A (ws g ad y_j1768 s_j1768) → va_S A s.heap H locs → ∀ ls, lv_has ls 4 [(0, .ref bS), (1, .ref (ad 0)), (2, .ref (ad 76)), (3, .int x3j1768)] → W p l e (ra_Law mc ms) s m args below meth c H locs d_j1768 e_j1768 Q (F0 m 1768 ls []) := by
          intro y_j1768 s_j1768 d_j1768 e_j1768 x3j1768 H locs h hP hD hS ls hl
          unfold wja_Law_1768 at h
          obtain ⟨hd, h⟩ := h
          refine lv_iinc (v := x3j1768 + 6) (lv' := [(3, .int (x3j1768 + 6)), (0, .ref bS), (1, .ref (ad 0)), (2, .ref (ad 76))]) G.1 G.2.1 d_Law_1768 hl (k := 3) rfl rfl (by decide) rfl (fun ls hl => ?_)
          refine lv_goto (tgt := 18) G.1 G.2.1 d_Law_1771 (by decide) ?_
          have h := hK_18 y_j1768 s_j1768 d_j1768 e_j1768 (x3j1768 + 6) h
          exact ih_18 y_j1768 s_j1768 d_j1768 e_j1768 (x3j1768 + 6) (Nat.lt_of_lt_of_le h.2 (Nat.le_of_lt_succ hμ_18)) h.1 H locs hP hD hS ls (lv_sub hl [1, 2, 3, 0] rfl)
        refine W.eq (g2 := F0 m 33 ls [.int (x_1 &&& 63)]) rfl ?_
        by_cases e33_0 : (x_1 &&& 63) = 0
        · skip
          have h := h.1 e33_0
          refine lv_tableIn (off := 191) (tgt := 224) G.1 G.2.1 d_Law_33 (by rw [e33_0]; decide) (by rw [e33_0]; decide) (by rw [e33_0]; rfl) (by decide) ?_
          refine lv_aload_n G.1 G.2.1 d_Law_224 rfl (lv_at hl 1 rfl) ?_
          refine lv_aload_n G.1 G.2.1 d_Law_225 rfl (lv_at hl 0 rfl) ?_
          refine lv_iload_n G.1 G.2.1 d_Law_226 rfl (lv_at hl 3 rfl) ?_
          refine lv_iconst (v := 1) G.1 G.2.1 d_Law_227 (by decide) ?_
          refine lv_iadd G.1 G.2.1 d_Law_228 ?_
          refine usld G hX hbl hbA hS h d_Law_229 (fun x_2 h => ?_)
          refine lv_aload_n G.1 G.2.1 d_Law_230 rfl (lv_at hl 0 rfl) ?_
          refine lv_iload_n G.1 G.2.1 d_Law_231 rfl (lv_at hl 3 rfl) ?_
          refine lv_iconst (v := 2) G.1 G.2.1 d_Law_232 (by decide) ?_
          refine lv_iadd G.1 G.2.1 d_Law_233 ?_
          refine usld G hX hbl hbA hS h d_Law_234 (fun x_3 h => ?_)
          refine W.eq (g2 := F0 m 235 ls [.int x_3, .int x_2, .ref (ad 0)]) rfl ?_
          refine lv_aload_n G.1 G.2.1 d_Law_235 rfl (lv_at hl 0 rfl) ?_
          refine lv_iload_n G.1 G.2.1 d_Law_236 rfl (lv_at hl 3 rfl) ?_
          refine lv_iconst (v := 3) G.1 G.2.1 d_Law_237 (by decide) ?_
          refine lv_iadd G.1 G.2.1 d_Law_238 ?_
          refine usld G hX hbl hbA hS h d_Law_239 (fun x_4 h => ?_)
          refine lv_aload_n G.1 G.2.1 d_Law_240 rfl (lv_at hl 0 rfl) ?_
          refine lv_iload_n G.1 G.2.1 d_Law_241 rfl (lv_at hl 3 rfl) ?_
          refine lv_iconst (v := 4) G.1 G.2.1 d_Law_242 (by decide) ?_
          refine lv_iadd G.1 G.2.1 d_Law_243 ?_
          refine usld G hX hbl hbA hS h d_Law_244 (fun x_5 h => ?_)
          refine lv_aload_n G.1 G.2.1 d_Law_245 rfl (lv_at hl 0 rfl) ?_
          refine lv_iload_n G.1 G.2.1 d_Law_246 rfl (lv_at hl 3 rfl) ?_
          refine W.eq (g2 := F0 m 247 ls [.int x3h18, .ref bS, .int x_5, .int x_4, .int x_3, .int x_2, .ref (ad 0)]) rfl ?_
          refine lv_iconst (v := 5) G.1 G.2.1 d_Law_247 (by decide) ?_
          refine lv_iadd G.1 G.2.1 d_Law_248 ?_
          refine usld G hX hbl hbA hS h d_Law_249 (fun x_6 h => ?_)
          refine ucVi (As := [.int x_2, .int x_3, .int x_4, .int x_5, .int x_6]) (rest := []) G hP hD hS (cu_Cw_feed l D g ad y_h18 _ s_h18 0 x_2 x_3 x_4 x_5 x_6 H.size h_a0 h) w9_Cw_feed q1195 ⟨Nat.le_of_ble_eq_true rfl, Nat.le_of_ble_eq_true rfl⟩ rfl rfl h_a0 (q := (RCw, TCw, 20)) rfl rfl hl.1 rfl (Nat.le_of_ble_eq_true rfl) rfl hd d_Law_250 (fun r_7 s_8 H locs h hP hD hS => ?_)
          refine lv_aload_n G.1 G.2.1 d_Law_253 rfl (lv_at hl 2 rfl) ?_
          refine lv_aload_n G.1 G.2.1 d_Law_254 rfl (lv_at hl 0 rfl) ?_
          refine lv_iload_n G.1 G.2.1 d_Law_255 rfl (lv_at hl 3 rfl) ?_
          refine lv_iconst (v := 1) G.1 G.2.1 d_Law_256 (by decide) ?_
          refine lv_iadd G.1 G.2.1 d_Law_257 ?_
          refine usld G hX hbl hbA hS h d_Law_258 (fun x_9 h => ?_)
          refine lv_aload_n G.1 G.2.1 d_Law_259 rfl (lv_at hl 0 rfl) ?_
          refine lv_iload_n G.1 G.2.1 d_Law_260 rfl (lv_at hl 3 rfl) ?_
          refine W.eq (g2 := F0 m 261 ls [.int x3h18, .ref bS, .int x_9, .ref (ad 76), .int r_7]) rfl ?_
          refine lv_iconst (v := 2) G.1 G.2.1 d_Law_261 (by decide) ?_
          refine lv_iadd G.1 G.2.1 d_Law_262 ?_
          refine usld G hX hbl hbA hS h d_Law_263 (fun x_10 h => ?_)
          refine lv_aload_n G.1 G.2.1 d_Law_264 rfl (lv_at hl 0 rfl) ?_
          refine lv_iload_n G.1 G.2.1 d_Law_265 rfl (lv_at hl 3 rfl) ?_
          refine lv_iconst (v := 3) G.1 G.2.1 d_Law_266 (by decide) ?_
          refine lv_iadd G.1 G.2.1 d_Law_267 ?_
          refine usld G hX hbl hbA hS h d_Law_268 (fun x_11 h => ?_)
          refine lv_aload_n G.1 G.2.1 d_Law_269 rfl (lv_at hl 0 rfl) ?_
          refine lv_iload_n G.1 G.2.1 d_Law_270 rfl (lv_at hl 3 rfl) ?_
          refine lv_iconst (v := 4) G.1 G.2.1 d_Law_271 (by decide) ?_
          refine lv_iadd G.1 G.2.1 d_Law_272 ?_
          refine W.eq (g2 := F0 m 273 ls [.int (x3h18 + 4), .ref bS, .int x_11, .int x_10, .int x_9, .ref (ad 76), .int r_7]) rfl ?_
          refine usld G hX hbl hbA hS h d_Law_273 (fun x_12 h => ?_)
          refine lv_aload_n G.1 G.2.1 d_Law_274 rfl (lv_at hl 0 rfl) ?_
          refine lv_iload_n G.1 G.2.1 d_Law_275 rfl (lv_at hl 3 rfl) ?_
          refine lv_iconst (v := 5) G.1 G.2.1 d_Law_276 (by decide) ?_
          refine lv_iadd G.1 G.2.1 d_Law_277 ?_
          refine usld G hX hbl hbA hS h d_Law_278 (fun x_13 h => ?_)
          refine ucVi (As := [.int x_9, .int x_10, .int x_11, .int x_12, .int x_13]) (rest := [.int r_7]) G hP hD hS (cu_Mo_feed l D g ad y_h18 _ s_8 76 x_9 x_10 x_11 x_12 x_13 H.size h_a76 h) w9_Mo_feed q3458 ⟨Nat.le_of_ble_eq_true rfl, Nat.le_of_ble_eq_true rfl⟩ rfl rfl h_a76 (q := (RMo, TMo, 131)) rfl rfl hl.1 rfl (Nat.le_of_ble_eq_true rfl) rfl hd d_Law_279 (fun r_14 s_15 H locs h hP hD hS => ?_)
          refine lv_icmp_eq (tgt := 1768) G.1 G.2.1 d_Law_282 (by decide) (fun c282 => ?_) (fun c282 => ?_)
          · skip
            have h := h.1 c282
            exact J_1768 y_h18 s_15 d_h18 e_h18 x3h18 H locs h hP hD hS ls (lv_sub hl [0, 1, 2, 3] rfl)
          · skip
            have h := h.2 c282
            refine lv_iconst (v := 0) G.1 G.2.1 d_Law_285 (by decide) ?_
            exact hret _ (y_h18, s_15, d_h18, e_h18) _ _ _ _ _ ls (nb_n h.1) h.2 hP hD hS (Nat.le_refl _) (Nat.le_refl _) hd.1 hd.2 d_Law_286
        replace h := h.2 e33_0
        by_cases e33_1 : (x_1 &&& 63) = 1
        · skip
          have h := h.1 e33_1
          refine lv_tableIn (off := 254) (tgt := 287) G.1 G.2.1 d_Law_33 (by rw [e33_1]; decide) (by rw [e33_1]; decide) (by rw [e33_1]; rfl) (by decide) ?_
          refine lv_aload_n G.1 G.2.1 d_Law_287 rfl (lv_at hl 1 rfl) ?_
          refine lv_aload_n G.1 G.2.1 d_Law_288 rfl (lv_at hl 0 rfl) ?_
          refine lv_iload_n G.1 G.2.1 d_Law_289 rfl (lv_at hl 3 rfl) ?_
          refine lv_iconst (v := 1) G.1 G.2.1 d_Law_290 (by decide) ?_
          refine lv_iadd G.1 G.2.1 d_Law_291 ?_
          refine usld G hX hbl hbA hS h d_Law_292 (fun x_16 h => ?_)
          refine ucVi (As := [.int x_16]) (rest := []) G hP hD hS (cu_Cw_cut l D g ad y_h18 _ s_h18 0 x_16 H.size h_a0 h) w9_Cw_cut q1203 ⟨Nat.le_of_ble_eq_true rfl, Nat.le_of_ble_eq_true rfl⟩ rfl rfl h_a0 (q := (RCw, TCw, 20)) rfl rfl hl.1 rfl (Nat.le_of_ble_eq_true rfl) rfl hd d_Law_293 (fun r_17 s_18 H locs h hP hD hS => ?_)
          refine lv_aload_n G.1 G.2.1 d_Law_296 rfl (lv_at hl 2 rfl) ?_
          refine lv_aload_n G.1 G.2.1 d_Law_297 rfl (lv_at hl 0 rfl) ?_
          refine lv_iload_n G.1 G.2.1 d_Law_298 rfl (lv_at hl 3 rfl) ?_
          refine lv_iconst (v := 1) G.1 G.2.1 d_Law_299 (by decide) ?_
          refine W.eq (g2 := F0 m 300 ls [.int 1, .int x3h18, .ref bS, .ref (ad 76), .int r_17]) rfl ?_
          refine lv_iadd G.1 G.2.1 d_Law_300 ?_
          refine usld G hX hbl hbA hS h d_Law_301 (fun x_19 h => ?_)
          refine ucVi (As := [.int x_19]) (rest := [.int r_17]) G hP hD hS (cu_Mo_cut l D g ad y_h18 _ s_18 76 x_19 H.size h_a76 h) w9_Mo_cut q3466 ⟨Nat.le_of_ble_eq_true rfl, Nat.le_of_ble_eq_true rfl⟩ rfl rfl h_a76 (q := (RMo, TMo, 131)) rfl rfl hl.1 rfl (Nat.le_of_ble_eq_true rfl) rfl hd d_Law_302 (fun r_20 s_21 H locs h hP hD hS => ?_)
          refine lv_icmp_eq (tgt := 1768) G.1 G.2.1 d_Law_305 (by decide) (fun c305 => ?_) (fun c305 => ?_)
          · skip
            have h := h.1 c305
            exact J_1768 y_h18 s_21 d_h18 e_h18 x3h18 H locs h hP hD hS ls (lv_sub hl [0, 1, 2, 3] rfl)
          · skip
            have h := h.2 c305
            refine lv_iconst (v := 0) G.1 G.2.1 d_Law_308 (by decide) ?_
            exact hret _ (y_h18, s_21, d_h18, e_h18) _ _ _ _ _ ls (nb_n h.1) h.2 hP hD hS (Nat.le_refl _) (Nat.le_refl _) hd.1 hd.2 d_Law_309
        replace h := h.2 e33_1
        by_cases e33_2 : (x_1 &&& 63) = 2
        · skip
          have h := h.1 e33_2
          refine lv_tableIn (off := 277) (tgt := 310) G.1 G.2.1 d_Law_33 (by rw [e33_2]; decide) (by rw [e33_2]; decide) (by rw [e33_2]; rfl) (by decide) ?_
          refine lv_aload_n G.1 G.2.1 d_Law_310 rfl (lv_at hl 1 rfl) ?_
          refine lv_aload_n G.1 G.2.1 d_Law_311 rfl (lv_at hl 0 rfl) ?_
          refine lv_iload_n G.1 G.2.1 d_Law_312 rfl (lv_at hl 3 rfl) ?_
          refine lv_iconst (v := 1) G.1 G.2.1 d_Law_313 (by decide) ?_
          refine lv_iadd G.1 G.2.1 d_Law_314 ?_
          refine usld G hX hbl hbA hS h d_Law_315 (fun x_22 h => ?_)
          refine ucVi (As := [.int x_22]) (rest := []) G hP hD hS (cu_Cw_world l D g ad y_h18 _ s_h18 0 x_22 H.size h_a0 h) w9_Cw_world q1207 ⟨Nat.le_of_ble_eq_true rfl, Nat.le_of_ble_eq_true rfl⟩ rfl rfl h_a0 (q := (RCw, TCw, 20)) rfl rfl hl.1 rfl (Nat.le_of_ble_eq_true rfl) rfl hd d_Law_316 (fun r_23 s_24 H locs h hP hD hS => ?_)
          refine lv_aload_n G.1 G.2.1 d_Law_319 rfl (lv_at hl 2 rfl) ?_
          refine lv_aload_n G.1 G.2.1 d_Law_320 rfl (lv_at hl 0 rfl) ?_
          refine lv_iload_n G.1 G.2.1 d_Law_321 rfl (lv_at hl 3 rfl) ?_
          refine lv_iconst (v := 1) G.1 G.2.1 d_Law_322 (by decide) ?_
          refine W.eq (g2 := F0 m 323 ls [.int 1, .int x3h18, .ref bS, .ref (ad 76), .int r_23]) rfl ?_
          refine lv_iadd G.1 G.2.1 d_Law_323 ?_
          refine usld G hX hbl hbA hS h d_Law_324 (fun x_25 h => ?_)
          refine ucVi (As := [.int x_25]) (rest := [.int r_23]) G hP hD hS (cu_Mo_world l D g ad y_h18 _ s_24 76 x_25 H.size h_a76 h) w9_Mo_world q3470 ⟨Nat.le_of_ble_eq_true rfl, Nat.le_of_ble_eq_true rfl⟩ rfl rfl h_a76 (q := (RMo, TMo, 131)) rfl rfl hl.1 rfl (Nat.le_of_ble_eq_true rfl) rfl hd d_Law_325 (fun r_26 s_27 H locs h hP hD hS => ?_)
          refine lv_icmp_eq (tgt := 1768) G.1 G.2.1 d_Law_328 (by decide) (fun c328 => ?_) (fun c328 => ?_)
          · skip
            have h := h.1 c328
            exact J_1768 y_h18 s_27 d_h18 e_h18 x3h18 H locs h hP hD hS ls (lv_sub hl [0, 1, 2, 3] rfl)
          · skip
            have h := h.2 c328
            refine lv_iconst (v := 0) G.1 G.2.1 d_Law_331 (by decide) ?_
            exact hret _ (y_h18, s_27, d_h18, e_h18) _ _ _ _ _ ls (nb_n h.1) h.2 hP hD hS (Nat.le_refl _) (Nat.le_refl _) hd.1 hd.2 d_Law_332
        replace h := h.2 e33_2
        by_cases e33_3 : (x_1 &&& 63) = 3
        · skip
          have h := h.1 e33_3
          refine lv_tableIn (off := 300) (tgt := 333) G.1 G.2.1 d_Law_33 (by rw [e33_3]; decide) (by rw [e33_3]; decide) (by rw [e33_3]; rfl) (by decide) ?_
          refine lv_aload_n G.1 G.2.1 d_Law_333 rfl (lv_at hl 1 rfl) ?_
          refine lv_aload_n G.1 G.2.1 d_Law_334 rfl (lv_at hl 0 rfl) ?_
          refine lv_iload_n G.1 G.2.1 d_Law_335 rfl (lv_at hl 3 rfl) ?_
          refine lv_iconst (v := 1) G.1 G.2.1 d_Law_336 (by decide) ?_
          refine lv_iadd G.1 G.2.1 d_Law_337 ?_
          refine usld G hX hbl hbA hS h d_Law_338 (fun x_28 h => ?_)
          refine ucVi (As := [.int x_28]) (rest := []) G hP hD hS (cu_Cw_drop l D g ad y_h18 _ s_h18 0 x_28 H.size h_a0 h) w9_Cw_drop q1240 ⟨Nat.le_of_ble_eq_true rfl, Nat.le_of_ble_eq_true rfl⟩ rfl rfl h_a0 (q := (RCw, TCw, 20)) rfl rfl hl.1 rfl (Nat.le_of_ble_eq_true rfl) rfl hd d_Law_339 (fun r_29 s_30 H locs h hP hD hS => ?_)
          refine lv_pop G.1 G.2.1 d_Law_342 rfl ?_
          refine lv_aload_n G.1 G.2.1 d_Law_343 rfl (lv_at hl 2 rfl) ?_
          refine lv_aload_n G.1 G.2.1 d_Law_344 rfl (lv_at hl 0 rfl) ?_
          refine lv_iload_n G.1 G.2.1 d_Law_345 rfl (lv_at hl 3 rfl) ?_
          refine W.eq (g2 := F0 m 346 ls [.int x3h18, .ref bS, .ref (ad 76)]) rfl ?_
          refine lv_iconst (v := 1) G.1 G.2.1 d_Law_346 (by decide) ?_
          refine lv_iadd G.1 G.2.1 d_Law_347 ?_
          refine usld G hX hbl hbA hS h d_Law_348 (fun x_31 h => ?_)
          refine ucVi (As := [.int x_31]) (rest := []) G hP hD hS (cu_Mo_drop l D g ad y_h18 _ s_30 76 x_31 H.size h_a76 h) w9_Mo_drop q3478 ⟨Nat.le_of_ble_eq_true rfl, Nat.le_of_ble_eq_true rfl⟩ rfl rfl h_a76 (q := (RMo, TMo, 131)) rfl rfl hl.1 rfl (Nat.le_of_ble_eq_true rfl) rfl hd d_Law_349 (fun r_32 s_33 H locs h hP hD hS => ?_)
          refine lv_pop G.1 G.2.1 d_Law_352 rfl ?_
          refine lv_goto (tgt := 1768) G.1 G.2.1 d_Law_353 (by decide) ?_
          exact J_1768 y_h18 s_33 d_h18 e_h18 x3h18 H locs h hP hD hS ls (lv_sub hl [0, 1, 2, 3] rfl)
        replace h := h.2 e33_3
        by_cases e33_4 : (x_1 &&& 63) = 4
        · skip
          have h := h.1 e33_4
          refine lv_tableIn (off := 323) (tgt := 356) G.1 G.2.1 d_Law_33 (by rw [e33_4]; decide) (by rw [e33_4]; decide) (by rw [e33_4]; rfl) (by decide) ?_
          refine lv_aload_n G.1 G.2.1 d_Law_356 rfl (lv_at hl 1 rfl) ?_
          refine lv_aload_n G.1 G.2.1 d_Law_357 rfl (lv_at hl 0 rfl) ?_
          refine lv_iload_n G.1 G.2.1 d_Law_358 rfl (lv_at hl 3 rfl) ?_
          refine lv_iconst (v := 1) G.1 G.2.1 d_Law_359 (by decide) ?_
          refine lv_iadd G.1 G.2.1 d_Law_360 ?_
          refine usld G hX hbl hbA hS h d_Law_361 (fun x_34 h => ?_)
          obtain ⟨mc_40, ms_41, hr_42, h⟩ := h
          refine utVi (As := [.int x_34]) (rest := []) G hP hD hS (ca_Cw_define l D g F sl hF ad mc_40 ms_41 y_h18 _ s_h18 0 x_34 H.size (us H) h_a0 h) w9_Cw_define q1252 ⟨Nat.le_of_ble_eq_true rfl, Nat.le_of_ble_eq_true rfl⟩ rfl rfl h_a0 (q := (RCw, TCw, 20)) rfl rfl hl.1 rfl (Nat.le_of_ble_eq_true rfl) rfl hr_42 d_Law_362 (fun r_35 y_37 s_36 d_38 e_39 H locs h hP hD hS => ?_)
          obtain ⟨hd, h⟩ := h
          refine lv_pop G.1 G.2.1 d_Law_365 rfl ?_
          refine lv_aload_n G.1 G.2.1 d_Law_366 rfl (lv_at hl 2 rfl) ?_
          refine lv_aload_n G.1 G.2.1 d_Law_367 rfl (lv_at hl 0 rfl) ?_
          refine lv_iload_n G.1 G.2.1 d_Law_368 rfl (lv_at hl 3 rfl) ?_
          refine W.eq (g2 := F0 m 369 ls [.int x3h18, .ref bS, .ref (ad 76)]) rfl ?_
          refine lv_iconst (v := 1) G.1 G.2.1 d_Law_369 (by decide) ?_
          refine lv_iadd G.1 G.2.1 d_Law_370 ?_
          refine usld G hX hbl hbA hS h d_Law_371 (fun x_43 h => ?_)
          obtain ⟨mc_49, ms_50, hr_51, h⟩ := h
          refine uaVi (As := [.int x_43]) (rest := []) G hP hD hS (ca_Mo_define l D g ad mc_49 ms_50 y_37 _ s_36 76 x_43 H.size (us H) h_a76 h) w9_Mo_define q3486 ⟨Nat.le_of_ble_eq_true rfl, Nat.le_of_ble_eq_true rfl⟩ rfl rfl h_a76 (q := (RMo, TMo, 131)) rfl rfl hl.1 rfl (Nat.le_of_ble_eq_true rfl) rfl hr_51 d_Law_372 (fun r_44 y_46 s_45 d_47 e_48 H locs h hP hD hS => ?_)
          obtain ⟨hd, h⟩ := h
          refine lv_pop G.1 G.2.1 d_Law_375 rfl ?_
          refine lv_goto (tgt := 1768) G.1 G.2.1 d_Law_376 (by decide) ?_
          exact J_1768 y_46 s_45 (d_h18 + d_38 + d_47) (e_h18 + e_39 + e_48) x3h18 H locs h hP hD hS ls (lv_sub hl [0, 1, 2, 3] rfl)
        replace h := h.2 e33_4
        by_cases e33_5 : (x_1 &&& 63) = 5
        · skip
          have h := h.1 e33_5
          refine lv_tableIn (off := 346) (tgt := 379) G.1 G.2.1 d_Law_33 (by rw [e33_5]; decide) (by rw [e33_5]; decide) (by rw [e33_5]; rfl) (by decide) ?_
          refine lv_aload_n G.1 G.2.1 d_Law_379 rfl (lv_at hl 1 rfl) ?_
          refine ucVi (As := []) (rest := []) G hP hD hS (cu_Cw_place l D g ad y_h18 _ s_h18 0 H.size h_a0 h) w9_Cw_place q1469 ⟨Nat.le_of_ble_eq_true rfl, Nat.le_of_ble_eq_true rfl⟩ rfl rfl h_a0 (q := (RCw, TCw, 20)) rfl rfl hl.1 rfl (Nat.le_of_ble_eq_true rfl) rfl hd d_Law_380 (fun r_52 s_53 H locs h hP hD hS => ?_)
          refine lv_pop G.1 G.2.1 d_Law_383 rfl ?_
          refine lv_aload_n G.1 G.2.1 d_Law_384 rfl (lv_at hl 2 rfl) ?_
          refine ucVi (As := []) (rest := []) G hP hD hS (cu_Mo_place l D g ad y_h18 _ s_53 76 H.size h_a76 h) w9_Mo_place q3649 ⟨Nat.le_of_ble_eq_true rfl, Nat.le_of_ble_eq_true rfl⟩ rfl rfl h_a76 (q := (RMo, TMo, 131)) rfl rfl hl.1 rfl (Nat.le_of_ble_eq_true rfl) rfl hd d_Law_385 (fun r_54 s_55 H locs h hP hD hS => ?_)
          refine lv_pop G.1 G.2.1 d_Law_388 rfl ?_
          refine lv_goto (tgt := 1768) G.1 G.2.1 d_Law_389 (by decide) ?_
          exact J_1768 y_h18 s_55 d_h18 e_h18 x3h18 H locs h hP hD hS ls (lv_sub hl [0, 1, 2, 3] rfl)
        replace h := h.2 e33_5
        by_cases e33_6 : (x_1 &&& 63) = 6
        · skip
          have h := h.1 e33_6
          refine lv_tableIn (off := 359) (tgt := 392) G.1 G.2.1 d_Law_33 (by rw [e33_6]; decide) (by rw [e33_6]; decide) (by rw [e33_6]; rfl) (by decide) ?_
          refine lv_aload_n G.1 G.2.1 d_Law_392 rfl (lv_at hl 1 rfl) ?_
          refine lv_aload_n G.1 G.2.1 d_Law_393 rfl (lv_at hl 0 rfl) ?_
          refine lv_iload_n G.1 G.2.1 d_Law_394 rfl (lv_at hl 3 rfl) ?_
          refine lv_iconst (v := 1) G.1 G.2.1 d_Law_395 (by decide) ?_
          refine lv_iadd G.1 G.2.1 d_Law_396 ?_
          refine usld G hX hbl hbA hS h d_Law_397 (fun x_56 h => ?_)
          refine ucVi (As := [.int x_56]) (rest := []) G hP hD hS (cu_Cw_classes l D g ad y_h18 _ s_h18 0 x_56 H.size h_a0 h) w9_Cw_classes q1473 ⟨Nat.le_of_ble_eq_true rfl, Nat.le_of_ble_eq_true rfl⟩ rfl rfl h_a0 (q := (RCw, TCw, 20)) rfl rfl hl.1 rfl (Nat.le_of_ble_eq_true rfl) rfl hd d_Law_398 (fun r_57 s_58 H locs h hP hD hS => ?_)
          refine lv_pop G.1 G.2.1 d_Law_401 rfl ?_
          refine lv_aload_n G.1 G.2.1 d_Law_402 rfl (lv_at hl 2 rfl) ?_
          refine lv_aload_n G.1 G.2.1 d_Law_403 rfl (lv_at hl 0 rfl) ?_
          refine lv_iload_n G.1 G.2.1 d_Law_404 rfl (lv_at hl 3 rfl) ?_
          refine W.eq (g2 := F0 m 405 ls [.int x3h18, .ref bS, .ref (ad 76)]) rfl ?_
          refine lv_iconst (v := 1) G.1 G.2.1 d_Law_405 (by decide) ?_
          refine lv_iadd G.1 G.2.1 d_Law_406 ?_
          refine usld G hX hbl hbA hS h d_Law_407 (fun x_59 h => ?_)
          refine ucVi (As := [.int x_59]) (rest := []) G hP hD hS (cu_Mo_classes l D g ad y_h18 _ s_58 76 x_59 H.size h_a76 h) w9_Mo_classes q3653 ⟨Nat.le_of_ble_eq_true rfl, Nat.le_of_ble_eq_true rfl⟩ rfl rfl h_a76 (q := (RMo, TMo, 131)) rfl rfl hl.1 rfl (Nat.le_of_ble_eq_true rfl) rfl hd d_Law_408 (fun r_60 s_61 H locs h hP hD hS => ?_)
          refine lv_pop G.1 G.2.1 d_Law_411 rfl ?_
          refine lv_goto (tgt := 1768) G.1 G.2.1 d_Law_412 (by decide) ?_
          exact J_1768 y_h18 s_61 d_h18 e_h18 x3h18 H locs h hP hD hS ls (lv_sub hl [0, 1, 2, 3] rfl)
        replace h := h.2 e33_6
        by_cases e33_7 : (x_1 &&& 63) = 7
        · skip
          have h := h.1 e33_7
          refine lv_tableIn (off := 382) (tgt := 415) G.1 G.2.1 d_Law_33 (by rw [e33_7]; decide) (by rw [e33_7]; decide) (by rw [e33_7]; rfl) (by decide) ?_
          refine lv_aload_n G.1 G.2.1 d_Law_415 rfl (lv_at hl 1 rfl) ?_
          refine lv_aload_n G.1 G.2.1 d_Law_416 rfl (lv_at hl 0 rfl) ?_
          refine lv_iload_n G.1 G.2.1 d_Law_417 rfl (lv_at hl 3 rfl) ?_
          refine lv_iconst (v := 1) G.1 G.2.1 d_Law_418 (by decide) ?_
          refine lv_iadd G.1 G.2.1 d_Law_419 ?_
          refine usld G hX hbl hbA hS h d_Law_420 (fun x_62 h => ?_)
          refine lv_aload_n G.1 G.2.1 d_Law_421 rfl (lv_at hl 0 rfl) ?_
          refine lv_iload_n G.1 G.2.1 d_Law_422 rfl (lv_at hl 3 rfl) ?_
          refine lv_iconst (v := 2) G.1 G.2.1 d_Law_423 (by decide) ?_
          refine lv_iadd G.1 G.2.1 d_Law_424 ?_
          refine usld G hX hbl hbA hS h d_Law_425 (fun x_63 h => ?_)
          refine W.eq (g2 := F0 m 426 ls [.int x_63, .int x_62, .ref (ad 0)]) rfl ?_
          refine lv_aload_n G.1 G.2.1 d_Law_426 rfl (lv_at hl 0 rfl) ?_
          refine lv_iload_n G.1 G.2.1 d_Law_427 rfl (lv_at hl 3 rfl) ?_
          refine lv_iconst (v := 3) G.1 G.2.1 d_Law_428 (by decide) ?_
          refine lv_iadd G.1 G.2.1 d_Law_429 ?_
          refine usld G hX hbl hbA hS h d_Law_430 (fun x_64 h => ?_)
          refine ucVi (As := [.int x_62, .int x_63, .int x_64]) (rest := []) G hP hD hS (cu_Cw_told l D g ad y_h18 _ s_h18 0 x_62 x_63 x_64 H.size h_a0 h) w9_Cw_told q1477 ⟨Nat.le_of_ble_eq_true rfl, Nat.le_of_ble_eq_true rfl⟩ rfl rfl h_a0 (q := (RCw, TCw, 20)) rfl rfl hl.1 rfl (Nat.le_of_ble_eq_true rfl) rfl hd d_Law_431 (fun r_65 s_66 H locs h hP hD hS => ?_)
          refine lv_pop G.1 G.2.1 d_Law_434 rfl ?_
          refine lv_aload_n G.1 G.2.1 d_Law_435 rfl (lv_at hl 2 rfl) ?_
          refine lv_aload_n G.1 G.2.1 d_Law_436 rfl (lv_at hl 0 rfl) ?_
          refine lv_iload_n G.1 G.2.1 d_Law_437 rfl (lv_at hl 3 rfl) ?_
          refine lv_iconst (v := 1) G.1 G.2.1 d_Law_438 (by decide) ?_
          refine lv_iadd G.1 G.2.1 d_Law_439 ?_
          refine W.eq (g2 := F0 m 440 ls [.int (x3h18 + 1), .ref bS, .ref (ad 76)]) rfl ?_
          refine usld G hX hbl hbA hS h d_Law_440 (fun x_67 h => ?_)
          refine lv_aload_n G.1 G.2.1 d_Law_441 rfl (lv_at hl 0 rfl) ?_
          refine lv_iload_n G.1 G.2.1 d_Law_442 rfl (lv_at hl 3 rfl) ?_
          refine lv_iconst (v := 2) G.1 G.2.1 d_Law_443 (by decide) ?_
          refine lv_iadd G.1 G.2.1 d_Law_444 ?_
          refine usld G hX hbl hbA hS h d_Law_445 (fun x_68 h => ?_)
          refine lv_aload_n G.1 G.2.1 d_Law_446 rfl (lv_at hl 0 rfl) ?_
          refine lv_iload_n G.1 G.2.1 d_Law_447 rfl (lv_at hl 3 rfl) ?_
          refine lv_iconst (v := 3) G.1 G.2.1 d_Law_448 (by decide) ?_
          refine lv_iadd G.1 G.2.1 d_Law_449 ?_
          refine usld G hX hbl hbA hS h d_Law_450 (fun x_69 h => ?_)
          refine ucVi (As := [.int x_67, .int x_68, .int x_69]) (rest := []) G hP hD hS (cu_Mo_told l D g ad y_h18 _ s_66 76 x_67 x_68 x_69 H.size h_a76 h) w9_Mo_told q3657 ⟨Nat.le_of_ble_eq_true rfl, Nat.le_of_ble_eq_true rfl⟩ rfl rfl h_a76 (q := (RMo, TMo, 131)) rfl rfl hl.1 rfl (Nat.le_of_ble_eq_true rfl) rfl hd d_Law_451 (fun r_70 s_71 H locs h hP hD hS => ?_)
          refine W.eq (g2 := F0 m 454 ls [.int r_70]) rfl ?_
          refine lv_pop G.1 G.2.1 d_Law_454 rfl ?_
          refine lv_goto (tgt := 1768) G.1 G.2.1 d_Law_455 (by decide) ?_
          exact J_1768 y_h18 s_71 d_h18 e_h18 x3h18 H locs h hP hD hS ls (lv_sub hl [0, 1, 2, 3] rfl)
        replace h := h.2 e33_7
        by_cases e33_8 : (x_1 &&& 63) = 8
        · skip
          have h := h.1 e33_8
          refine lv_tableIn (off := 425) (tgt := 458) G.1 G.2.1 d_Law_33 (by rw [e33_8]; decide) (by rw [e33_8]; decide) (by rw [e33_8]; rfl) (by decide) ?_
          refine lv_aload_n G.1 G.2.1 d_Law_458 rfl (lv_at hl 1 rfl) ?_
          refine lv_aload_n G.1 G.2.1 d_Law_459 rfl (lv_at hl 0 rfl) ?_
          refine lv_iload_n G.1 G.2.1 d_Law_460 rfl (lv_at hl 3 rfl) ?_
          refine lv_iconst (v := 1) G.1 G.2.1 d_Law_461 (by decide) ?_
          refine lv_iadd G.1 G.2.1 d_Law_462 ?_
          refine usld G hX hbl hbA hS h d_Law_463 (fun x_72 h => ?_)
          refine lv_aload_n G.1 G.2.1 d_Law_464 rfl (lv_at hl 0 rfl) ?_
          refine lv_iload_n G.1 G.2.1 d_Law_465 rfl (lv_at hl 3 rfl) ?_
          refine lv_iconst (v := 2) G.1 G.2.1 d_Law_466 (by decide) ?_
          refine lv_iadd G.1 G.2.1 d_Law_467 ?_
          refine usld G hX hbl hbA hS h d_Law_468 (fun x_73 h => ?_)
          refine W.eq (g2 := F0 m 469 ls [.int x_73, .int x_72, .ref (ad 0)]) rfl ?_
          refine lv_aload_n G.1 G.2.1 d_Law_469 rfl (lv_at hl 0 rfl) ?_
          refine lv_iload_n G.1 G.2.1 d_Law_470 rfl (lv_at hl 3 rfl) ?_
          refine lv_iconst (v := 3) G.1 G.2.1 d_Law_471 (by decide) ?_
          refine lv_iadd G.1 G.2.1 d_Law_472 ?_
          refine usld G hX hbl hbA hS h d_Law_473 (fun x_74 h => ?_)
          refine lv_aload_n G.1 G.2.1 d_Law_474 rfl (lv_at hl 0 rfl) ?_
          refine lv_iload_n G.1 G.2.1 d_Law_475 rfl (lv_at hl 3 rfl) ?_
          refine lv_iconst (v := 4) G.1 G.2.1 d_Law_476 (by decide) ?_
          refine lv_iadd G.1 G.2.1 d_Law_477 ?_
          refine usld G hX hbl hbA hS h d_Law_478 (fun x_75 h => ?_)
          refine lv_aload_n G.1 G.2.1 d_Law_479 rfl (lv_at hl 0 rfl) ?_
          refine lv_iload_n G.1 G.2.1 d_Law_480 rfl (lv_at hl 3 rfl) ?_
          refine W.eq (g2 := F0 m 481 ls [.int x3h18, .ref bS, .int x_75, .int x_74, .int x_73, .int x_72, .ref (ad 0)]) rfl ?_
          refine lv_iconst (v := 5) G.1 G.2.1 d_Law_481 (by decide) ?_
          refine lv_iadd G.1 G.2.1 d_Law_482 ?_
          refine usld G hX hbl hbA hS h d_Law_483 (fun x_76 h => ?_)
          refine ucVi (As := [.int x_72, .int x_73, .int x_74, .int x_75, .int x_76]) (rest := []) G hP hD hS (cu_Cw_name l D g ad y_h18 _ s_h18 0 x_72 x_73 x_74 x_75 x_76 H.size h_a0 h) w9_Cw_name q1494 ⟨Nat.le_of_ble_eq_true rfl, Nat.le_of_ble_eq_true rfl⟩ rfl rfl h_a0 (q := (RCw, TCw, 20)) rfl rfl hl.1 rfl (Nat.le_of_ble_eq_true rfl) rfl hd d_Law_484 (fun r_77 s_78 H locs h hP hD hS => ?_)
          refine lv_pop G.1 G.2.1 d_Law_487 rfl ?_
          refine lv_aload_n G.1 G.2.1 d_Law_488 rfl (lv_at hl 2 rfl) ?_
          refine lv_aload_n G.1 G.2.1 d_Law_489 rfl (lv_at hl 0 rfl) ?_
          refine lv_iload_n G.1 G.2.1 d_Law_490 rfl (lv_at hl 3 rfl) ?_
          refine lv_iconst (v := 1) G.1 G.2.1 d_Law_491 (by decide) ?_
          refine lv_iadd G.1 G.2.1 d_Law_492 ?_
          refine usld G hX hbl hbA hS h d_Law_493 (fun x_79 h => ?_)
          refine lv_aload_n G.1 G.2.1 d_Law_494 rfl (lv_at hl 0 rfl) ?_
          refine W.eq (g2 := F0 m 495 ls [.ref bS, .int x_79, .ref (ad 76)]) rfl ?_
          refine lv_iload_n G.1 G.2.1 d_Law_495 rfl (lv_at hl 3 rfl) ?_
          refine lv_iconst (v := 2) G.1 G.2.1 d_Law_496 (by decide) ?_
          refine lv_iadd G.1 G.2.1 d_Law_497 ?_
          refine usld G hX hbl hbA hS h d_Law_498 (fun x_80 h => ?_)
          refine lv_aload_n G.1 G.2.1 d_Law_499 rfl (lv_at hl 0 rfl) ?_
          refine lv_iload_n G.1 G.2.1 d_Law_500 rfl (lv_at hl 3 rfl) ?_
          refine lv_iconst (v := 3) G.1 G.2.1 d_Law_501 (by decide) ?_
          refine lv_iadd G.1 G.2.1 d_Law_502 ?_
          refine usld G hX hbl hbA hS h d_Law_503 (fun x_81 h => ?_)
          refine lv_aload_n G.1 G.2.1 d_Law_504 rfl (lv_at hl 0 rfl) ?_
          refine lv_iload_n G.1 G.2.1 d_Law_505 rfl (lv_at hl 3 rfl) ?_
          refine lv_iconst (v := 4) G.1 G.2.1 d_Law_506 (by decide) ?_
          refine W.eq (g2 := F0 m 507 ls [.int 4, .int x3h18, .ref bS, .int x_81, .int x_80, .int x_79, .ref (ad 76)]) rfl ?_
          refine lv_iadd G.1 G.2.1 d_Law_507 ?_
          refine usld G hX hbl hbA hS h d_Law_508 (fun x_82 h => ?_)
          refine lv_aload_n G.1 G.2.1 d_Law_509 rfl (lv_at hl 0 rfl) ?_
          refine lv_iload_n G.1 G.2.1 d_Law_510 rfl (lv_at hl 3 rfl) ?_
          refine lv_iconst (v := 5) G.1 G.2.1 d_Law_511 (by decide) ?_
          refine lv_iadd G.1 G.2.1 d_Law_512 ?_
          refine usld G hX hbl hbA hS h d_Law_513 (fun x_83 h => ?_)
          refine ucVi (As := [.int x_79, .int x_80, .int x_81, .int x_82, .int x_83]) (rest := []) G hP hD hS (cu_Mo_name l D g ad y_h18 _ s_78 76 x_79 x_80 x_81 x_82 x_83 H.size h_a76 h) w9_Mo_name q3665 ⟨Nat.le_of_ble_eq_true rfl, Nat.le_of_ble_eq_true rfl⟩ rfl rfl h_a76 (q := (RMo, TMo, 131)) rfl rfl hl.1 rfl (Nat.le_of_ble_eq_true rfl) rfl hd d_Law_514 (fun r_84 s_85 H locs h hP hD hS => ?_)
          refine lv_pop G.1 G.2.1 d_Law_517 rfl ?_
          refine lv_goto (tgt := 1768) G.1 G.2.1 d_Law_518 (by decide) ?_
          exact J_1768 y_h18 s_85 d_h18 e_h18 x3h18 H locs h hP hD hS ls (lv_sub hl [0, 1, 2, 3] rfl)
        replace h := h.2 e33_8
        by_cases e33_9 : (x_1 &&& 63) = 9
        · skip
          have h := h.1 e33_9
          refine lv_tableIn (off := 488) (tgt := 521) G.1 G.2.1 d_Law_33 (by rw [e33_9]; decide) (by rw [e33_9]; decide) (by rw [e33_9]; rfl) (by decide) ?_
          refine lv_aload_n G.1 G.2.1 d_Law_521 rfl (lv_at hl 1 rfl) ?_
          refine lv_aload_n G.1 G.2.1 d_Law_522 rfl (lv_at hl 0 rfl) ?_
          refine lv_iload_n G.1 G.2.1 d_Law_523 rfl (lv_at hl 3 rfl) ?_
          refine lv_iconst (v := 1) G.1 G.2.1 d_Law_524 (by decide) ?_
          refine lv_iadd G.1 G.2.1 d_Law_525 ?_
          refine usld G hX hbl hbA hS h d_Law_526 (fun x_86 h => ?_)
          refine lv_aload_n G.1 G.2.1 d_Law_527 rfl (lv_at hl 0 rfl) ?_
          refine lv_iload_n G.1 G.2.1 d_Law_528 rfl (lv_at hl 3 rfl) ?_
          refine lv_iconst (v := 2) G.1 G.2.1 d_Law_529 (by decide) ?_
          refine lv_iadd G.1 G.2.1 d_Law_530 ?_
          refine usld G hX hbl hbA hS h d_Law_531 (fun x_87 h => ?_)
          refine W.eq (g2 := F0 m 532 ls [.int x_87, .int x_86, .ref (ad 0)]) rfl ?_
          refine lv_aload_n G.1 G.2.1 d_Law_532 rfl (lv_at hl 0 rfl) ?_
          refine lv_iload_n G.1 G.2.1 d_Law_533 rfl (lv_at hl 3 rfl) ?_
          refine lv_iconst (v := 3) G.1 G.2.1 d_Law_534 (by decide) ?_
          refine lv_iadd G.1 G.2.1 d_Law_535 ?_
          refine usld G hX hbl hbA hS h d_Law_536 (fun x_88 h => ?_)
          refine lv_aload_n G.1 G.2.1 d_Law_537 rfl (lv_at hl 0 rfl) ?_
          refine lv_iload_n G.1 G.2.1 d_Law_538 rfl (lv_at hl 3 rfl) ?_
          refine lv_iconst (v := 4) G.1 G.2.1 d_Law_539 (by decide) ?_
          refine lv_iadd G.1 G.2.1 d_Law_540 ?_
          refine usld G hX hbl hbA hS h d_Law_541 (fun x_89 h => ?_)
          refine ucVi (As := [.int x_86, .int x_87, .int x_88, .int x_89]) (rest := []) G hP hD hS (cu_Cw_member l D g ad y_h18 _ s_h18 0 x_86 x_87 x_88 x_89 H.size h_a0 h) w9_Cw_member q1518 ⟨Nat.le_of_ble_eq_true rfl, Nat.le_of_ble_eq_true rfl⟩ rfl rfl h_a0 (q := (RCw, TCw, 20)) rfl rfl hl.1 rfl (Nat.le_of_ble_eq_true rfl) rfl hd d_Law_542 (fun r_90 s_91 H locs h hP hD hS => ?_)
          refine lv_pop G.1 G.2.1 d_Law_545 rfl ?_
          refine W.eq (g2 := F0 m 546 ls []) rfl ?_
          refine lv_aload_n G.1 G.2.1 d_Law_546 rfl (lv_at hl 2 rfl) ?_
          refine lv_aload_n G.1 G.2.1 d_Law_547 rfl (lv_at hl 0 rfl) ?_
          refine lv_iload_n G.1 G.2.1 d_Law_548 rfl (lv_at hl 3 rfl) ?_
          refine lv_iconst (v := 1) G.1 G.2.1 d_Law_549 (by decide) ?_
          refine lv_iadd G.1 G.2.1 d_Law_550 ?_
          refine usld G hX hbl hbA hS h d_Law_551 (fun x_92 h => ?_)
          refine lv_aload_n G.1 G.2.1 d_Law_552 rfl (lv_at hl 0 rfl) ?_
          refine lv_iload_n G.1 G.2.1 d_Law_553 rfl (lv_at hl 3 rfl) ?_
          refine lv_iconst (v := 2) G.1 G.2.1 d_Law_554 (by decide) ?_
          refine lv_iadd G.1 G.2.1 d_Law_555 ?_
          refine usld G hX hbl hbA hS h d_Law_556 (fun x_93 h => ?_)
          refine lv_aload_n G.1 G.2.1 d_Law_557 rfl (lv_at hl 0 rfl) ?_
          refine W.eq (g2 := F0 m 558 ls [.ref bS, .int x_93, .int x_92, .ref (ad 76)]) rfl ?_
          refine lv_iload_n G.1 G.2.1 d_Law_558 rfl (lv_at hl 3 rfl) ?_
          refine lv_iconst (v := 3) G.1 G.2.1 d_Law_559 (by decide) ?_
          refine lv_iadd G.1 G.2.1 d_Law_560 ?_
          refine usld G hX hbl hbA hS h d_Law_561 (fun x_94 h => ?_)
          refine lv_aload_n G.1 G.2.1 d_Law_562 rfl (lv_at hl 0 rfl) ?_
          refine lv_iload_n G.1 G.2.1 d_Law_563 rfl (lv_at hl 3 rfl) ?_
          refine lv_iconst (v := 4) G.1 G.2.1 d_Law_564 (by decide) ?_
          refine lv_iadd G.1 G.2.1 d_Law_565 ?_
          refine usld G hX hbl hbA hS h d_Law_566 (fun x_95 h => ?_)
          refine ucVi (As := [.int x_92, .int x_93, .int x_94, .int x_95]) (rest := []) G hP hD hS (cu_Mo_member l D g ad y_h18 _ s_91 76 x_92 x_93 x_94 x_95 H.size h_a76 h) w9_Mo_member q3669 ⟨Nat.le_of_ble_eq_true rfl, Nat.le_of_ble_eq_true rfl⟩ rfl rfl h_a76 (q := (RMo, TMo, 131)) rfl rfl hl.1 rfl (Nat.le_of_ble_eq_true rfl) rfl hd d_Law_567 (fun r_96 s_97 H locs h hP hD hS => ?_)
          refine lv_pop G.1 G.2.1 d_Law_570 rfl ?_
          refine lv_goto (tgt := 1768) G.1 G.2.1 d_Law_571 (by decide) ?_
          exact J_1768 y_h18 s_97 d_h18 e_h18 x3h18 H locs h hP hD hS ls (lv_sub hl [0, 1, 2, 3] rfl)
        replace h := h.2 e33_9
        by_cases e33_10 : (x_1 &&& 63) = 10
        · skip
          have h := h.1 e33_10
          refine lv_tableIn (off := 541) (tgt := 574) G.1 G.2.1 d_Law_33 (by rw [e33_10]; decide) (by rw [e33_10]; decide) (by rw [e33_10]; rfl) (by decide) ?_
          refine lv_aload_n G.1 G.2.1 d_Law_574 rfl (lv_at hl 1 rfl) ?_
          refine lv_aload_n G.1 G.2.1 d_Law_575 rfl (lv_at hl 0 rfl) ?_
          refine lv_iload_n G.1 G.2.1 d_Law_576 rfl (lv_at hl 3 rfl) ?_
          refine lv_iconst (v := 1) G.1 G.2.1 d_Law_577 (by decide) ?_
          refine lv_iadd G.1 G.2.1 d_Law_578 ?_
          refine usld G hX hbl hbA hS h d_Law_579 (fun x_98 h => ?_)
          refine lv_aload_n G.1 G.2.1 d_Law_580 rfl (lv_at hl 0 rfl) ?_
          refine lv_iload_n G.1 G.2.1 d_Law_581 rfl (lv_at hl 3 rfl) ?_
          refine lv_iconst (v := 2) G.1 G.2.1 d_Law_582 (by decide) ?_
          refine lv_iadd G.1 G.2.1 d_Law_583 ?_
          refine usld G hX hbl hbA hS h d_Law_584 (fun x_99 h => ?_)
          refine W.eq (g2 := F0 m 585 ls [.int x_99, .int x_98, .ref (ad 0)]) rfl ?_
          obtain ⟨mc_105, ms_106, hr_107, h⟩ := h
          refine utVi (As := [.int x_98, .int x_99]) (rest := []) G hP hD hS (ca_Cw_link l D g F sl hF ad mc_105 ms_106 y_h18 _ s_h18 0 x_98 x_99 H.size (us H) h_a0 h) w9_Cw_link q1524 ⟨Nat.le_of_ble_eq_true rfl, Nat.le_of_ble_eq_true rfl⟩ rfl rfl h_a0 (q := (RCw, TCw, 20)) rfl rfl hl.1 rfl (Nat.le_of_ble_eq_true rfl) rfl hr_107 d_Law_585 (fun r_100 y_102 s_101 d_103 e_104 H locs h hP hD hS => ?_)
          obtain ⟨hd, h⟩ := h
          refine lv_pop G.1 G.2.1 d_Law_588 rfl ?_
          refine lv_aload_n G.1 G.2.1 d_Law_589 rfl (lv_at hl 2 rfl) ?_
          refine lv_aload_n G.1 G.2.1 d_Law_590 rfl (lv_at hl 0 rfl) ?_
          refine lv_iload_n G.1 G.2.1 d_Law_591 rfl (lv_at hl 3 rfl) ?_
          refine lv_iconst (v := 1) G.1 G.2.1 d_Law_592 (by decide) ?_
          refine lv_iadd G.1 G.2.1 d_Law_593 ?_
          refine usld G hX hbl hbA hS h d_Law_594 (fun x_108 h => ?_)
          refine lv_aload_n G.1 G.2.1 d_Law_595 rfl (lv_at hl 0 rfl) ?_
          refine lv_iload_n G.1 G.2.1 d_Law_596 rfl (lv_at hl 3 rfl) ?_
          refine lv_iconst (v := 2) G.1 G.2.1 d_Law_597 (by decide) ?_
          refine lv_iadd G.1 G.2.1 d_Law_598 ?_
          refine W.eq (g2 := F0 m 599 ls [.int (x3h18 + 2), .ref bS, .int x_108, .ref (ad 76)]) rfl ?_
          refine usld G hX hbl hbA hS h d_Law_599 (fun x_109 h => ?_)
          refine ucVi (As := [.int x_108, .int x_109]) (rest := []) G hP hD hS (cu_Mo_link l D g ad y_102 _ s_101 76 x_108 x_109 H.size h_a76 h) w9_Mo_link q3673 ⟨Nat.le_of_ble_eq_true rfl, Nat.le_of_ble_eq_true rfl⟩ rfl rfl h_a76 (q := (RMo, TMo, 131)) rfl rfl hl.1 rfl (Nat.le_of_ble_eq_true rfl) rfl hd d_Law_600 (fun r_110 s_111 H locs h hP hD hS => ?_)
          refine lv_pop G.1 G.2.1 d_Law_603 rfl ?_
          refine lv_goto (tgt := 1768) G.1 G.2.1 d_Law_604 (by decide) ?_
          exact J_1768 y_102 s_111 (d_h18 + d_103) (e_h18 + e_104) x3h18 H locs h hP hD hS ls (lv_sub hl [0, 1, 2, 3] rfl)
        replace h := h.2 e33_10
        by_cases e33_11 : (x_1 &&& 63) = 11
        · skip
          have h := h.1 e33_11
          refine lv_tableIn (off := 574) (tgt := 607) G.1 G.2.1 d_Law_33 (by rw [e33_11]; decide) (by rw [e33_11]; decide) (by rw [e33_11]; rfl) (by decide) ?_
          refine lv_aload_n G.1 G.2.1 d_Law_607 rfl (lv_at hl 1 rfl) ?_
          refine lv_aload_n G.1 G.2.1 d_Law_608 rfl (lv_at hl 0 rfl) ?_
          refine lv_iload_n G.1 G.2.1 d_Law_609 rfl (lv_at hl 3 rfl) ?_
          refine lv_iconst (v := 1) G.1 G.2.1 d_Law_610 (by decide) ?_
          refine lv_iadd G.1 G.2.1 d_Law_611 ?_
          refine usld G hX hbl hbA hS h d_Law_612 (fun x_112 h => ?_)
          refine lv_aload_n G.1 G.2.1 d_Law_613 rfl (lv_at hl 0 rfl) ?_
          refine lv_iload_n G.1 G.2.1 d_Law_614 rfl (lv_at hl 3 rfl) ?_
          refine lv_iconst (v := 2) G.1 G.2.1 d_Law_615 (by decide) ?_
          refine lv_iadd G.1 G.2.1 d_Law_616 ?_
          refine usld G hX hbl hbA hS h d_Law_617 (fun x_113 h => ?_)
          refine W.eq (g2 := F0 m 618 ls [.int x_113, .int x_112, .ref (ad 0)]) rfl ?_
          refine ucVi (As := [.int x_112, .int x_113]) (rest := []) G hP hD hS (cu_Cw_checked l D g ad y_h18 _ s_h18 0 x_112 x_113 H.size h_a0 h) w9_Cw_checked q1719 ⟨Nat.le_of_ble_eq_true rfl, Nat.le_of_ble_eq_true rfl⟩ rfl rfl h_a0 (q := (RCw, TCw, 20)) rfl rfl hl.1 rfl (Nat.le_of_ble_eq_true rfl) rfl hd d_Law_618 (fun r_114 s_115 H locs h hP hD hS => ?_)
          refine lv_pop G.1 G.2.1 d_Law_621 rfl ?_
          refine lv_aload_n G.1 G.2.1 d_Law_622 rfl (lv_at hl 2 rfl) ?_
          refine lv_aload_n G.1 G.2.1 d_Law_623 rfl (lv_at hl 0 rfl) ?_
          refine lv_iload_n G.1 G.2.1 d_Law_624 rfl (lv_at hl 3 rfl) ?_
          refine lv_iconst (v := 1) G.1 G.2.1 d_Law_625 (by decide) ?_
          refine lv_iadd G.1 G.2.1 d_Law_626 ?_
          refine usld G hX hbl hbA hS h d_Law_627 (fun x_116 h => ?_)
          refine lv_aload_n G.1 G.2.1 d_Law_628 rfl (lv_at hl 0 rfl) ?_
          refine lv_iload_n G.1 G.2.1 d_Law_629 rfl (lv_at hl 3 rfl) ?_
          refine lv_iconst (v := 2) G.1 G.2.1 d_Law_630 (by decide) ?_
          refine lv_iadd G.1 G.2.1 d_Law_631 ?_
          refine W.eq (g2 := F0 m 632 ls [.int (x3h18 + 2), .ref bS, .int x_116, .ref (ad 76)]) rfl ?_
          refine usld G hX hbl hbA hS h d_Law_632 (fun x_117 h => ?_)
          refine ucVi (As := [.int x_116, .int x_117]) (rest := []) G hP hD hS (cu_Mo_checked l D g ad y_h18 _ s_115 76 x_116 x_117 H.size h_a76 h) w9_Mo_checked q3787 ⟨Nat.le_of_ble_eq_true rfl, Nat.le_of_ble_eq_true rfl⟩ rfl rfl h_a76 (q := (RMo, TMo, 131)) rfl rfl hl.1 rfl (Nat.le_of_ble_eq_true rfl) rfl hd d_Law_633 (fun r_118 s_119 H locs h hP hD hS => ?_)
          refine lv_pop G.1 G.2.1 d_Law_636 rfl ?_
          refine lv_goto (tgt := 1768) G.1 G.2.1 d_Law_637 (by decide) ?_
          exact J_1768 y_h18 s_119 d_h18 e_h18 x3h18 H locs h hP hD hS ls (lv_sub hl [0, 1, 2, 3] rfl)
        replace h := h.2 e33_11
        by_cases e33_12 : (x_1 &&& 63) = 12
        · skip
          have h := h.1 e33_12
          refine lv_tableIn (off := 607) (tgt := 640) G.1 G.2.1 d_Law_33 (by rw [e33_12]; decide) (by rw [e33_12]; decide) (by rw [e33_12]; rfl) (by decide) ?_
          refine lv_aload_n G.1 G.2.1 d_Law_640 rfl (lv_at hl 1 rfl) ?_
          refine lv_aload_n G.1 G.2.1 d_Law_641 rfl (lv_at hl 0 rfl) ?_
          refine lv_iload_n G.1 G.2.1 d_Law_642 rfl (lv_at hl 3 rfl) ?_
          refine lv_iconst (v := 1) G.1 G.2.1 d_Law_643 (by decide) ?_
          refine lv_iadd G.1 G.2.1 d_Law_644 ?_
          refine usld G hX hbl hbA hS h d_Law_645 (fun x_120 h => ?_)
          refine lv_aload_n G.1 G.2.1 d_Law_646 rfl (lv_at hl 0 rfl) ?_
          refine lv_iload_n G.1 G.2.1 d_Law_647 rfl (lv_at hl 3 rfl) ?_
          refine lv_iconst (v := 2) G.1 G.2.1 d_Law_648 (by decide) ?_
          refine lv_iadd G.1 G.2.1 d_Law_649 ?_
          refine usld G hX hbl hbA hS h d_Law_650 (fun x_121 h => ?_)
          refine W.eq (g2 := F0 m 651 ls [.int x_121, .int x_120, .ref (ad 0)]) rfl ?_
          obtain ⟨mc_127, ms_128, hr_129, h⟩ := h
          refine uaVi (As := [.int x_120, .int x_121]) (rest := []) G hP hD hS (ca_Cw_call l D g ad mc_127 ms_128 y_h18 _ s_h18 0 x_120 x_121 H.size (us H) h_a0 h) w9_Cw_call q1723 ⟨Nat.le_of_ble_eq_true rfl, Nat.le_of_ble_eq_true rfl⟩ rfl rfl h_a0 (q := (RCw, TCw, 20)) rfl rfl hl.1 rfl (Nat.le_of_ble_eq_true rfl) rfl hr_129 d_Law_651 (fun r_122 y_124 s_123 d_125 e_126 H locs h hP hD hS => ?_)
          obtain ⟨hd, h⟩ := h
          refine lv_pop G.1 G.2.1 d_Law_654 rfl ?_
          refine lv_aload_n G.1 G.2.1 d_Law_655 rfl (lv_at hl 2 rfl) ?_
          refine lv_aload_n G.1 G.2.1 d_Law_656 rfl (lv_at hl 0 rfl) ?_
          refine lv_iload_n G.1 G.2.1 d_Law_657 rfl (lv_at hl 3 rfl) ?_
          refine lv_iconst (v := 1) G.1 G.2.1 d_Law_658 (by decide) ?_
          refine lv_iadd G.1 G.2.1 d_Law_659 ?_
          refine usld G hX hbl hbA hS h d_Law_660 (fun x_130 h => ?_)
          refine lv_aload_n G.1 G.2.1 d_Law_661 rfl (lv_at hl 0 rfl) ?_
          refine lv_iload_n G.1 G.2.1 d_Law_662 rfl (lv_at hl 3 rfl) ?_
          refine lv_iconst (v := 2) G.1 G.2.1 d_Law_663 (by decide) ?_
          refine lv_iadd G.1 G.2.1 d_Law_664 ?_
          refine W.eq (g2 := F0 m 665 ls [.int (x3h18 + 2), .ref bS, .int x_130, .ref (ad 76)]) rfl ?_
          refine usld G hX hbl hbA hS h d_Law_665 (fun x_131 h => ?_)
          obtain ⟨mc_137, ms_138, hr_139, h⟩ := h
          refine uaVi (As := [.int x_130, .int x_131]) (rest := []) G hP hD hS (ca_Mo_call l D g ad mc_137 ms_138 y_124 _ s_123 76 x_130 x_131 H.size (us H) h_a76 h) w9_Mo_call q3791 ⟨Nat.le_of_ble_eq_true rfl, Nat.le_of_ble_eq_true rfl⟩ rfl rfl h_a76 (q := (RMo, TMo, 131)) rfl rfl hl.1 rfl (Nat.le_of_ble_eq_true rfl) rfl hr_139 d_Law_666 (fun r_132 y_134 s_133 d_135 e_136 H locs h hP hD hS => ?_)
          obtain ⟨hd, h⟩ := h
          refine lv_pop G.1 G.2.1 d_Law_669 rfl ?_
          refine lv_goto (tgt := 1768) G.1 G.2.1 d_Law_670 (by decide) ?_
          exact J_1768 y_134 s_133 (d_h18 + d_125 + d_135) (e_h18 + e_126 + e_136) x3h18 H locs h hP hD hS ls (lv_sub hl [0, 1, 2, 3] rfl)
        replace h := h.2 e33_12
        by_cases e33_13 : (x_1 &&& 63) = 13
        · skip
          have h := h.1 e33_13
          refine lv_tableIn (off := 640) (tgt := 673) G.1 G.2.1 d_Law_33 (by rw [e33_13]; decide) (by rw [e33_13]; decide) (by rw [e33_13]; rfl) (by decide) ?_
          refine lv_aload_n G.1 G.2.1 d_Law_673 rfl (lv_at hl 1 rfl) ?_
          refine lv_aload_n G.1 G.2.1 d_Law_674 rfl (lv_at hl 0 rfl) ?_
          refine lv_iload_n G.1 G.2.1 d_Law_675 rfl (lv_at hl 3 rfl) ?_
          refine lv_iconst (v := 1) G.1 G.2.1 d_Law_676 (by decide) ?_
          refine lv_iadd G.1 G.2.1 d_Law_677 ?_
          refine usld G hX hbl hbA hS h d_Law_678 (fun x_140 h => ?_)
          refine lv_aload_n G.1 G.2.1 d_Law_679 rfl (lv_at hl 0 rfl) ?_
          refine lv_iload_n G.1 G.2.1 d_Law_680 rfl (lv_at hl 3 rfl) ?_
          refine lv_iconst (v := 2) G.1 G.2.1 d_Law_681 (by decide) ?_
          refine lv_iadd G.1 G.2.1 d_Law_682 ?_
          refine usld G hX hbl hbA hS h d_Law_683 (fun x_141 h => ?_)
          refine W.eq (g2 := F0 m 684 ls [.int x_141, .int x_140, .ref (ad 0)]) rfl ?_
          refine ucVi (As := [.int x_140, .int x_141]) (rest := []) G hP hD hS (cu_Cw_quantum l D g ad y_h18 _ s_h18 0 x_140 x_141 H.size h_a0 h) w9_Cw_quantum q1753 ⟨Nat.le_of_ble_eq_true rfl, Nat.le_of_ble_eq_true rfl⟩ rfl rfl h_a0 (q := (RCw, TCw, 20)) rfl rfl hl.1 rfl (Nat.le_of_ble_eq_true rfl) rfl hd d_Law_684 (fun r_142 s_143 H locs h hP hD hS => ?_)
          refine lv_pop G.1 G.2.1 d_Law_687 rfl ?_
          refine lv_aload_n G.1 G.2.1 d_Law_688 rfl (lv_at hl 2 rfl) ?_
          refine lv_aload_n G.1 G.2.1 d_Law_689 rfl (lv_at hl 0 rfl) ?_
          refine lv_iload_n G.1 G.2.1 d_Law_690 rfl (lv_at hl 3 rfl) ?_
          refine lv_iconst (v := 1) G.1 G.2.1 d_Law_691 (by decide) ?_
          refine lv_iadd G.1 G.2.1 d_Law_692 ?_
          refine usld G hX hbl hbA hS h d_Law_693 (fun x_144 h => ?_)
          refine lv_aload_n G.1 G.2.1 d_Law_694 rfl (lv_at hl 0 rfl) ?_
          refine lv_iload_n G.1 G.2.1 d_Law_695 rfl (lv_at hl 3 rfl) ?_
          refine lv_iconst (v := 2) G.1 G.2.1 d_Law_696 (by decide) ?_
          refine lv_iadd G.1 G.2.1 d_Law_697 ?_
          refine W.eq (g2 := F0 m 698 ls [.int (x3h18 + 2), .ref bS, .int x_144, .ref (ad 76)]) rfl ?_
          refine usld G hX hbl hbA hS h d_Law_698 (fun x_145 h => ?_)
          refine ucVi (As := [.int x_144, .int x_145]) (rest := []) G hP hD hS (cu_Mo_quantum l D g ad y_h18 _ s_143 76 x_144 x_145 H.size h_a76 h) w9_Mo_quantum q3814 ⟨Nat.le_of_ble_eq_true rfl, Nat.le_of_ble_eq_true rfl⟩ rfl rfl h_a76 (q := (RMo, TMo, 131)) rfl rfl hl.1 rfl (Nat.le_of_ble_eq_true rfl) rfl hd d_Law_699 (fun r_146 s_147 H locs h hP hD hS => ?_)
          refine lv_pop G.1 G.2.1 d_Law_702 rfl ?_
          refine lv_goto (tgt := 1768) G.1 G.2.1 d_Law_703 (by decide) ?_
          exact J_1768 y_h18 s_147 d_h18 e_h18 x3h18 H locs h hP hD hS ls (lv_sub hl [0, 1, 2, 3] rfl)
        replace h := h.2 e33_13
        by_cases e33_14 : (x_1 &&& 63) = 14
        · skip
          have h := h.1 e33_14
          refine lv_tableIn (off := 673) (tgt := 706) G.1 G.2.1 d_Law_33 (by rw [e33_14]; decide) (by rw [e33_14]; decide) (by rw [e33_14]; rfl) (by decide) ?_
          refine lv_aload_n G.1 G.2.1 d_Law_706 rfl (lv_at hl 1 rfl) ?_
          refine lv_aload_n G.1 G.2.1 d_Law_707 rfl (lv_at hl 0 rfl) ?_
          refine lv_iload_n G.1 G.2.1 d_Law_708 rfl (lv_at hl 3 rfl) ?_
          refine lv_iconst (v := 1) G.1 G.2.1 d_Law_709 (by decide) ?_
          refine lv_iadd G.1 G.2.1 d_Law_710 ?_
          refine usld G hX hbl hbA hS h d_Law_711 (fun x_148 h => ?_)
          refine ucVi (As := [.int x_148]) (rest := []) G hP hD hS (cu_Cw_halt l D g ad y_h18 _ s_h18 0 x_148 H.size h_a0 h) w9_Cw_halt q1757 ⟨Nat.le_of_ble_eq_true rfl, Nat.le_of_ble_eq_true rfl⟩ rfl rfl h_a0 (q := (RCw, TCw, 20)) rfl rfl hl.1 rfl (Nat.le_of_ble_eq_true rfl) rfl hd d_Law_712 (fun r_149 s_150 H locs h hP hD hS => ?_)
          refine lv_pop G.1 G.2.1 d_Law_715 rfl ?_
          refine lv_aload_n G.1 G.2.1 d_Law_716 rfl (lv_at hl 2 rfl) ?_
          refine lv_aload_n G.1 G.2.1 d_Law_717 rfl (lv_at hl 0 rfl) ?_
          refine lv_iload_n G.1 G.2.1 d_Law_718 rfl (lv_at hl 3 rfl) ?_
          refine W.eq (g2 := F0 m 719 ls [.int x3h18, .ref bS, .ref (ad 76)]) rfl ?_
          refine lv_iconst (v := 1) G.1 G.2.1 d_Law_719 (by decide) ?_
          refine lv_iadd G.1 G.2.1 d_Law_720 ?_
          refine usld G hX hbl hbA hS h d_Law_721 (fun x_151 h => ?_)
          refine ucVi (As := [.int x_151]) (rest := []) G hP hD hS (cu_Mo_halt l D g ad y_h18 _ s_150 76 x_151 H.size h_a76 h) w9_Mo_halt q3818 ⟨Nat.le_of_ble_eq_true rfl, Nat.le_of_ble_eq_true rfl⟩ rfl rfl h_a76 (q := (RMo, TMo, 131)) rfl rfl hl.1 rfl (Nat.le_of_ble_eq_true rfl) rfl hd d_Law_722 (fun r_152 s_153 H locs h hP hD hS => ?_)
          refine lv_pop G.1 G.2.1 d_Law_725 rfl ?_
          refine lv_goto (tgt := 1768) G.1 G.2.1 d_Law_726 (by decide) ?_
          exact J_1768 y_h18 s_153 d_h18 e_h18 x3h18 H locs h hP hD hS ls (lv_sub hl [0, 1, 2, 3] rfl)
        replace h := h.2 e33_14
        by_cases e33_15 : (x_1 &&& 63) = 15
        · skip
          have h := h.1 e33_15
          refine lv_tableIn (off := 696) (tgt := 729) G.1 G.2.1 d_Law_33 (by rw [e33_15]; decide) (by rw [e33_15]; decide) (by rw [e33_15]; rfl) (by decide) ?_
          refine lv_aload_n G.1 G.2.1 d_Law_729 rfl (lv_at hl 1 rfl) ?_
          refine lv_aload_n G.1 G.2.1 d_Law_730 rfl (lv_at hl 0 rfl) ?_
          refine lv_iload_n G.1 G.2.1 d_Law_731 rfl (lv_at hl 3 rfl) ?_
          refine lv_iconst (v := 1) G.1 G.2.1 d_Law_732 (by decide) ?_
          refine lv_iadd G.1 G.2.1 d_Law_733 ?_
          refine usld G hX hbl hbA hS h d_Law_734 (fun x_154 h => ?_)
          refine lv_aload_n G.1 G.2.1 d_Law_735 rfl (lv_at hl 0 rfl) ?_
          refine lv_iload_n G.1 G.2.1 d_Law_736 rfl (lv_at hl 3 rfl) ?_
          refine lv_iconst (v := 2) G.1 G.2.1 d_Law_737 (by decide) ?_
          refine lv_iadd G.1 G.2.1 d_Law_738 ?_
          refine usld G hX hbl hbA hS h d_Law_739 (fun x_155 h => ?_)
          refine W.eq (g2 := F0 m 740 ls [.int x_155, .int x_154, .ref (ad 0)]) rfl ?_
          obtain ⟨mc_161, ms_162, hr_163, h⟩ := h
          refine utVi (As := [.int x_154, .int x_155]) (rest := []) G hP hD hS (ca_Cw_step l D g F sl hF ad mc_161 ms_162 y_h18 _ s_h18 0 x_154 x_155 H.size (us H) h_a0 h) w9_Cw_step q1775 ⟨Nat.le_of_ble_eq_true rfl, Nat.le_of_ble_eq_true rfl⟩ rfl rfl h_a0 (q := (RCw, TCw, 20)) rfl rfl hl.1 rfl (Nat.le_of_ble_eq_true rfl) rfl hr_163 d_Law_740 (fun r_156 y_158 s_157 d_159 e_160 H locs h hP hD hS => ?_)
          obtain ⟨hd, h⟩ := h
          refine lv_pop G.1 G.2.1 d_Law_743 rfl ?_
          refine lv_aload_n G.1 G.2.1 d_Law_744 rfl (lv_at hl 2 rfl) ?_
          refine lv_aload_n G.1 G.2.1 d_Law_745 rfl (lv_at hl 0 rfl) ?_
          refine lv_iload_n G.1 G.2.1 d_Law_746 rfl (lv_at hl 3 rfl) ?_
          refine lv_iconst (v := 1) G.1 G.2.1 d_Law_747 (by decide) ?_
          refine lv_iadd G.1 G.2.1 d_Law_748 ?_
          refine usld G hX hbl hbA hS h d_Law_749 (fun x_164 h => ?_)
          refine lv_aload_n G.1 G.2.1 d_Law_750 rfl (lv_at hl 0 rfl) ?_
          refine lv_iload_n G.1 G.2.1 d_Law_751 rfl (lv_at hl 3 rfl) ?_
          refine lv_iconst (v := 2) G.1 G.2.1 d_Law_752 (by decide) ?_
          refine lv_iadd G.1 G.2.1 d_Law_753 ?_
          refine W.eq (g2 := F0 m 754 ls [.int (x3h18 + 2), .ref bS, .int x_164, .ref (ad 76)]) rfl ?_
          refine usld G hX hbl hbA hS h d_Law_754 (fun x_165 h => ?_)
          obtain ⟨mc_171, ms_172, hr_173, h⟩ := h
          refine uaVi (As := [.int x_164, .int x_165]) (rest := []) G hP hD hS (ca_Mo_step l D g ad mc_171 ms_172 y_158 _ s_157 76 x_164 x_165 H.size (us H) h_a76 h) w9_Mo_step q3822 ⟨Nat.le_of_ble_eq_true rfl, Nat.le_of_ble_eq_true rfl⟩ rfl rfl h_a76 (q := (RMo, TMo, 131)) rfl rfl hl.1 rfl (Nat.le_of_ble_eq_true rfl) rfl hr_173 d_Law_755 (fun r_166 y_168 s_167 d_169 e_170 H locs h hP hD hS => ?_)
          obtain ⟨hd, h⟩ := h
          refine lv_pop G.1 G.2.1 d_Law_758 rfl ?_
          refine lv_goto (tgt := 1768) G.1 G.2.1 d_Law_759 (by decide) ?_
          exact J_1768 y_168 s_167 (d_h18 + d_159 + d_169) (e_h18 + e_160 + e_170) x3h18 H locs h hP hD hS ls (lv_sub hl [0, 1, 2, 3] rfl)
        replace h := h.2 e33_15
        by_cases e33_16 : (x_1 &&& 63) = 16
        · skip
          have h := h.1 e33_16
          refine lv_tableIn (off := 729) (tgt := 762) G.1 G.2.1 d_Law_33 (by rw [e33_16]; decide) (by rw [e33_16]; decide) (by rw [e33_16]; rfl) (by decide) ?_
          refine lv_aload_n G.1 G.2.1 d_Law_762 rfl (lv_at hl 1 rfl) ?_
          refine lv_aload_n G.1 G.2.1 d_Law_763 rfl (lv_at hl 0 rfl) ?_
          refine lv_iload_n G.1 G.2.1 d_Law_764 rfl (lv_at hl 3 rfl) ?_
          refine lv_iconst (v := 1) G.1 G.2.1 d_Law_765 (by decide) ?_
          refine lv_iadd G.1 G.2.1 d_Law_766 ?_
          refine usld G hX hbl hbA hS h d_Law_767 (fun x_174 h => ?_)
          refine lv_aload_n G.1 G.2.1 d_Law_768 rfl (lv_at hl 0 rfl) ?_
          refine lv_iload_n G.1 G.2.1 d_Law_769 rfl (lv_at hl 3 rfl) ?_
          refine lv_iconst (v := 2) G.1 G.2.1 d_Law_770 (by decide) ?_
          refine lv_iadd G.1 G.2.1 d_Law_771 ?_
          refine usld G hX hbl hbA hS h d_Law_772 (fun x_175 h => ?_)
          refine W.eq (g2 := F0 m 773 ls [.int x_175, .int x_174, .ref (ad 0)]) rfl ?_
          refine lv_aload_n G.1 G.2.1 d_Law_773 rfl (lv_at hl 0 rfl) ?_
          refine lv_iload_n G.1 G.2.1 d_Law_774 rfl (lv_at hl 3 rfl) ?_
          refine lv_iconst (v := 3) G.1 G.2.1 d_Law_775 (by decide) ?_
          refine lv_iadd G.1 G.2.1 d_Law_776 ?_
          refine usld G hX hbl hbA hS h d_Law_777 (fun x_176 h => ?_)
          refine ucVi (As := [.int x_174, .int x_175, .int x_176]) (rest := []) G hP hD hS (cu_Cw_run l D g ad y_h18 _ s_h18 0 x_174 x_175 x_176 H.size h_a0 h) w9_Cw_run q2089 ⟨Nat.le_of_ble_eq_true rfl, Nat.le_of_ble_eq_true rfl⟩ rfl rfl h_a0 (q := (RCw, TCw, 20)) rfl rfl hl.1 rfl (Nat.le_of_ble_eq_true rfl) rfl hd d_Law_778 (fun r_177 s_178 H locs h hP hD hS => ?_)
          refine lv_pop G.1 G.2.1 d_Law_781 rfl ?_
          refine lv_aload_n G.1 G.2.1 d_Law_782 rfl (lv_at hl 2 rfl) ?_
          refine lv_aload_n G.1 G.2.1 d_Law_783 rfl (lv_at hl 0 rfl) ?_
          refine lv_iload_n G.1 G.2.1 d_Law_784 rfl (lv_at hl 3 rfl) ?_
          refine lv_iconst (v := 1) G.1 G.2.1 d_Law_785 (by decide) ?_
          refine lv_iadd G.1 G.2.1 d_Law_786 ?_
          refine W.eq (g2 := F0 m 787 ls [.int (x3h18 + 1), .ref bS, .ref (ad 76)]) rfl ?_
          refine usld G hX hbl hbA hS h d_Law_787 (fun x_179 h => ?_)
          refine lv_aload_n G.1 G.2.1 d_Law_788 rfl (lv_at hl 0 rfl) ?_
          refine lv_iload_n G.1 G.2.1 d_Law_789 rfl (lv_at hl 3 rfl) ?_
          refine lv_iconst (v := 2) G.1 G.2.1 d_Law_790 (by decide) ?_
          refine lv_iadd G.1 G.2.1 d_Law_791 ?_
          refine usld G hX hbl hbA hS h d_Law_792 (fun x_180 h => ?_)
          refine lv_aload_n G.1 G.2.1 d_Law_793 rfl (lv_at hl 0 rfl) ?_
          refine lv_iload_n G.1 G.2.1 d_Law_794 rfl (lv_at hl 3 rfl) ?_
          refine lv_iconst (v := 3) G.1 G.2.1 d_Law_795 (by decide) ?_
          refine lv_iadd G.1 G.2.1 d_Law_796 ?_
          refine usld G hX hbl hbA hS h d_Law_797 (fun x_181 h => ?_)
          refine ucVi (As := [.int x_179, .int x_180, .int x_181]) (rest := []) G hP hD hS (cu_Mo_run l D g ad y_h18 _ s_178 76 x_179 x_180 x_181 H.size h_a76 h) w9_Mo_run q4015 ⟨Nat.le_of_ble_eq_true rfl, Nat.le_of_ble_eq_true rfl⟩ rfl rfl h_a76 (q := (RMo, TMo, 131)) rfl rfl hl.1 rfl (Nat.le_of_ble_eq_true rfl) rfl hd d_Law_798 (fun r_182 s_183 H locs h hP hD hS => ?_)
          refine W.eq (g2 := F0 m 801 ls [.int r_182]) rfl ?_
          refine lv_pop G.1 G.2.1 d_Law_801 rfl ?_
          refine lv_goto (tgt := 1768) G.1 G.2.1 d_Law_802 (by decide) ?_
          exact J_1768 y_h18 s_183 d_h18 e_h18 x3h18 H locs h hP hD hS ls (lv_sub hl [0, 1, 2, 3] rfl)
        replace h := h.2 e33_16
        by_cases e33_17 : (x_1 &&& 63) = 17
        · skip
          have h := h.1 e33_17
          refine lv_tableIn (off := 772) (tgt := 805) G.1 G.2.1 d_Law_33 (by rw [e33_17]; decide) (by rw [e33_17]; decide) (by rw [e33_17]; rfl) (by decide) ?_
          refine lv_aload_n G.1 G.2.1 d_Law_805 rfl (lv_at hl 1 rfl) ?_
          refine lv_aload_n G.1 G.2.1 d_Law_806 rfl (lv_at hl 0 rfl) ?_
          refine lv_iload_n G.1 G.2.1 d_Law_807 rfl (lv_at hl 3 rfl) ?_
          refine lv_iconst (v := 1) G.1 G.2.1 d_Law_808 (by decide) ?_
          refine lv_iadd G.1 G.2.1 d_Law_809 ?_
          refine usld G hX hbl hbA hS h d_Law_810 (fun x_184 h => ?_)
          refine lv_aload_n G.1 G.2.1 d_Law_811 rfl (lv_at hl 0 rfl) ?_
          refine lv_iload_n G.1 G.2.1 d_Law_812 rfl (lv_at hl 3 rfl) ?_
          refine lv_iconst (v := 2) G.1 G.2.1 d_Law_813 (by decide) ?_
          refine lv_iadd G.1 G.2.1 d_Law_814 ?_
          refine usld G hX hbl hbA hS h d_Law_815 (fun x_185 h => ?_)
          refine W.eq (g2 := F0 m 816 ls [.int x_185, .int x_184, .ref (ad 0)]) rfl ?_
          refine ucVi (As := [.int x_184, .int x_185]) (rest := []) G hP hD hS (cu_Cw_started l D g ad y_h18 _ s_h18 0 x_184 x_185 H.size h_a0 h) w9_Cw_started q2105 ⟨Nat.le_of_ble_eq_true rfl, Nat.le_of_ble_eq_true rfl⟩ rfl rfl h_a0 (q := (RCw, TCw, 20)) rfl rfl hl.1 rfl (Nat.le_of_ble_eq_true rfl) rfl hd d_Law_816 (fun r_186 s_187 H locs h hP hD hS => ?_)
          refine lv_pop G.1 G.2.1 d_Law_819 rfl ?_
          refine lv_aload_n G.1 G.2.1 d_Law_820 rfl (lv_at hl 2 rfl) ?_
          refine lv_aload_n G.1 G.2.1 d_Law_821 rfl (lv_at hl 0 rfl) ?_
          refine lv_iload_n G.1 G.2.1 d_Law_822 rfl (lv_at hl 3 rfl) ?_
          refine lv_iconst (v := 1) G.1 G.2.1 d_Law_823 (by decide) ?_
          refine lv_iadd G.1 G.2.1 d_Law_824 ?_
          refine usld G hX hbl hbA hS h d_Law_825 (fun x_188 h => ?_)
          refine lv_aload_n G.1 G.2.1 d_Law_826 rfl (lv_at hl 0 rfl) ?_
          refine lv_iload_n G.1 G.2.1 d_Law_827 rfl (lv_at hl 3 rfl) ?_
          refine lv_iconst (v := 2) G.1 G.2.1 d_Law_828 (by decide) ?_
          refine lv_iadd G.1 G.2.1 d_Law_829 ?_
          refine W.eq (g2 := F0 m 830 ls [.int (x3h18 + 2), .ref bS, .int x_188, .ref (ad 76)]) rfl ?_
          refine usld G hX hbl hbA hS h d_Law_830 (fun x_189 h => ?_)
          refine ucVi (As := [.int x_188, .int x_189]) (rest := []) G hP hD hS (cu_Mo_started l D g ad y_h18 _ s_187 76 x_188 x_189 H.size h_a76 h) w9_Mo_started q4019 ⟨Nat.le_of_ble_eq_true rfl, Nat.le_of_ble_eq_true rfl⟩ rfl rfl h_a76 (q := (RMo, TMo, 131)) rfl rfl hl.1 rfl (Nat.le_of_ble_eq_true rfl) rfl hd d_Law_831 (fun r_190 s_191 H locs h hP hD hS => ?_)
          refine lv_pop G.1 G.2.1 d_Law_834 rfl ?_
          refine lv_goto (tgt := 1768) G.1 G.2.1 d_Law_835 (by decide) ?_
          exact J_1768 y_h18 s_191 d_h18 e_h18 x3h18 H locs h hP hD hS ls (lv_sub hl [0, 1, 2, 3] rfl)
        replace h := h.2 e33_17
        by_cases e33_18 : (x_1 &&& 63) = 18
        · skip
          have h := h.1 e33_18
          refine lv_tableIn (off := 805) (tgt := 838) G.1 G.2.1 d_Law_33 (by rw [e33_18]; decide) (by rw [e33_18]; decide) (by rw [e33_18]; rfl) (by decide) ?_
          refine lv_aload_n G.1 G.2.1 d_Law_838 rfl (lv_at hl 1 rfl) ?_
          refine lv_aload_n G.1 G.2.1 d_Law_839 rfl (lv_at hl 0 rfl) ?_
          refine lv_iload_n G.1 G.2.1 d_Law_840 rfl (lv_at hl 3 rfl) ?_
          refine lv_iconst (v := 1) G.1 G.2.1 d_Law_841 (by decide) ?_
          refine lv_iadd G.1 G.2.1 d_Law_842 ?_
          refine usld G hX hbl hbA hS h d_Law_843 (fun x_192 h => ?_)
          refine lv_aload_n G.1 G.2.1 d_Law_844 rfl (lv_at hl 0 rfl) ?_
          refine lv_iload_n G.1 G.2.1 d_Law_845 rfl (lv_at hl 3 rfl) ?_
          refine lv_iconst (v := 2) G.1 G.2.1 d_Law_846 (by decide) ?_
          refine lv_iadd G.1 G.2.1 d_Law_847 ?_
          refine usld G hX hbl hbA hS h d_Law_848 (fun x_193 h => ?_)
          refine W.eq (g2 := F0 m 849 ls [.int x_193, .int x_192, .ref (ad 0)]) rfl ?_
          refine lv_aload_n G.1 G.2.1 d_Law_849 rfl (lv_at hl 0 rfl) ?_
          refine lv_iload_n G.1 G.2.1 d_Law_850 rfl (lv_at hl 3 rfl) ?_
          refine lv_iconst (v := 3) G.1 G.2.1 d_Law_851 (by decide) ?_
          refine lv_iadd G.1 G.2.1 d_Law_852 ?_
          refine usld G hX hbl hbA hS h d_Law_853 (fun x_194 h => ?_)
          have J_862 : ∀ (y_j862 : Ly) (s_j862 : St) (d_j862 e_j862 : Nat) (x3j862 : Int32) (z1j862 : Int32) (z2j862 : Int32) (z3j862 : Int32) (H : Heap) (locs : List Loc), wja_Law_862 mc ms lenS xS Post K_18 y_j862 s_j862 d_j862 e_j862 x3j862 z1j862 z2j862 z3j862 → va_P D CL (ws g ad y_j862 s_j862) H → va_D A (ws g ad y_j862 s_j862) → va_S A s.heap H locs → ∀ ls, lv_has ls 4 [(0, .ref bS), (1, .ref (ad 0)), (2, .ref (ad 76)), (3, .int x3j862)] → W p l e (ra_Law mc ms) s m args below meth c H locs d_j862 e_j862 Q (F0 m 862 ls [.int z3j862, .int z2j862, .int z1j862, .ref (ad 0)]) := by
            intro y_j862 s_j862 d_j862 e_j862 x3j862 z1j862 z2j862 z3j862 H locs h hP hD hS ls hl
            unfold wja_Law_862 at h
            obtain ⟨hd, h⟩ := h
            refine lv_aload_n G.1 G.2.1 d_Law_862 rfl (lv_at hl 0 rfl) ?_
            refine lv_iload_n G.1 G.2.1 d_Law_863 rfl (lv_at hl 3 rfl) ?_
            refine lv_iconst (v := 4) G.1 G.2.1 d_Law_864 (by decide) ?_
            refine lv_iadd G.1 G.2.1 d_Law_865 ?_
            refine usld G hX hbl hbA hS h d_Law_866 (fun x_195 h => ?_)
            refine ucVi (As := [.int z1j862, .int z2j862, .int z3j862, .int x_195]) (rest := []) G hP hD hS (cu_Cw_value l D g ad y_j862 _ s_j862 0 z1j862 z2j862 z3j862 x_195 H.size h_a0 h) w9_Cw_value q2109 ⟨Nat.le_of_ble_eq_true rfl, Nat.le_of_ble_eq_true rfl⟩ rfl rfl h_a0 (q := (RCw, TCw, 20)) rfl rfl hl.1 rfl (Nat.le_of_ble_eq_true rfl) rfl hd d_Law_867 (fun r_196 s_197 H locs h hP hD hS => ?_)
            refine lv_pop G.1 G.2.1 d_Law_870 rfl ?_
            refine lv_aload_n G.1 G.2.1 d_Law_871 rfl (lv_at hl 2 rfl) ?_
            refine lv_aload_n G.1 G.2.1 d_Law_872 rfl (lv_at hl 0 rfl) ?_
            refine lv_iload_n G.1 G.2.1 d_Law_873 rfl (lv_at hl 3 rfl) ?_
            refine lv_iconst (v := 1) G.1 G.2.1 d_Law_874 (by decide) ?_
            refine W.eq (g2 := F0 m 875 ls [.int 1, .int x3j862, .ref bS, .ref (ad 76)]) rfl ?_
            refine lv_iadd G.1 G.2.1 d_Law_875 ?_
            refine usld G hX hbl hbA hS h d_Law_876 (fun x_198 h => ?_)
            refine lv_aload_n G.1 G.2.1 d_Law_877 rfl (lv_at hl 0 rfl) ?_
            refine lv_iload_n G.1 G.2.1 d_Law_878 rfl (lv_at hl 3 rfl) ?_
            refine lv_iconst (v := 2) G.1 G.2.1 d_Law_879 (by decide) ?_
            refine lv_iadd G.1 G.2.1 d_Law_880 ?_
            refine usld G hX hbl hbA hS h d_Law_881 (fun x_199 h => ?_)
            refine lv_aload_n G.1 G.2.1 d_Law_882 rfl (lv_at hl 0 rfl) ?_
            refine lv_iload_n G.1 G.2.1 d_Law_883 rfl (lv_at hl 3 rfl) ?_
            refine lv_iconst (v := 3) G.1 G.2.1 d_Law_884 (by decide) ?_
            refine lv_iadd G.1 G.2.1 d_Law_885 ?_
            refine usld G hX hbl hbA hS h d_Law_886 (fun x_200 h => ?_)
            have J_895 : ∀ (y_j895 : Ly) (s_j895 : St) (d_j895 e_j895 : Nat) (x3j895 : Int32) (z1j895 : Int32) (z2j895 : Int32) (z3j895 : Int32) (H : Heap) (locs : List Loc), wja_Law_895 mc ms lenS xS Post K_18 y_j895 s_j895 d_j895 e_j895 x3j895 z1j895 z2j895 z3j895 → va_P D CL (ws g ad y_j895 s_j895) H → va_D A (ws g ad y_j895 s_j895) → va_S A s.heap H locs → ∀ ls, lv_has ls 4 [(0, .ref bS), (1, .ref (ad 0)), (2, .ref (ad 76)), (3, .int x3j895)] → W p l e (ra_Law mc ms) s m args below meth c H locs d_j895 e_j895 Q (F0 m 895 ls [.int z3j895, .int z2j895, .int z1j895, .ref (ad 76)]) := by
              intro y_j895 s_j895 d_j895 e_j895 x3j895 z1j895 z2j895 z3j895 H locs h hP hD hS ls hl
              unfold wja_Law_895 at h
              obtain ⟨hd, h⟩ := h
              refine lv_aload_n G.1 G.2.1 d_Law_895 rfl (lv_at hl 0 rfl) ?_
              refine lv_iload_n G.1 G.2.1 d_Law_896 rfl (lv_at hl 3 rfl) ?_
              refine lv_iconst (v := 4) G.1 G.2.1 d_Law_897 (by decide) ?_
              refine lv_iadd G.1 G.2.1 d_Law_898 ?_
              refine usld G hX hbl hbA hS h d_Law_899 (fun x_201 h => ?_)
              refine ucVi (As := [.int z1j895, .int z2j895, .int z3j895, .int x_201]) (rest := []) G hP hD hS (cu_Mo_value l D g ad y_j895 _ s_j895 76 z1j895 z2j895 z3j895 x_201 H.size h_a76 h) w9_Mo_value q4023 ⟨Nat.le_of_ble_eq_true rfl, Nat.le_of_ble_eq_true rfl⟩ rfl rfl h_a76 (q := (RMo, TMo, 131)) rfl rfl hl.1 rfl (Nat.le_of_ble_eq_true rfl) rfl hd d_Law_900 (fun r_202 s_203 H locs h hP hD hS => ?_)
              refine lv_pop G.1 G.2.1 d_Law_903 rfl ?_
              refine lv_goto (tgt := 1768) G.1 G.2.1 d_Law_904 (by decide) ?_
              exact J_1768 y_j895 s_203 d_j895 e_j895 x3j895 H locs h hP hD hS ls (lv_sub hl [0, 1, 2, 3] rfl)
            refine W.eq (g2 := F0 m 887 ls [.int x_200, .int x_199, .int x_198, .ref (ad 76)]) rfl ?_
            refine lv_if_eq (tgt := 894) G.1 G.2.1 d_Law_887 (by decide) (fun c887 => ?_) (fun c887 => ?_)
            · skip
              have h := h.1 c887
              refine lv_iconst (v := 0) G.1 G.2.1 d_Law_894 (by decide) ?_
              exact J_895 y_j862 s_197 d_j862 e_j862 x3j862 x_198 x_199 0 H locs h hP hD hS ls (lv_sub hl [0, 1, 2, 3] rfl)
            · skip
              have h := h.2 c887
              refine lv_iconst (v := 1) G.1 G.2.1 d_Law_890 (by decide) ?_
              refine lv_goto (tgt := 895) G.1 G.2.1 d_Law_891 (by decide) ?_
              exact J_895 y_j862 s_197 d_j862 e_j862 x3j862 x_198 x_199 1 H locs h hP hD hS ls (lv_sub hl [0, 1, 2, 3] rfl)
          refine lv_if_eq (tgt := 861) G.1 G.2.1 d_Law_854 (by decide) (fun c854 => ?_) (fun c854 => ?_)
          · skip
            have h := h.1 c854
            refine lv_iconst (v := 0) G.1 G.2.1 d_Law_861 (by decide) ?_
            exact J_862 y_h18 s_h18 d_h18 e_h18 x3h18 x_192 x_193 0 H locs h hP hD hS ls (lv_sub hl [0, 1, 2, 3] rfl)
          · skip
            have h := h.2 c854
            refine lv_iconst (v := 1) G.1 G.2.1 d_Law_857 (by decide) ?_
            refine lv_goto (tgt := 862) G.1 G.2.1 d_Law_858 (by decide) ?_
            exact J_862 y_h18 s_h18 d_h18 e_h18 x3h18 x_192 x_193 1 H locs h hP hD hS ls (lv_sub hl [0, 1, 2, 3] rfl)
        replace h := h.2 e33_18
        by_cases e33_19 : (x_1 &&& 63) = 19
        · skip
          have h := h.1 e33_19
          refine lv_tableIn (off := 874) (tgt := 907) G.1 G.2.1 d_Law_33 (by rw [e33_19]; decide) (by rw [e33_19]; decide) (by rw [e33_19]; rfl) (by decide) ?_
          refine lv_aload_n G.1 G.2.1 d_Law_907 rfl (lv_at hl 1 rfl) ?_
          refine lv_aload_n G.1 G.2.1 d_Law_908 rfl (lv_at hl 0 rfl) ?_
          refine lv_iload_n G.1 G.2.1 d_Law_909 rfl (lv_at hl 3 rfl) ?_
          refine lv_iconst (v := 1) G.1 G.2.1 d_Law_910 (by decide) ?_
          refine lv_iadd G.1 G.2.1 d_Law_911 ?_
          refine usld G hX hbl hbA hS h d_Law_912 (fun x_204 h => ?_)
          refine lv_aload_n G.1 G.2.1 d_Law_913 rfl (lv_at hl 0 rfl) ?_
          refine lv_iload_n G.1 G.2.1 d_Law_914 rfl (lv_at hl 3 rfl) ?_
          refine lv_iconst (v := 2) G.1 G.2.1 d_Law_915 (by decide) ?_
          refine lv_iadd G.1 G.2.1 d_Law_916 ?_
          refine usld G hX hbl hbA hS h d_Law_917 (fun x_205 h => ?_)
          refine W.eq (g2 := F0 m 918 ls [.int x_205, .int x_204, .ref (ad 0)]) rfl ?_
          refine lv_aload_n G.1 G.2.1 d_Law_918 rfl (lv_at hl 0 rfl) ?_
          refine lv_iload_n G.1 G.2.1 d_Law_919 rfl (lv_at hl 3 rfl) ?_
          refine lv_iconst (v := 3) G.1 G.2.1 d_Law_920 (by decide) ?_
          refine lv_iadd G.1 G.2.1 d_Law_921 ?_
          refine usld G hX hbl hbA hS h d_Law_922 (fun x_206 h => ?_)
          refine ucVi (As := [.int x_204, .int x_205, .int x_206]) (rest := []) G hP hD hS (cu_Cw_fixed l D g ad y_h18 _ s_h18 0 x_204 x_205 x_206 H.size h_a0 h) w9_Cw_fixed q2124 ⟨Nat.le_of_ble_eq_true rfl, Nat.le_of_ble_eq_true rfl⟩ rfl rfl h_a0 (q := (RCw, TCw, 20)) rfl rfl hl.1 rfl (Nat.le_of_ble_eq_true rfl) rfl hd d_Law_923 (fun r_207 s_208 H locs h hP hD hS => ?_)
          refine lv_pop G.1 G.2.1 d_Law_926 rfl ?_
          refine lv_aload_n G.1 G.2.1 d_Law_927 rfl (lv_at hl 2 rfl) ?_
          refine lv_aload_n G.1 G.2.1 d_Law_928 rfl (lv_at hl 0 rfl) ?_
          refine lv_iload_n G.1 G.2.1 d_Law_929 rfl (lv_at hl 3 rfl) ?_
          refine lv_iconst (v := 1) G.1 G.2.1 d_Law_930 (by decide) ?_
          refine lv_iadd G.1 G.2.1 d_Law_931 ?_
          refine W.eq (g2 := F0 m 932 ls [.int (x3h18 + 1), .ref bS, .ref (ad 76)]) rfl ?_
          refine usld G hX hbl hbA hS h d_Law_932 (fun x_209 h => ?_)
          refine lv_aload_n G.1 G.2.1 d_Law_933 rfl (lv_at hl 0 rfl) ?_
          refine lv_iload_n G.1 G.2.1 d_Law_934 rfl (lv_at hl 3 rfl) ?_
          refine lv_iconst (v := 2) G.1 G.2.1 d_Law_935 (by decide) ?_
          refine lv_iadd G.1 G.2.1 d_Law_936 ?_
          refine usld G hX hbl hbA hS h d_Law_937 (fun x_210 h => ?_)
          refine lv_aload_n G.1 G.2.1 d_Law_938 rfl (lv_at hl 0 rfl) ?_
          refine lv_iload_n G.1 G.2.1 d_Law_939 rfl (lv_at hl 3 rfl) ?_
          refine lv_iconst (v := 3) G.1 G.2.1 d_Law_940 (by decide) ?_
          refine lv_iadd G.1 G.2.1 d_Law_941 ?_
          refine usld G hX hbl hbA hS h d_Law_942 (fun x_211 h => ?_)
          refine ucVi (As := [.int x_209, .int x_210, .int x_211]) (rest := []) G hP hD hS (cu_Mo_fixed l D g ad y_h18 _ s_208 76 x_209 x_210 x_211 H.size h_a76 h) w9_Mo_fixed q4030 ⟨Nat.le_of_ble_eq_true rfl, Nat.le_of_ble_eq_true rfl⟩ rfl rfl h_a76 (q := (RMo, TMo, 131)) rfl rfl hl.1 rfl (Nat.le_of_ble_eq_true rfl) rfl hd d_Law_943 (fun r_212 s_213 H locs h hP hD hS => ?_)
          refine W.eq (g2 := F0 m 946 ls [.int r_212]) rfl ?_
          refine lv_pop G.1 G.2.1 d_Law_946 rfl ?_
          refine lv_goto (tgt := 1768) G.1 G.2.1 d_Law_947 (by decide) ?_
          exact J_1768 y_h18 s_213 d_h18 e_h18 x3h18 H locs h hP hD hS ls (lv_sub hl [0, 1, 2, 3] rfl)
        replace h := h.2 e33_19
        by_cases e33_20 : (x_1 &&& 63) = 20
        · skip
          have h := h.1 e33_20
          refine lv_tableIn (off := 917) (tgt := 950) G.1 G.2.1 d_Law_33 (by rw [e33_20]; decide) (by rw [e33_20]; decide) (by rw [e33_20]; rfl) (by decide) ?_
          refine lv_aload_n G.1 G.2.1 d_Law_950 rfl (lv_at hl 1 rfl) ?_
          refine lv_aload_n G.1 G.2.1 d_Law_951 rfl (lv_at hl 0 rfl) ?_
          refine lv_iload_n G.1 G.2.1 d_Law_952 rfl (lv_at hl 3 rfl) ?_
          refine lv_iconst (v := 1) G.1 G.2.1 d_Law_953 (by decide) ?_
          refine lv_iadd G.1 G.2.1 d_Law_954 ?_
          refine usld G hX hbl hbA hS h d_Law_955 (fun x_214 h => ?_)
          refine lv_aload_n G.1 G.2.1 d_Law_956 rfl (lv_at hl 0 rfl) ?_
          refine lv_iload_n G.1 G.2.1 d_Law_957 rfl (lv_at hl 3 rfl) ?_
          refine lv_iconst (v := 2) G.1 G.2.1 d_Law_958 (by decide) ?_
          refine lv_iadd G.1 G.2.1 d_Law_959 ?_
          refine usld G hX hbl hbA hS h d_Law_960 (fun x_215 h => ?_)
          refine W.eq (g2 := F0 m 961 ls [.int x_215, .int x_214, .ref (ad 0)]) rfl ?_
          refine lv_aload_n G.1 G.2.1 d_Law_961 rfl (lv_at hl 0 rfl) ?_
          refine lv_iload_n G.1 G.2.1 d_Law_962 rfl (lv_at hl 3 rfl) ?_
          refine lv_iconst (v := 3) G.1 G.2.1 d_Law_963 (by decide) ?_
          refine lv_iadd G.1 G.2.1 d_Law_964 ?_
          refine usld G hX hbl hbA hS h d_Law_965 (fun x_216 h => ?_)
          refine ucVi (As := [.int x_214, .int x_215, .int x_216]) (rest := []) G hP hD hS (cu_Cw_object l D g ad y_h18 _ s_h18 0 x_214 x_215 x_216 H.size h_a0 h) w9_Cw_object q2128 ⟨Nat.le_of_ble_eq_true rfl, Nat.le_of_ble_eq_true rfl⟩ rfl rfl h_a0 (q := (RCw, TCw, 20)) rfl rfl hl.1 rfl (Nat.le_of_ble_eq_true rfl) rfl hd d_Law_966 (fun r_217 s_218 H locs h hP hD hS => ?_)
          refine lv_pop G.1 G.2.1 d_Law_969 rfl ?_
          refine lv_aload_n G.1 G.2.1 d_Law_970 rfl (lv_at hl 2 rfl) ?_
          refine lv_aload_n G.1 G.2.1 d_Law_971 rfl (lv_at hl 0 rfl) ?_
          refine lv_iload_n G.1 G.2.1 d_Law_972 rfl (lv_at hl 3 rfl) ?_
          refine lv_iconst (v := 1) G.1 G.2.1 d_Law_973 (by decide) ?_
          refine lv_iadd G.1 G.2.1 d_Law_974 ?_
          refine W.eq (g2 := F0 m 975 ls [.int (x3h18 + 1), .ref bS, .ref (ad 76)]) rfl ?_
          refine usld G hX hbl hbA hS h d_Law_975 (fun x_219 h => ?_)
          refine lv_aload_n G.1 G.2.1 d_Law_976 rfl (lv_at hl 0 rfl) ?_
          refine lv_iload_n G.1 G.2.1 d_Law_977 rfl (lv_at hl 3 rfl) ?_
          refine lv_iconst (v := 2) G.1 G.2.1 d_Law_978 (by decide) ?_
          refine lv_iadd G.1 G.2.1 d_Law_979 ?_
          refine usld G hX hbl hbA hS h d_Law_980 (fun x_220 h => ?_)
          refine lv_aload_n G.1 G.2.1 d_Law_981 rfl (lv_at hl 0 rfl) ?_
          refine lv_iload_n G.1 G.2.1 d_Law_982 rfl (lv_at hl 3 rfl) ?_
          refine lv_iconst (v := 3) G.1 G.2.1 d_Law_983 (by decide) ?_
          refine lv_iadd G.1 G.2.1 d_Law_984 ?_
          refine usld G hX hbl hbA hS h d_Law_985 (fun x_221 h => ?_)
          refine ucVi (As := [.int x_219, .int x_220, .int x_221]) (rest := []) G hP hD hS (cu_Mo_object l D g ad y_h18 _ s_218 76 x_219 x_220 x_221 H.size h_a76 h) w9_Mo_object q4034 ⟨Nat.le_of_ble_eq_true rfl, Nat.le_of_ble_eq_true rfl⟩ rfl rfl h_a76 (q := (RMo, TMo, 131)) rfl rfl hl.1 rfl (Nat.le_of_ble_eq_true rfl) rfl hd d_Law_986 (fun r_222 s_223 H locs h hP hD hS => ?_)
          refine W.eq (g2 := F0 m 989 ls [.int r_222]) rfl ?_
          refine lv_pop G.1 G.2.1 d_Law_989 rfl ?_
          refine lv_goto (tgt := 1768) G.1 G.2.1 d_Law_990 (by decide) ?_
          exact J_1768 y_h18 s_223 d_h18 e_h18 x3h18 H locs h hP hD hS ls (lv_sub hl [0, 1, 2, 3] rfl)
        replace h := h.2 e33_20
        by_cases e33_21 : (x_1 &&& 63) = 21
        · skip
          have h := h.1 e33_21
          refine lv_tableIn (off := 960) (tgt := 993) G.1 G.2.1 d_Law_33 (by rw [e33_21]; decide) (by rw [e33_21]; decide) (by rw [e33_21]; rfl) (by decide) ?_
          refine lv_aload_n G.1 G.2.1 d_Law_993 rfl (lv_at hl 1 rfl) ?_
          refine lv_aload_n G.1 G.2.1 d_Law_994 rfl (lv_at hl 0 rfl) ?_
          refine lv_iload_n G.1 G.2.1 d_Law_995 rfl (lv_at hl 3 rfl) ?_
          refine lv_iconst (v := 1) G.1 G.2.1 d_Law_996 (by decide) ?_
          refine lv_iadd G.1 G.2.1 d_Law_997 ?_
          refine usld G hX hbl hbA hS h d_Law_998 (fun x_224 h => ?_)
          refine lv_aload_n G.1 G.2.1 d_Law_999 rfl (lv_at hl 0 rfl) ?_
          refine lv_iload_n G.1 G.2.1 d_Law_1000 rfl (lv_at hl 3 rfl) ?_
          refine lv_iconst (v := 2) G.1 G.2.1 d_Law_1001 (by decide) ?_
          refine lv_iadd G.1 G.2.1 d_Law_1002 ?_
          refine usld G hX hbl hbA hS h d_Law_1003 (fun x_225 h => ?_)
          refine W.eq (g2 := F0 m 1004 ls [.int x_225, .int x_224, .ref (ad 0)]) rfl ?_
          obtain ⟨mc_231, ms_232, hr_233, h⟩ := h
          refine utVi (As := [.int x_224, .int x_225]) (rest := []) G hP hD hS (ca_Cw_print l D g F sl hF ad mc_231 ms_232 y_h18 _ s_h18 0 x_224 x_225 H.size (us H) h_a0 h) w9_Cw_print q2142 ⟨Nat.le_of_ble_eq_true rfl, Nat.le_of_ble_eq_true rfl⟩ rfl rfl h_a0 (q := (RCw, TCw, 20)) rfl rfl hl.1 rfl (Nat.le_of_ble_eq_true rfl) rfl hr_233 d_Law_1004 (fun r_226 y_228 s_227 d_229 e_230 H locs h hP hD hS => ?_)
          obtain ⟨hd, h⟩ := h
          refine lv_pop G.1 G.2.1 d_Law_1007 rfl ?_
          refine lv_aload_n G.1 G.2.1 d_Law_1008 rfl (lv_at hl 2 rfl) ?_
          refine lv_aload_n G.1 G.2.1 d_Law_1009 rfl (lv_at hl 0 rfl) ?_
          refine lv_iload_n G.1 G.2.1 d_Law_1010 rfl (lv_at hl 3 rfl) ?_
          refine lv_iconst (v := 1) G.1 G.2.1 d_Law_1011 (by decide) ?_
          refine lv_iadd G.1 G.2.1 d_Law_1012 ?_
          refine usld G hX hbl hbA hS h d_Law_1013 (fun x_234 h => ?_)
          refine lv_aload_n G.1 G.2.1 d_Law_1014 rfl (lv_at hl 0 rfl) ?_
          refine lv_iload_n G.1 G.2.1 d_Law_1015 rfl (lv_at hl 3 rfl) ?_
          refine lv_iconst (v := 2) G.1 G.2.1 d_Law_1016 (by decide) ?_
          refine lv_iadd G.1 G.2.1 d_Law_1017 ?_
          refine W.eq (g2 := F0 m 1018 ls [.int (x3h18 + 2), .ref bS, .int x_234, .ref (ad 76)]) rfl ?_
          refine usld G hX hbl hbA hS h d_Law_1018 (fun x_235 h => ?_)
          obtain ⟨mc_241, ms_242, hr_243, h⟩ := h
          refine utVi (As := [.int x_234, .int x_235]) (rest := []) G hP hD hS (ca_Mo_print l D g F sl hF ad mc_241 ms_242 y_228 _ s_227 76 x_234 x_235 H.size (us H) h_a76 h) w9_Mo_print q4042 ⟨Nat.le_of_ble_eq_true rfl, Nat.le_of_ble_eq_true rfl⟩ rfl rfl h_a76 (q := (RMo, TMo, 131)) rfl rfl hl.1 rfl (Nat.le_of_ble_eq_true rfl) rfl hr_243 d_Law_1019 (fun r_236 y_238 s_237 d_239 e_240 H locs h hP hD hS => ?_)
          obtain ⟨hd, h⟩ := h
          refine lv_pop G.1 G.2.1 d_Law_1022 rfl ?_
          refine lv_goto (tgt := 1768) G.1 G.2.1 d_Law_1023 (by decide) ?_
          exact J_1768 y_238 s_237 (d_h18 + d_229 + d_239) (e_h18 + e_230 + e_240) x3h18 H locs h hP hD hS ls (lv_sub hl [0, 1, 2, 3] rfl)
        replace h := h.2 e33_21
        by_cases e33_22 : (x_1 &&& 63) = 22
        · skip
          have h := h.1 e33_22
          refine lv_tableIn (off := 993) (tgt := 1026) G.1 G.2.1 d_Law_33 (by rw [e33_22]; decide) (by rw [e33_22]; decide) (by rw [e33_22]; rfl) (by decide) ?_
          refine lv_aload_n G.1 G.2.1 d_Law_1026 rfl (lv_at hl 1 rfl) ?_
          refine lv_aload_n G.1 G.2.1 d_Law_1027 rfl (lv_at hl 0 rfl) ?_
          refine lv_iload_n G.1 G.2.1 d_Law_1028 rfl (lv_at hl 3 rfl) ?_
          refine lv_iconst (v := 1) G.1 G.2.1 d_Law_1029 (by decide) ?_
          refine lv_iadd G.1 G.2.1 d_Law_1030 ?_
          refine usld G hX hbl hbA hS h d_Law_1031 (fun x_244 h => ?_)
          refine ucVi (As := [.int x_244]) (rest := []) G hP hD hS (cu_Cw_written l D g ad y_h18 _ s_h18 0 x_244 H.size h_a0 h) w9_Cw_written q2259 ⟨Nat.le_of_ble_eq_true rfl, Nat.le_of_ble_eq_true rfl⟩ rfl rfl h_a0 (q := (RCw, TCw, 20)) rfl rfl hl.1 rfl (Nat.le_of_ble_eq_true rfl) rfl hd d_Law_1032 (fun r_245 s_246 H locs h hP hD hS => ?_)
          refine lv_pop G.1 G.2.1 d_Law_1035 rfl ?_
          refine lv_aload_n G.1 G.2.1 d_Law_1036 rfl (lv_at hl 2 rfl) ?_
          refine lv_aload_n G.1 G.2.1 d_Law_1037 rfl (lv_at hl 0 rfl) ?_
          refine lv_iload_n G.1 G.2.1 d_Law_1038 rfl (lv_at hl 3 rfl) ?_
          refine W.eq (g2 := F0 m 1039 ls [.int x3h18, .ref bS, .ref (ad 76)]) rfl ?_
          refine lv_iconst (v := 1) G.1 G.2.1 d_Law_1039 (by decide) ?_
          refine lv_iadd G.1 G.2.1 d_Law_1040 ?_
          refine usld G hX hbl hbA hS h d_Law_1041 (fun x_247 h => ?_)
          refine ucVi (As := [.int x_247]) (rest := []) G hP hD hS (cu_Mo_written l D g ad y_h18 _ s_246 76 x_247 H.size h_a76 h) w9_Mo_written q4113 ⟨Nat.le_of_ble_eq_true rfl, Nat.le_of_ble_eq_true rfl⟩ rfl rfl h_a76 (q := (RMo, TMo, 131)) rfl rfl hl.1 rfl (Nat.le_of_ble_eq_true rfl) rfl hd d_Law_1042 (fun r_248 s_249 H locs h hP hD hS => ?_)
          refine lv_pop G.1 G.2.1 d_Law_1045 rfl ?_
          refine lv_goto (tgt := 1768) G.1 G.2.1 d_Law_1046 (by decide) ?_
          exact J_1768 y_h18 s_249 d_h18 e_h18 x3h18 H locs h hP hD hS ls (lv_sub hl [0, 1, 2, 3] rfl)
        replace h := h.2 e33_22
        by_cases e33_23 : (x_1 &&& 63) = 23
        · skip
          have h := h.1 e33_23
          refine lv_tableIn (off := 1016) (tgt := 1049) G.1 G.2.1 d_Law_33 (by rw [e33_23]; decide) (by rw [e33_23]; decide) (by rw [e33_23]; rfl) (by decide) ?_
          refine lv_aload_n G.1 G.2.1 d_Law_1049 rfl (lv_at hl 1 rfl) ?_
          refine lv_aload_n G.1 G.2.1 d_Law_1050 rfl (lv_at hl 0 rfl) ?_
          refine lv_iload_n G.1 G.2.1 d_Law_1051 rfl (lv_at hl 3 rfl) ?_
          refine lv_iconst (v := 1) G.1 G.2.1 d_Law_1052 (by decide) ?_
          refine lv_iadd G.1 G.2.1 d_Law_1053 ?_
          refine usld G hX hbl hbA hS h d_Law_1054 (fun x_250 h => ?_)
          refine lv_aload_n G.1 G.2.1 d_Law_1055 rfl (lv_at hl 0 rfl) ?_
          refine lv_iload_n G.1 G.2.1 d_Law_1056 rfl (lv_at hl 3 rfl) ?_
          refine lv_iconst (v := 2) G.1 G.2.1 d_Law_1057 (by decide) ?_
          refine lv_iadd G.1 G.2.1 d_Law_1058 ?_
          refine usld G hX hbl hbA hS h d_Law_1059 (fun x_251 h => ?_)
          refine W.eq (g2 := F0 m 1060 ls [.int x_251, .int x_250, .ref (ad 0)]) rfl ?_
          refine lv_aload_n G.1 G.2.1 d_Law_1060 rfl (lv_at hl 0 rfl) ?_
          refine lv_iload_n G.1 G.2.1 d_Law_1061 rfl (lv_at hl 3 rfl) ?_
          refine lv_iconst (v := 3) G.1 G.2.1 d_Law_1062 (by decide) ?_
          refine lv_iadd G.1 G.2.1 d_Law_1063 ?_
          refine usld G hX hbl hbA hS h d_Law_1064 (fun x_252 h => ?_)
          refine lv_aload_n G.1 G.2.1 d_Law_1065 rfl (lv_at hl 0 rfl) ?_
          refine lv_iload_n G.1 G.2.1 d_Law_1066 rfl (lv_at hl 3 rfl) ?_
          refine lv_iconst (v := 4) G.1 G.2.1 d_Law_1067 (by decide) ?_
          refine lv_iadd G.1 G.2.1 d_Law_1068 ?_
          refine usld G hX hbl hbA hS h d_Law_1069 (fun x_253 h => ?_)
          have J_1078 : ∀ (y_j1078 : Ly) (s_j1078 : St) (d_j1078 e_j1078 : Nat) (x3j1078 : Int32) (z1j1078 : Int32) (z2j1078 : Int32) (z3j1078 : Int32) (z4j1078 : Int32) (H : Heap) (locs : List Loc), wja_Law_1078 mc ms lenS xS Post K_18 y_j1078 s_j1078 d_j1078 e_j1078 x3j1078 z1j1078 z2j1078 z3j1078 z4j1078 → va_P D CL (ws g ad y_j1078 s_j1078) H → va_D A (ws g ad y_j1078 s_j1078) → va_S A s.heap H locs → ∀ ls, lv_has ls 4 [(0, .ref bS), (1, .ref (ad 0)), (2, .ref (ad 76)), (3, .int x3j1078)] → W p l e (ra_Law mc ms) s m args below meth c H locs d_j1078 e_j1078 Q (F0 m 1078 ls [.int z4j1078, .int z3j1078, .int z2j1078, .int z1j1078, .ref (ad 0)]) := by
            intro y_j1078 s_j1078 d_j1078 e_j1078 x3j1078 z1j1078 z2j1078 z3j1078 z4j1078 H locs h hP hD hS ls hl
            unfold wja_Law_1078 at h
            obtain ⟨hd, h⟩ := h
            refine usVi (As := [.int z1j1078, .int z2j1078, .int z3j1078, .int z4j1078]) (rest := []) G hP hD hS (cu_Cw_kinds l D g F sl hF ad y_j1078 _ s_j1078 0 z1j1078 z2j1078 z3j1078 z4j1078 H.size h_a0 h) w9_Cw_kinds q2263 ⟨Nat.le_of_ble_eq_true rfl, Nat.le_of_ble_eq_true rfl⟩ rfl rfl h_a0 (q := (RCw, TCw, 20)) rfl rfl hl.1 rfl (Nat.le_of_ble_eq_true rfl) rfl hd d_Law_1078 (fun r_254 s_255 H locs h hP hD hS => ?_)
            refine lv_pop G.1 G.2.1 d_Law_1081 rfl ?_
            refine lv_aload_n G.1 G.2.1 d_Law_1082 rfl (lv_at hl 2 rfl) ?_
            refine lv_aload_n G.1 G.2.1 d_Law_1083 rfl (lv_at hl 0 rfl) ?_
            refine lv_iload_n G.1 G.2.1 d_Law_1084 rfl (lv_at hl 3 rfl) ?_
            refine lv_iconst (v := 1) G.1 G.2.1 d_Law_1085 (by decide) ?_
            refine lv_iadd G.1 G.2.1 d_Law_1086 ?_
            refine usld G hX hbl hbA hS h d_Law_1087 (fun x_256 h => ?_)
            refine lv_aload_n G.1 G.2.1 d_Law_1088 rfl (lv_at hl 0 rfl) ?_
            refine lv_iload_n G.1 G.2.1 d_Law_1089 rfl (lv_at hl 3 rfl) ?_
            refine lv_iconst (v := 2) G.1 G.2.1 d_Law_1090 (by decide) ?_
            refine W.eq (g2 := F0 m 1091 ls [.int 2, .int x3j1078, .ref bS, .int x_256, .ref (ad 76)]) rfl ?_
            refine lv_iadd G.1 G.2.1 d_Law_1091 ?_
            refine usld G hX hbl hbA hS h d_Law_1092 (fun x_257 h => ?_)
            refine lv_aload_n G.1 G.2.1 d_Law_1093 rfl (lv_at hl 0 rfl) ?_
            refine lv_iload_n G.1 G.2.1 d_Law_1094 rfl (lv_at hl 3 rfl) ?_
            refine lv_iconst (v := 3) G.1 G.2.1 d_Law_1095 (by decide) ?_
            refine lv_iadd G.1 G.2.1 d_Law_1096 ?_
            refine usld G hX hbl hbA hS h d_Law_1097 (fun x_258 h => ?_)
            refine lv_aload_n G.1 G.2.1 d_Law_1098 rfl (lv_at hl 0 rfl) ?_
            refine lv_iload_n G.1 G.2.1 d_Law_1099 rfl (lv_at hl 3 rfl) ?_
            refine lv_iconst (v := 4) G.1 G.2.1 d_Law_1100 (by decide) ?_
            refine lv_iadd G.1 G.2.1 d_Law_1101 ?_
            refine usld G hX hbl hbA hS h d_Law_1102 (fun x_259 h => ?_)
            have J_1111 : ∀ (y_j1111 : Ly) (s_j1111 : St) (d_j1111 e_j1111 : Nat) (x3j1111 : Int32) (z1j1111 : Int32) (z2j1111 : Int32) (z3j1111 : Int32) (z4j1111 : Int32) (H : Heap) (locs : List Loc), wja_Law_1111 mc ms lenS xS Post K_18 y_j1111 s_j1111 d_j1111 e_j1111 x3j1111 z1j1111 z2j1111 z3j1111 z4j1111 → va_P D CL (ws g ad y_j1111 s_j1111) H → va_D A (ws g ad y_j1111 s_j1111) → va_S A s.heap H locs → ∀ ls, lv_has ls 4 [(0, .ref bS), (1, .ref (ad 0)), (2, .ref (ad 76)), (3, .int x3j1111)] → W p l e (ra_Law mc ms) s m args below meth c H locs d_j1111 e_j1111 Q (F0 m 1111 ls [.int z4j1111, .int z3j1111, .int z2j1111, .int z1j1111, .ref (ad 76)]) := by
              intro y_j1111 s_j1111 d_j1111 e_j1111 x3j1111 z1j1111 z2j1111 z3j1111 z4j1111 H locs h hP hD hS ls hl
              unfold wja_Law_1111 at h
              obtain ⟨hd, h⟩ := h
              refine ucVi (As := [.int z1j1111, .int z2j1111, .int z3j1111, .int z4j1111]) (rest := []) G hP hD hS (cu_Mo_kinds l D g ad y_j1111 _ s_j1111 76 z1j1111 z2j1111 z3j1111 z4j1111 H.size h_a76 h) w9_Mo_kinds q4117 ⟨Nat.le_of_ble_eq_true rfl, Nat.le_of_ble_eq_true rfl⟩ rfl rfl h_a76 (q := (RMo, TMo, 131)) rfl rfl hl.1 rfl (Nat.le_of_ble_eq_true rfl) rfl hd d_Law_1111 (fun r_260 s_261 H locs h hP hD hS => ?_)
              refine lv_pop G.1 G.2.1 d_Law_1114 rfl ?_
              refine lv_goto (tgt := 1768) G.1 G.2.1 d_Law_1115 (by decide) ?_
              exact J_1768 y_j1111 s_261 d_j1111 e_j1111 x3j1111 H locs h hP hD hS ls (lv_sub hl [0, 1, 2, 3] rfl)
            refine W.eq (g2 := F0 m 1103 ls [.int x_259, .int x_258, .int x_257, .int x_256, .ref (ad 76)]) rfl ?_
            refine lv_if_eq (tgt := 1110) G.1 G.2.1 d_Law_1103 (by decide) (fun c1103 => ?_) (fun c1103 => ?_)
            · skip
              have h := h.1 c1103
              refine lv_iconst (v := 0) G.1 G.2.1 d_Law_1110 (by decide) ?_
              exact J_1111 y_j1078 s_255 d_j1078 e_j1078 x3j1078 x_256 x_257 x_258 0 H locs h hP hD hS ls (lv_sub hl [0, 1, 2, 3] rfl)
            · skip
              have h := h.2 c1103
              refine lv_iconst (v := 1) G.1 G.2.1 d_Law_1106 (by decide) ?_
              refine lv_goto (tgt := 1111) G.1 G.2.1 d_Law_1107 (by decide) ?_
              exact J_1111 y_j1078 s_255 d_j1078 e_j1078 x3j1078 x_256 x_257 x_258 1 H locs h hP hD hS ls (lv_sub hl [0, 1, 2, 3] rfl)
          refine lv_if_eq (tgt := 1077) G.1 G.2.1 d_Law_1070 (by decide) (fun c1070 => ?_) (fun c1070 => ?_)
          · skip
            have h := h.1 c1070
            refine lv_iconst (v := 0) G.1 G.2.1 d_Law_1077 (by decide) ?_
            exact J_1078 y_h18 s_h18 d_h18 e_h18 x3h18 x_250 x_251 x_252 0 H locs h hP hD hS ls (lv_sub hl [0, 1, 2, 3] rfl)
          · skip
            have h := h.2 c1070
            refine lv_iconst (v := 1) G.1 G.2.1 d_Law_1073 (by decide) ?_
            refine W.eq (g2 := F0 m 1074 ls [.int 1, .int x_252, .int x_251, .int x_250, .ref (ad 0)]) rfl ?_
            refine lv_goto (tgt := 1078) G.1 G.2.1 d_Law_1074 (by decide) ?_
            exact J_1078 y_h18 s_h18 d_h18 e_h18 x3h18 x_250 x_251 x_252 1 H locs h hP hD hS ls (lv_sub hl [0, 1, 2, 3] rfl)
        replace h := h.2 e33_23
        by_cases e33_24 : (x_1 &&& 63) = 24
        · skip
          have h := h.1 e33_24
          refine lv_tableIn (off := 1085) (tgt := 1118) G.1 G.2.1 d_Law_33 (by rw [e33_24]; decide) (by rw [e33_24]; decide) (by rw [e33_24]; rfl) (by decide) ?_
          refine lv_aload_n G.1 G.2.1 d_Law_1118 rfl (lv_at hl 1 rfl) ?_
          refine lv_aload_n G.1 G.2.1 d_Law_1119 rfl (lv_at hl 0 rfl) ?_
          refine lv_iload_n G.1 G.2.1 d_Law_1120 rfl (lv_at hl 3 rfl) ?_
          refine lv_iconst (v := 1) G.1 G.2.1 d_Law_1121 (by decide) ?_
          refine lv_iadd G.1 G.2.1 d_Law_1122 ?_
          refine usld G hX hbl hbA hS h d_Law_1123 (fun x_262 h => ?_)
          refine lv_aload_n G.1 G.2.1 d_Law_1124 rfl (lv_at hl 0 rfl) ?_
          refine lv_iload_n G.1 G.2.1 d_Law_1125 rfl (lv_at hl 3 rfl) ?_
          refine lv_iconst (v := 2) G.1 G.2.1 d_Law_1126 (by decide) ?_
          refine lv_iadd G.1 G.2.1 d_Law_1127 ?_
          refine usld G hX hbl hbA hS h d_Law_1128 (fun x_263 h => ?_)
          refine W.eq (g2 := F0 m 1129 ls [.int x_263, .int x_262, .ref (ad 0)]) rfl ?_
          refine ucVi (As := [.int x_262, .int x_263]) (rest := []) G hP hD hS (cu_Cw_kind l D g ad y_h18 _ s_h18 0 x_262 x_263 H.size h_a0 h) w9_Cw_kind q2302 ⟨Nat.le_of_ble_eq_true rfl, Nat.le_of_ble_eq_true rfl⟩ rfl rfl h_a0 (q := (RCw, TCw, 20)) rfl rfl hl.1 rfl (Nat.le_of_ble_eq_true rfl) rfl hd d_Law_1129 (fun r_264 s_265 H locs h hP hD hS => ?_)
          refine lv_pop G.1 G.2.1 d_Law_1132 rfl ?_
          refine lv_aload_n G.1 G.2.1 d_Law_1133 rfl (lv_at hl 2 rfl) ?_
          refine lv_aload_n G.1 G.2.1 d_Law_1134 rfl (lv_at hl 0 rfl) ?_
          refine lv_iload_n G.1 G.2.1 d_Law_1135 rfl (lv_at hl 3 rfl) ?_
          refine lv_iconst (v := 1) G.1 G.2.1 d_Law_1136 (by decide) ?_
          refine lv_iadd G.1 G.2.1 d_Law_1137 ?_
          refine usld G hX hbl hbA hS h d_Law_1138 (fun x_266 h => ?_)
          refine lv_aload_n G.1 G.2.1 d_Law_1139 rfl (lv_at hl 0 rfl) ?_
          refine lv_iload_n G.1 G.2.1 d_Law_1140 rfl (lv_at hl 3 rfl) ?_
          refine lv_iconst (v := 2) G.1 G.2.1 d_Law_1141 (by decide) ?_
          refine lv_iadd G.1 G.2.1 d_Law_1142 ?_
          refine W.eq (g2 := F0 m 1143 ls [.int (x3h18 + 2), .ref bS, .int x_266, .ref (ad 76)]) rfl ?_
          refine usld G hX hbl hbA hS h d_Law_1143 (fun x_267 h => ?_)
          refine ucVi (As := [.int x_266, .int x_267]) (rest := []) G hP hD hS (cu_Mo_kind l D g ad y_h18 _ s_265 76 x_266 x_267 H.size h_a76 h) w9_Mo_kind q4149 ⟨Nat.le_of_ble_eq_true rfl, Nat.le_of_ble_eq_true rfl⟩ rfl rfl h_a76 (q := (RMo, TMo, 131)) rfl rfl hl.1 rfl (Nat.le_of_ble_eq_true rfl) rfl hd d_Law_1144 (fun r_268 s_269 H locs h hP hD hS => ?_)
          refine lv_pop G.1 G.2.1 d_Law_1147 rfl ?_
          refine lv_goto (tgt := 1768) G.1 G.2.1 d_Law_1148 (by decide) ?_
          exact J_1768 y_h18 s_269 d_h18 e_h18 x3h18 H locs h hP hD hS ls (lv_sub hl [0, 1, 2, 3] rfl)
        replace h := h.2 e33_24
        by_cases e33_25 : (x_1 &&& 63) = 25
        · skip
          have h := h.1 e33_25
          refine lv_tableIn (off := 1118) (tgt := 1151) G.1 G.2.1 d_Law_33 (by rw [e33_25]; decide) (by rw [e33_25]; decide) (by rw [e33_25]; rfl) (by decide) ?_
          refine lv_aload_n G.1 G.2.1 d_Law_1151 rfl (lv_at hl 1 rfl) ?_
          refine lv_aload_n G.1 G.2.1 d_Law_1152 rfl (lv_at hl 0 rfl) ?_
          refine lv_iload_n G.1 G.2.1 d_Law_1153 rfl (lv_at hl 3 rfl) ?_
          refine lv_iconst (v := 1) G.1 G.2.1 d_Law_1154 (by decide) ?_
          refine lv_iadd G.1 G.2.1 d_Law_1155 ?_
          refine usld G hX hbl hbA hS h d_Law_1156 (fun x_270 h => ?_)
          refine lv_aload_n G.1 G.2.1 d_Law_1157 rfl (lv_at hl 0 rfl) ?_
          refine lv_iload_n G.1 G.2.1 d_Law_1158 rfl (lv_at hl 3 rfl) ?_
          refine lv_iconst (v := 2) G.1 G.2.1 d_Law_1159 (by decide) ?_
          refine lv_iadd G.1 G.2.1 d_Law_1160 ?_
          refine usld G hX hbl hbA hS h d_Law_1161 (fun x_271 h => ?_)
          refine W.eq (g2 := F0 m 1162 ls [.int x_271, .int x_270, .ref (ad 0)]) rfl ?_
          refine lv_aload_n G.1 G.2.1 d_Law_1162 rfl (lv_at hl 0 rfl) ?_
          refine lv_iload_n G.1 G.2.1 d_Law_1163 rfl (lv_at hl 3 rfl) ?_
          refine lv_iconst (v := 3) G.1 G.2.1 d_Law_1164 (by decide) ?_
          refine lv_iadd G.1 G.2.1 d_Law_1165 ?_
          refine usld G hX hbl hbA hS h d_Law_1166 (fun x_272 h => ?_)
          refine lv_aload_n G.1 G.2.1 d_Law_1167 rfl (lv_at hl 0 rfl) ?_
          refine lv_iload_n G.1 G.2.1 d_Law_1168 rfl (lv_at hl 3 rfl) ?_
          refine lv_iconst (v := 4) G.1 G.2.1 d_Law_1169 (by decide) ?_
          refine lv_iadd G.1 G.2.1 d_Law_1170 ?_
          refine usld G hX hbl hbA hS h d_Law_1171 (fun x_273 h => ?_)
          obtain ⟨mc_279, ms_280, hr_281, h⟩ := h
          refine utVi (As := [.int x_270, .int x_271, .int x_272, .int x_273]) (rest := []) G hP hD hS (ca_Cw_foretell l D g F sl hF ad mc_279 ms_280 y_h18 _ s_h18 0 x_270 x_271 x_272 x_273 H.size (us H) h_a0 h) w9_Cw_foretell q2310 ⟨Nat.le_of_ble_eq_true rfl, Nat.le_of_ble_eq_true rfl⟩ rfl rfl h_a0 (q := (RCw, TCw, 20)) rfl rfl hl.1 rfl (Nat.le_of_ble_eq_true rfl) rfl hr_281 d_Law_1172 (fun r_274 y_276 s_275 d_277 e_278 H locs h hP hD hS => ?_)
          obtain ⟨hd, h⟩ := h
          refine lv_pop G.1 G.2.1 d_Law_1175 rfl ?_
          refine W.eq (g2 := F0 m 1176 ls []) rfl ?_
          refine lv_aload_n G.1 G.2.1 d_Law_1176 rfl (lv_at hl 2 rfl) ?_
          refine lv_aload_n G.1 G.2.1 d_Law_1177 rfl (lv_at hl 0 rfl) ?_
          refine lv_iload_n G.1 G.2.1 d_Law_1178 rfl (lv_at hl 3 rfl) ?_
          refine lv_iconst (v := 1) G.1 G.2.1 d_Law_1179 (by decide) ?_
          refine lv_iadd G.1 G.2.1 d_Law_1180 ?_
          refine usld G hX hbl hbA hS h d_Law_1181 (fun x_282 h => ?_)
          refine lv_aload_n G.1 G.2.1 d_Law_1182 rfl (lv_at hl 0 rfl) ?_
          refine lv_iload_n G.1 G.2.1 d_Law_1183 rfl (lv_at hl 3 rfl) ?_
          refine lv_iconst (v := 2) G.1 G.2.1 d_Law_1184 (by decide) ?_
          refine lv_iadd G.1 G.2.1 d_Law_1185 ?_
          refine usld G hX hbl hbA hS h d_Law_1186 (fun x_283 h => ?_)
          refine lv_aload_n G.1 G.2.1 d_Law_1187 rfl (lv_at hl 0 rfl) ?_
          refine W.eq (g2 := F0 m 1188 ls [.ref bS, .int x_283, .int x_282, .ref (ad 76)]) rfl ?_
          refine lv_iload_n G.1 G.2.1 d_Law_1188 rfl (lv_at hl 3 rfl) ?_
          refine lv_iconst (v := 3) G.1 G.2.1 d_Law_1189 (by decide) ?_
          refine lv_iadd G.1 G.2.1 d_Law_1190 ?_
          refine usld G hX hbl hbA hS h d_Law_1191 (fun x_284 h => ?_)
          refine lv_aload_n G.1 G.2.1 d_Law_1192 rfl (lv_at hl 0 rfl) ?_
          refine lv_iload_n G.1 G.2.1 d_Law_1193 rfl (lv_at hl 3 rfl) ?_
          refine lv_iconst (v := 4) G.1 G.2.1 d_Law_1194 (by decide) ?_
          refine lv_iadd G.1 G.2.1 d_Law_1195 ?_
          refine usld G hX hbl hbA hS h d_Law_1196 (fun x_285 h => ?_)
          refine ucVi (As := [.int x_282, .int x_283, .int x_284, .int x_285]) (rest := []) G hP hD hS (cu_Mo_foretell l D g ad y_276 _ s_275 76 x_282 x_283 x_284 x_285 H.size h_a76 h) w9_Mo_foretell q4153 ⟨Nat.le_of_ble_eq_true rfl, Nat.le_of_ble_eq_true rfl⟩ rfl rfl h_a76 (q := (RMo, TMo, 131)) rfl rfl hl.1 rfl (Nat.le_of_ble_eq_true rfl) rfl hd d_Law_1197 (fun r_286 s_287 H locs h hP hD hS => ?_)
          refine lv_pop G.1 G.2.1 d_Law_1200 rfl ?_
          refine lv_goto (tgt := 1768) G.1 G.2.1 d_Law_1201 (by decide) ?_
          exact J_1768 y_276 s_287 (d_h18 + d_277) (e_h18 + e_278) x3h18 H locs h hP hD hS ls (lv_sub hl [0, 1, 2, 3] rfl)
        replace h := h.2 e33_25
        by_cases e33_26 : (x_1 &&& 63) = 26
        · skip
          have h := h.1 e33_26
          refine lv_tableIn (off := 1171) (tgt := 1204) G.1 G.2.1 d_Law_33 (by rw [e33_26]; decide) (by rw [e33_26]; decide) (by rw [e33_26]; rfl) (by decide) ?_
          refine lv_aload_n G.1 G.2.1 d_Law_1204 rfl (lv_at hl 1 rfl) ?_
          refine lv_aload_n G.1 G.2.1 d_Law_1205 rfl (lv_at hl 0 rfl) ?_
          refine lv_iload_n G.1 G.2.1 d_Law_1206 rfl (lv_at hl 3 rfl) ?_
          refine lv_iconst (v := 1) G.1 G.2.1 d_Law_1207 (by decide) ?_
          refine lv_iadd G.1 G.2.1 d_Law_1208 ?_
          refine usld G hX hbl hbA hS h d_Law_1209 (fun x_288 h => ?_)
          refine lv_aload_n G.1 G.2.1 d_Law_1210 rfl (lv_at hl 0 rfl) ?_
          refine lv_iload_n G.1 G.2.1 d_Law_1211 rfl (lv_at hl 3 rfl) ?_
          refine lv_iconst (v := 2) G.1 G.2.1 d_Law_1212 (by decide) ?_
          refine lv_iadd G.1 G.2.1 d_Law_1213 ?_
          refine usld G hX hbl hbA hS h d_Law_1214 (fun x_289 h => ?_)
          refine W.eq (g2 := F0 m 1215 ls [.int x_289, .int x_288, .ref (ad 0)]) rfl ?_
          obtain ⟨mc_295, ms_296, hr_297, h⟩ := h
          refine utVi (As := [.int x_288, .int x_289]) (rest := []) G hP hD hS (ca_Cw_asked l D g F sl hF ad mc_295 ms_296 y_h18 _ s_h18 0 x_288 x_289 H.size (us H) h_a0 h) w9_Cw_asked q2327 ⟨Nat.le_of_ble_eq_true rfl, Nat.le_of_ble_eq_true rfl⟩ rfl rfl h_a0 (q := (RCw, TCw, 20)) rfl rfl hl.1 rfl (Nat.le_of_ble_eq_true rfl) rfl hr_297 d_Law_1215 (fun r_290 y_292 s_291 d_293 e_294 H locs h hP hD hS => ?_)
          obtain ⟨hd, h⟩ := h
          refine lv_pop G.1 G.2.1 d_Law_1218 rfl ?_
          refine lv_aload_n G.1 G.2.1 d_Law_1219 rfl (lv_at hl 2 rfl) ?_
          refine lv_aload_n G.1 G.2.1 d_Law_1220 rfl (lv_at hl 0 rfl) ?_
          refine lv_iload_n G.1 G.2.1 d_Law_1221 rfl (lv_at hl 3 rfl) ?_
          refine lv_iconst (v := 1) G.1 G.2.1 d_Law_1222 (by decide) ?_
          refine lv_iadd G.1 G.2.1 d_Law_1223 ?_
          refine usld G hX hbl hbA hS h d_Law_1224 (fun x_298 h => ?_)
          refine lv_aload_n G.1 G.2.1 d_Law_1225 rfl (lv_at hl 0 rfl) ?_
          refine lv_iload_n G.1 G.2.1 d_Law_1226 rfl (lv_at hl 3 rfl) ?_
          refine lv_iconst (v := 2) G.1 G.2.1 d_Law_1227 (by decide) ?_
          refine lv_iadd G.1 G.2.1 d_Law_1228 ?_
          refine W.eq (g2 := F0 m 1229 ls [.int (x3h18 + 2), .ref bS, .int x_298, .ref (ad 76)]) rfl ?_
          refine usld G hX hbl hbA hS h d_Law_1229 (fun x_299 h => ?_)
          obtain ⟨mc_305, ms_306, hr_307, h⟩ := h
          refine uaVi (As := [.int x_298, .int x_299]) (rest := []) G hP hD hS (ca_Mo_asked l D g ad mc_305 ms_306 y_292 _ s_291 76 x_298 x_299 H.size (us H) h_a76 h) w9_Mo_asked q4161 ⟨Nat.le_of_ble_eq_true rfl, Nat.le_of_ble_eq_true rfl⟩ rfl rfl h_a76 (q := (RMo, TMo, 131)) rfl rfl hl.1 rfl (Nat.le_of_ble_eq_true rfl) rfl hr_307 d_Law_1230 (fun r_300 y_302 s_301 d_303 e_304 H locs h hP hD hS => ?_)
          obtain ⟨hd, h⟩ := h
          refine lv_pop G.1 G.2.1 d_Law_1233 rfl ?_
          refine lv_goto (tgt := 1768) G.1 G.2.1 d_Law_1234 (by decide) ?_
          exact J_1768 y_302 s_301 (d_h18 + d_293 + d_303) (e_h18 + e_294 + e_304) x3h18 H locs h hP hD hS ls (lv_sub hl [0, 1, 2, 3] rfl)
        replace h := h.2 e33_26
        by_cases e33_27 : (x_1 &&& 63) = 27
        · skip
          have h := h.1 e33_27
          refine lv_tableIn (off := 1204) (tgt := 1237) G.1 G.2.1 d_Law_33 (by rw [e33_27]; decide) (by rw [e33_27]; decide) (by rw [e33_27]; rfl) (by decide) ?_
          refine lv_aload_n G.1 G.2.1 d_Law_1237 rfl (lv_at hl 1 rfl) ?_
          refine lv_aload_n G.1 G.2.1 d_Law_1238 rfl (lv_at hl 0 rfl) ?_
          refine lv_iload_n G.1 G.2.1 d_Law_1239 rfl (lv_at hl 3 rfl) ?_
          refine lv_iconst (v := 1) G.1 G.2.1 d_Law_1240 (by decide) ?_
          refine lv_iadd G.1 G.2.1 d_Law_1241 ?_
          refine usld G hX hbl hbA hS h d_Law_1242 (fun x_308 h => ?_)
          refine lv_aload_n G.1 G.2.1 d_Law_1243 rfl (lv_at hl 0 rfl) ?_
          refine lv_iload_n G.1 G.2.1 d_Law_1244 rfl (lv_at hl 3 rfl) ?_
          refine lv_iconst (v := 2) G.1 G.2.1 d_Law_1245 (by decide) ?_
          refine lv_iadd G.1 G.2.1 d_Law_1246 ?_
          refine usld G hX hbl hbA hS h d_Law_1247 (fun x_309 h => ?_)
          refine W.eq (g2 := F0 m 1248 ls [.int x_309, .int x_308, .ref (ad 0)]) rfl ?_
          refine lv_aload_n G.1 G.2.1 d_Law_1248 rfl (lv_at hl 0 rfl) ?_
          refine lv_iload_n G.1 G.2.1 d_Law_1249 rfl (lv_at hl 3 rfl) ?_
          refine lv_iconst (v := 3) G.1 G.2.1 d_Law_1250 (by decide) ?_
          refine lv_iadd G.1 G.2.1 d_Law_1251 ?_
          refine usld G hX hbl hbA hS h d_Law_1252 (fun x_310 h => ?_)
          refine ucVi (As := [.int x_308, .int x_309, .int x_310]) (rest := []) G hP hD hS (cu_Cw_trace l D g ad y_h18 _ s_h18 0 x_308 x_309 x_310 H.size h_a0 h) w9_Cw_trace q2341 ⟨Nat.le_of_ble_eq_true rfl, Nat.le_of_ble_eq_true rfl⟩ rfl rfl h_a0 (q := (RCw, TCw, 20)) rfl rfl hl.1 rfl (Nat.le_of_ble_eq_true rfl) rfl hd d_Law_1253 (fun r_311 s_312 H locs h hP hD hS => ?_)
          refine lv_pop G.1 G.2.1 d_Law_1256 rfl ?_
          refine lv_aload_n G.1 G.2.1 d_Law_1257 rfl (lv_at hl 2 rfl) ?_
          refine lv_aload_n G.1 G.2.1 d_Law_1258 rfl (lv_at hl 0 rfl) ?_
          refine lv_iload_n G.1 G.2.1 d_Law_1259 rfl (lv_at hl 3 rfl) ?_
          refine lv_iconst (v := 1) G.1 G.2.1 d_Law_1260 (by decide) ?_
          refine lv_iadd G.1 G.2.1 d_Law_1261 ?_
          refine W.eq (g2 := F0 m 1262 ls [.int (x3h18 + 1), .ref bS, .ref (ad 76)]) rfl ?_
          refine usld G hX hbl hbA hS h d_Law_1262 (fun x_313 h => ?_)
          refine lv_aload_n G.1 G.2.1 d_Law_1263 rfl (lv_at hl 0 rfl) ?_
          refine lv_iload_n G.1 G.2.1 d_Law_1264 rfl (lv_at hl 3 rfl) ?_
          refine lv_iconst (v := 2) G.1 G.2.1 d_Law_1265 (by decide) ?_
          refine lv_iadd G.1 G.2.1 d_Law_1266 ?_
          refine usld G hX hbl hbA hS h d_Law_1267 (fun x_314 h => ?_)
          refine lv_aload_n G.1 G.2.1 d_Law_1268 rfl (lv_at hl 0 rfl) ?_
          refine lv_iload_n G.1 G.2.1 d_Law_1269 rfl (lv_at hl 3 rfl) ?_
          refine lv_iconst (v := 3) G.1 G.2.1 d_Law_1270 (by decide) ?_
          refine lv_iadd G.1 G.2.1 d_Law_1271 ?_
          refine usld G hX hbl hbA hS h d_Law_1272 (fun x_315 h => ?_)
          refine ucVi (As := [.int x_313, .int x_314, .int x_315]) (rest := []) G hP hD hS (cu_Mo_trace l D g ad y_h18 _ s_312 76 x_313 x_314 x_315 H.size h_a76 h) w9_Mo_trace q4204 ⟨Nat.le_of_ble_eq_true rfl, Nat.le_of_ble_eq_true rfl⟩ rfl rfl h_a76 (q := (RMo, TMo, 131)) rfl rfl hl.1 rfl (Nat.le_of_ble_eq_true rfl) rfl hd d_Law_1273 (fun r_316 s_317 H locs h hP hD hS => ?_)
          refine W.eq (g2 := F0 m 1276 ls [.int r_316]) rfl ?_
          refine lv_pop G.1 G.2.1 d_Law_1276 rfl ?_
          refine lv_goto (tgt := 1768) G.1 G.2.1 d_Law_1277 (by decide) ?_
          exact J_1768 y_h18 s_317 d_h18 e_h18 x3h18 H locs h hP hD hS ls (lv_sub hl [0, 1, 2, 3] rfl)
        replace h := h.2 e33_27
        by_cases e33_28 : (x_1 &&& 63) = 28
        · skip
          have h := h.1 e33_28
          refine lv_tableIn (off := 1247) (tgt := 1280) G.1 G.2.1 d_Law_33 (by rw [e33_28]; decide) (by rw [e33_28]; decide) (by rw [e33_28]; rfl) (by decide) ?_
          refine lv_aload_n G.1 G.2.1 d_Law_1280 rfl (lv_at hl 1 rfl) ?_
          refine lv_aload_n G.1 G.2.1 d_Law_1281 rfl (lv_at hl 0 rfl) ?_
          refine lv_iload_n G.1 G.2.1 d_Law_1282 rfl (lv_at hl 3 rfl) ?_
          refine lv_iconst (v := 1) G.1 G.2.1 d_Law_1283 (by decide) ?_
          refine lv_iadd G.1 G.2.1 d_Law_1284 ?_
          refine usld G hX hbl hbA hS h d_Law_1285 (fun x_318 h => ?_)
          refine lv_aload_n G.1 G.2.1 d_Law_1286 rfl (lv_at hl 0 rfl) ?_
          refine lv_iload_n G.1 G.2.1 d_Law_1287 rfl (lv_at hl 3 rfl) ?_
          refine lv_iconst (v := 2) G.1 G.2.1 d_Law_1288 (by decide) ?_
          refine lv_iadd G.1 G.2.1 d_Law_1289 ?_
          refine usld G hX hbl hbA hS h d_Law_1290 (fun x_319 h => ?_)
          refine W.eq (g2 := F0 m 1291 ls [.int x_319, .int x_318, .ref (ad 0)]) rfl ?_
          refine ucVi (As := [.int x_318, .int x_319]) (rest := []) G hP hD hS (cu_Cw_done l D g ad y_h18 _ s_h18 0 x_318 x_319 H.size h_a0 h) w9_Cw_done q2345 ⟨Nat.le_of_ble_eq_true rfl, Nat.le_of_ble_eq_true rfl⟩ rfl rfl h_a0 (q := (RCw, TCw, 20)) rfl rfl hl.1 rfl (Nat.le_of_ble_eq_true rfl) rfl hd d_Law_1291 (fun r_320 s_321 H locs h hP hD hS => ?_)
          refine lv_pop G.1 G.2.1 d_Law_1294 rfl ?_
          refine lv_aload_n G.1 G.2.1 d_Law_1295 rfl (lv_at hl 2 rfl) ?_
          refine lv_aload_n G.1 G.2.1 d_Law_1296 rfl (lv_at hl 0 rfl) ?_
          refine lv_iload_n G.1 G.2.1 d_Law_1297 rfl (lv_at hl 3 rfl) ?_
          refine lv_iconst (v := 1) G.1 G.2.1 d_Law_1298 (by decide) ?_
          refine lv_iadd G.1 G.2.1 d_Law_1299 ?_
          refine usld G hX hbl hbA hS h d_Law_1300 (fun x_322 h => ?_)
          refine lv_aload_n G.1 G.2.1 d_Law_1301 rfl (lv_at hl 0 rfl) ?_
          refine lv_iload_n G.1 G.2.1 d_Law_1302 rfl (lv_at hl 3 rfl) ?_
          refine lv_iconst (v := 2) G.1 G.2.1 d_Law_1303 (by decide) ?_
          refine lv_iadd G.1 G.2.1 d_Law_1304 ?_
          refine W.eq (g2 := F0 m 1305 ls [.int (x3h18 + 2), .ref bS, .int x_322, .ref (ad 76)]) rfl ?_
          refine usld G hX hbl hbA hS h d_Law_1305 (fun x_323 h => ?_)
          refine ucVi (As := [.int x_322, .int x_323]) (rest := []) G hP hD hS (cu_Mo_done l D g ad y_h18 _ s_321 76 x_322 x_323 H.size h_a76 h) w9_Mo_done q4208 ⟨Nat.le_of_ble_eq_true rfl, Nat.le_of_ble_eq_true rfl⟩ rfl rfl h_a76 (q := (RMo, TMo, 131)) rfl rfl hl.1 rfl (Nat.le_of_ble_eq_true rfl) rfl hd d_Law_1306 (fun r_324 s_325 H locs h hP hD hS => ?_)
          refine lv_pop G.1 G.2.1 d_Law_1309 rfl ?_
          refine lv_goto (tgt := 1768) G.1 G.2.1 d_Law_1310 (by decide) ?_
          exact J_1768 y_h18 s_325 d_h18 e_h18 x3h18 H locs h hP hD hS ls (lv_sub hl [0, 1, 2, 3] rfl)
        replace h := h.2 e33_28
        by_cases e33_29 : (x_1 &&& 63) = 29
        · skip
          have h := h.1 e33_29
          refine lv_tableIn (off := 1280) (tgt := 1313) G.1 G.2.1 d_Law_33 (by rw [e33_29]; decide) (by rw [e33_29]; decide) (by rw [e33_29]; rfl) (by decide) ?_
          refine lv_aload_n G.1 G.2.1 d_Law_1313 rfl (lv_at hl 1 rfl) ?_
          refine lv_aload_n G.1 G.2.1 d_Law_1314 rfl (lv_at hl 0 rfl) ?_
          refine lv_iload_n G.1 G.2.1 d_Law_1315 rfl (lv_at hl 3 rfl) ?_
          refine lv_iconst (v := 1) G.1 G.2.1 d_Law_1316 (by decide) ?_
          refine lv_iadd G.1 G.2.1 d_Law_1317 ?_
          refine usld G hX hbl hbA hS h d_Law_1318 (fun x_326 h => ?_)
          obtain ⟨mc_332, ms_333, hr_334, h⟩ := h
          refine uaVi (As := [.int x_326]) (rest := []) G hP hD hS (ca_Cw_collect l D g ad mc_332 ms_333 y_h18 _ s_h18 0 x_326 H.size (us H) h_a0 h) w9_Cw_collect q2349 ⟨Nat.le_of_ble_eq_true rfl, Nat.le_of_ble_eq_true rfl⟩ rfl rfl h_a0 (q := (RCw, TCw, 20)) rfl rfl hl.1 rfl (Nat.le_of_ble_eq_true rfl) rfl hr_334 d_Law_1319 (fun r_327 y_329 s_328 d_330 e_331 H locs h hP hD hS => ?_)
          obtain ⟨hd, h⟩ := h
          refine lv_pop G.1 G.2.1 d_Law_1322 rfl ?_
          refine lv_aload_n G.1 G.2.1 d_Law_1323 rfl (lv_at hl 2 rfl) ?_
          refine lv_aload_n G.1 G.2.1 d_Law_1324 rfl (lv_at hl 0 rfl) ?_
          refine lv_iload_n G.1 G.2.1 d_Law_1325 rfl (lv_at hl 3 rfl) ?_
          refine W.eq (g2 := F0 m 1326 ls [.int x3h18, .ref bS, .ref (ad 76)]) rfl ?_
          refine lv_iconst (v := 1) G.1 G.2.1 d_Law_1326 (by decide) ?_
          refine lv_iadd G.1 G.2.1 d_Law_1327 ?_
          refine usld G hX hbl hbA hS h d_Law_1328 (fun x_335 h => ?_)
          refine ucVi (As := [.int x_335]) (rest := []) G hP hD hS (cu_Mo_collect l D g ad y_329 _ s_328 76 x_335 H.size h_a76 h) w9_Mo_collect q4185 ⟨Nat.le_of_ble_eq_true rfl, Nat.le_of_ble_eq_true rfl⟩ rfl rfl h_a76 (q := (RMo, TMo, 131)) rfl rfl hl.1 rfl (Nat.le_of_ble_eq_true rfl) rfl hd d_Law_1329 (fun r_336 s_337 H locs h hP hD hS => ?_)
          refine lv_pop G.1 G.2.1 d_Law_1332 rfl ?_
          refine lv_goto (tgt := 1768) G.1 G.2.1 d_Law_1333 (by decide) ?_
          exact J_1768 y_329 s_337 (d_h18 + d_330) (e_h18 + e_331) x3h18 H locs h hP hD hS ls (lv_sub hl [0, 1, 2, 3] rfl)
        replace h := h.2 e33_29
        by_cases e33_30 : (x_1 &&& 63) = 30
        · skip
          have h := h.1 e33_30
          refine lv_tableIn (off := 1303) (tgt := 1336) G.1 G.2.1 d_Law_33 (by rw [e33_30]; decide) (by rw [e33_30]; decide) (by rw [e33_30]; rfl) (by decide) ?_
          refine lv_aload_n G.1 G.2.1 d_Law_1336 rfl (lv_at hl 1 rfl) ?_
          refine lv_aload_n G.1 G.2.1 d_Law_1337 rfl (lv_at hl 0 rfl) ?_
          refine lv_iload_n G.1 G.2.1 d_Law_1338 rfl (lv_at hl 3 rfl) ?_
          refine lv_iconst (v := 1) G.1 G.2.1 d_Law_1339 (by decide) ?_
          refine lv_iadd G.1 G.2.1 d_Law_1340 ?_
          refine usld G hX hbl hbA hS h d_Law_1341 (fun x_338 h => ?_)
          refine lv_aload_n G.1 G.2.1 d_Law_1342 rfl (lv_at hl 0 rfl) ?_
          refine lv_iload_n G.1 G.2.1 d_Law_1343 rfl (lv_at hl 3 rfl) ?_
          refine lv_iconst (v := 2) G.1 G.2.1 d_Law_1344 (by decide) ?_
          refine lv_iadd G.1 G.2.1 d_Law_1345 ?_
          refine usld G hX hbl hbA hS h d_Law_1346 (fun x_339 h => ?_)
          refine W.eq (g2 := F0 m 1347 ls [.int x_339, .int x_338, .ref (ad 0)]) rfl ?_
          refine lv_aload_n G.1 G.2.1 d_Law_1347 rfl (lv_at hl 0 rfl) ?_
          refine lv_iload_n G.1 G.2.1 d_Law_1348 rfl (lv_at hl 3 rfl) ?_
          refine lv_iconst (v := 3) G.1 G.2.1 d_Law_1349 (by decide) ?_
          refine lv_iadd G.1 G.2.1 d_Law_1350 ?_
          refine usld G hX hbl hbA hS h d_Law_1351 (fun x_340 h => ?_)
          refine lv_aload_n G.1 G.2.1 d_Law_1352 rfl (lv_at hl 0 rfl) ?_
          refine lv_iload_n G.1 G.2.1 d_Law_1353 rfl (lv_at hl 3 rfl) ?_
          refine lv_iconst (v := 4) G.1 G.2.1 d_Law_1354 (by decide) ?_
          refine lv_iadd G.1 G.2.1 d_Law_1355 ?_
          refine usld G hX hbl hbA hS h d_Law_1356 (fun x_341 h => ?_)
          refine lv_aload_n G.1 G.2.1 d_Law_1357 rfl (lv_at hl 0 rfl) ?_
          refine lv_iload_n G.1 G.2.1 d_Law_1358 rfl (lv_at hl 3 rfl) ?_
          refine W.eq (g2 := F0 m 1359 ls [.int x3h18, .ref bS, .int x_341, .int x_340, .int x_339, .int x_338, .ref (ad 0)]) rfl ?_
          refine lv_iconst (v := 5) G.1 G.2.1 d_Law_1359 (by decide) ?_
          refine lv_iadd G.1 G.2.1 d_Law_1360 ?_
          refine usld G hX hbl hbA hS h d_Law_1361 (fun x_342 h => ?_)
          refine ucVi (As := [.int x_338, .int x_339, .int x_340, .int x_341, .int x_342]) (rest := []) G hP hD hS (cu_Cw_differ l D g ad y_h18 _ s_h18 0 x_338 x_339 x_340 x_341 x_342 H.size h_a0 h) w9_Cw_differ q2387 ⟨Nat.le_of_ble_eq_true rfl, Nat.le_of_ble_eq_true rfl⟩ rfl rfl h_a0 (q := (RCw, TCw, 20)) rfl rfl hl.1 rfl (Nat.le_of_ble_eq_true rfl) rfl hd d_Law_1362 (fun r_343 s_344 H locs h hP hD hS => ?_)
          refine lv_pop G.1 G.2.1 d_Law_1365 rfl ?_
          refine lv_aload_n G.1 G.2.1 d_Law_1366 rfl (lv_at hl 2 rfl) ?_
          refine lv_aload_n G.1 G.2.1 d_Law_1367 rfl (lv_at hl 0 rfl) ?_
          refine lv_iload_n G.1 G.2.1 d_Law_1368 rfl (lv_at hl 3 rfl) ?_
          refine lv_iconst (v := 1) G.1 G.2.1 d_Law_1369 (by decide) ?_
          refine lv_iadd G.1 G.2.1 d_Law_1370 ?_
          refine usld G hX hbl hbA hS h d_Law_1371 (fun x_345 h => ?_)
          refine lv_aload_n G.1 G.2.1 d_Law_1372 rfl (lv_at hl 0 rfl) ?_
          refine W.eq (g2 := F0 m 1373 ls [.ref bS, .int x_345, .ref (ad 76)]) rfl ?_
          refine lv_iload_n G.1 G.2.1 d_Law_1373 rfl (lv_at hl 3 rfl) ?_
          refine lv_iconst (v := 2) G.1 G.2.1 d_Law_1374 (by decide) ?_
          refine lv_iadd G.1 G.2.1 d_Law_1375 ?_
          refine usld G hX hbl hbA hS h d_Law_1376 (fun x_346 h => ?_)
          refine lv_aload_n G.1 G.2.1 d_Law_1377 rfl (lv_at hl 0 rfl) ?_
          refine lv_iload_n G.1 G.2.1 d_Law_1378 rfl (lv_at hl 3 rfl) ?_
          refine lv_iconst (v := 3) G.1 G.2.1 d_Law_1379 (by decide) ?_
          refine lv_iadd G.1 G.2.1 d_Law_1380 ?_
          refine usld G hX hbl hbA hS h d_Law_1381 (fun x_347 h => ?_)
          refine lv_aload_n G.1 G.2.1 d_Law_1382 rfl (lv_at hl 0 rfl) ?_
          refine lv_iload_n G.1 G.2.1 d_Law_1383 rfl (lv_at hl 3 rfl) ?_
          refine lv_iconst (v := 4) G.1 G.2.1 d_Law_1384 (by decide) ?_
          refine W.eq (g2 := F0 m 1385 ls [.int 4, .int x3h18, .ref bS, .int x_347, .int x_346, .int x_345, .ref (ad 76)]) rfl ?_
          refine lv_iadd G.1 G.2.1 d_Law_1385 ?_
          refine usld G hX hbl hbA hS h d_Law_1386 (fun x_348 h => ?_)
          refine lv_aload_n G.1 G.2.1 d_Law_1387 rfl (lv_at hl 0 rfl) ?_
          refine lv_iload_n G.1 G.2.1 d_Law_1388 rfl (lv_at hl 3 rfl) ?_
          refine lv_iconst (v := 5) G.1 G.2.1 d_Law_1389 (by decide) ?_
          refine lv_iadd G.1 G.2.1 d_Law_1390 ?_
          refine usld G hX hbl hbA hS h d_Law_1391 (fun x_349 h => ?_)
          obtain ⟨mc_355, ms_356, hr_357, h⟩ := h
          refine utVi (As := [.int x_345, .int x_346, .int x_347, .int x_348, .int x_349]) (rest := []) G hP hD hS (ca_Mo_differ l D g F sl hF ad mc_355 ms_356 y_h18 _ s_344 76 x_345 x_346 x_347 x_348 x_349 H.size (us H) h_a76 h) w9_Mo_differ q4193 ⟨Nat.le_of_ble_eq_true rfl, Nat.le_of_ble_eq_true rfl⟩ rfl rfl h_a76 (q := (RMo, TMo, 131)) rfl rfl hl.1 rfl (Nat.le_of_ble_eq_true rfl) rfl hr_357 d_Law_1392 (fun r_350 y_352 s_351 d_353 e_354 H locs h hP hD hS => ?_)
          obtain ⟨hd, h⟩ := h
          refine lv_pop G.1 G.2.1 d_Law_1395 rfl ?_
          refine lv_goto (tgt := 1768) G.1 G.2.1 d_Law_1396 (by decide) ?_
          exact J_1768 y_352 s_351 (d_h18 + d_353) (e_h18 + e_354) x3h18 H locs h hP hD hS ls (lv_sub hl [0, 1, 2, 3] rfl)
        replace h := h.2 e33_30
        by_cases e33_31 : (x_1 &&& 63) = 31
        · skip
          have h := h.1 e33_31
          refine lv_tableIn (off := 1366) (tgt := 1399) G.1 G.2.1 d_Law_33 (by rw [e33_31]; decide) (by rw [e33_31]; decide) (by rw [e33_31]; rfl) (by decide) ?_
          refine lv_aload_n G.1 G.2.1 d_Law_1399 rfl (lv_at hl 1 rfl) ?_
          refine lv_aload_n G.1 G.2.1 d_Law_1400 rfl (lv_at hl 0 rfl) ?_
          refine lv_iload_n G.1 G.2.1 d_Law_1401 rfl (lv_at hl 3 rfl) ?_
          refine lv_iconst (v := 1) G.1 G.2.1 d_Law_1402 (by decide) ?_
          refine lv_iadd G.1 G.2.1 d_Law_1403 ?_
          refine usld G hX hbl hbA hS h d_Law_1404 (fun x_358 h => ?_)
          refine lv_aload_n G.1 G.2.1 d_Law_1405 rfl (lv_at hl 0 rfl) ?_
          refine lv_iload_n G.1 G.2.1 d_Law_1406 rfl (lv_at hl 3 rfl) ?_
          refine lv_iconst (v := 2) G.1 G.2.1 d_Law_1407 (by decide) ?_
          refine lv_iadd G.1 G.2.1 d_Law_1408 ?_
          refine usld G hX hbl hbA hS h d_Law_1409 (fun x_359 h => ?_)
          refine W.eq (g2 := F0 m 1410 ls [.int x_359, .int x_358, .ref (ad 0)]) rfl ?_
          refine lv_aload_n G.1 G.2.1 d_Law_1410 rfl (lv_at hl 0 rfl) ?_
          refine lv_iload_n G.1 G.2.1 d_Law_1411 rfl (lv_at hl 3 rfl) ?_
          refine lv_iconst (v := 3) G.1 G.2.1 d_Law_1412 (by decide) ?_
          refine lv_iadd G.1 G.2.1 d_Law_1413 ?_
          refine usld G hX hbl hbA hS h d_Law_1414 (fun x_360 h => ?_)
          obtain ⟨mc_366, ms_367, hr_368, h⟩ := h
          refine utVi (As := [.int x_358, .int x_359, .int x_360]) (rest := []) G hP hD hS (ca_Cw_reach l D g F sl hF ad mc_366 ms_367 y_h18 _ s_h18 0 x_358 x_359 x_360 H.size (us H) h_a0 h) w9_Cw_reach q2421 ⟨Nat.le_of_ble_eq_true rfl, Nat.le_of_ble_eq_true rfl⟩ rfl rfl h_a0 (q := (RCw, TCw, 20)) rfl rfl hl.1 rfl (Nat.le_of_ble_eq_true rfl) rfl hr_368 d_Law_1415 (fun r_361 y_363 s_362 d_364 e_365 H locs h hP hD hS => ?_)
          obtain ⟨hd, h⟩ := h
          refine lv_pop G.1 G.2.1 d_Law_1418 rfl ?_
          refine lv_aload_n G.1 G.2.1 d_Law_1419 rfl (lv_at hl 2 rfl) ?_
          refine lv_aload_n G.1 G.2.1 d_Law_1420 rfl (lv_at hl 0 rfl) ?_
          refine lv_iload_n G.1 G.2.1 d_Law_1421 rfl (lv_at hl 3 rfl) ?_
          refine lv_iconst (v := 1) G.1 G.2.1 d_Law_1422 (by decide) ?_
          refine lv_iadd G.1 G.2.1 d_Law_1423 ?_
          refine W.eq (g2 := F0 m 1424 ls [.int (x3h18 + 1), .ref bS, .ref (ad 76)]) rfl ?_
          refine usld G hX hbl hbA hS h d_Law_1424 (fun x_369 h => ?_)
          refine lv_aload_n G.1 G.2.1 d_Law_1425 rfl (lv_at hl 0 rfl) ?_
          refine lv_iload_n G.1 G.2.1 d_Law_1426 rfl (lv_at hl 3 rfl) ?_
          refine lv_iconst (v := 2) G.1 G.2.1 d_Law_1427 (by decide) ?_
          refine lv_iadd G.1 G.2.1 d_Law_1428 ?_
          refine usld G hX hbl hbA hS h d_Law_1429 (fun x_370 h => ?_)
          refine lv_aload_n G.1 G.2.1 d_Law_1430 rfl (lv_at hl 0 rfl) ?_
          refine lv_iload_n G.1 G.2.1 d_Law_1431 rfl (lv_at hl 3 rfl) ?_
          refine lv_iconst (v := 3) G.1 G.2.1 d_Law_1432 (by decide) ?_
          refine lv_iadd G.1 G.2.1 d_Law_1433 ?_
          refine usld G hX hbl hbA hS h d_Law_1434 (fun x_371 h => ?_)
          refine ucVi (As := [.int x_369, .int x_370, .int x_371]) (rest := []) G hP hD hS (cu_Mo_reach l D g ad y_363 _ s_362 76 x_369 x_370 x_371 H.size h_a76 h) w9_Mo_reach q4165 ⟨Nat.le_of_ble_eq_true rfl, Nat.le_of_ble_eq_true rfl⟩ rfl rfl h_a76 (q := (RMo, TMo, 131)) rfl rfl hl.1 rfl (Nat.le_of_ble_eq_true rfl) rfl hd d_Law_1435 (fun r_372 s_373 H locs h hP hD hS => ?_)
          refine W.eq (g2 := F0 m 1438 ls [.int r_372]) rfl ?_
          refine lv_pop G.1 G.2.1 d_Law_1438 rfl ?_
          refine lv_goto (tgt := 1768) G.1 G.2.1 d_Law_1439 (by decide) ?_
          exact J_1768 y_363 s_373 (d_h18 + d_364) (e_h18 + e_365) x3h18 H locs h hP hD hS ls (lv_sub hl [0, 1, 2, 3] rfl)
        replace h := h.2 e33_31
        by_cases e33_32 : (x_1 &&& 63) = 32
        · skip
          have h := h.1 e33_32
          refine lv_tableIn (off := 1409) (tgt := 1442) G.1 G.2.1 d_Law_33 (by rw [e33_32]; decide) (by rw [e33_32]; decide) (by rw [e33_32]; rfl) (by decide) ?_
          refine lv_aload_n G.1 G.2.1 d_Law_1442 rfl (lv_at hl 1 rfl) ?_
          refine lv_aload_n G.1 G.2.1 d_Law_1443 rfl (lv_at hl 0 rfl) ?_
          refine lv_iload_n G.1 G.2.1 d_Law_1444 rfl (lv_at hl 3 rfl) ?_
          refine lv_iconst (v := 1) G.1 G.2.1 d_Law_1445 (by decide) ?_
          refine lv_iadd G.1 G.2.1 d_Law_1446 ?_
          refine usld G hX hbl hbA hS h d_Law_1447 (fun x_374 h => ?_)
          refine ucVi (As := [.int x_374]) (rest := []) G hP hD hS (cu_Cw_reached l D g ad y_h18 _ s_h18 0 x_374 H.size h_a0 h) w9_Cw_reached q2446 ⟨Nat.le_of_ble_eq_true rfl, Nat.le_of_ble_eq_true rfl⟩ rfl rfl h_a0 (q := (RCw, TCw, 20)) rfl rfl hl.1 rfl (Nat.le_of_ble_eq_true rfl) rfl hd d_Law_1448 (fun r_375 s_376 H locs h hP hD hS => ?_)
          refine lv_pop G.1 G.2.1 d_Law_1451 rfl ?_
          refine lv_aload_n G.1 G.2.1 d_Law_1452 rfl (lv_at hl 2 rfl) ?_
          refine lv_aload_n G.1 G.2.1 d_Law_1453 rfl (lv_at hl 0 rfl) ?_
          refine lv_iload_n G.1 G.2.1 d_Law_1454 rfl (lv_at hl 3 rfl) ?_
          refine W.eq (g2 := F0 m 1455 ls [.int x3h18, .ref bS, .ref (ad 76)]) rfl ?_
          refine lv_iconst (v := 1) G.1 G.2.1 d_Law_1455 (by decide) ?_
          refine lv_iadd G.1 G.2.1 d_Law_1456 ?_
          refine usld G hX hbl hbA hS h d_Law_1457 (fun x_377 h => ?_)
          refine ucVi (As := [.int x_377]) (rest := []) G hP hD hS (cu_Mo_reached l D g ad y_h18 _ s_376 76 x_377 H.size h_a76 h) w9_Mo_reached q4181 ⟨Nat.le_of_ble_eq_true rfl, Nat.le_of_ble_eq_true rfl⟩ rfl rfl h_a76 (q := (RMo, TMo, 131)) rfl rfl hl.1 rfl (Nat.le_of_ble_eq_true rfl) rfl hd d_Law_1458 (fun r_378 s_379 H locs h hP hD hS => ?_)
          refine lv_pop G.1 G.2.1 d_Law_1461 rfl ?_
          refine lv_goto (tgt := 1768) G.1 G.2.1 d_Law_1462 (by decide) ?_
          exact J_1768 y_h18 s_379 d_h18 e_h18 x3h18 H locs h hP hD hS ls (lv_sub hl [0, 1, 2, 3] rfl)
        replace h := h.2 e33_32
        by_cases e33_33 : (x_1 &&& 63) = 33
        · skip
          have h := h.1 e33_33
          refine lv_tableIn (off := 1432) (tgt := 1465) G.1 G.2.1 d_Law_33 (by rw [e33_33]; decide) (by rw [e33_33]; decide) (by rw [e33_33]; rfl) (by decide) ?_
          refine lv_aload_n G.1 G.2.1 d_Law_1465 rfl (lv_at hl 1 rfl) ?_
          obtain ⟨mc_385, ms_386, hr_387, h⟩ := h
          refine uaVi (As := []) (rest := []) G hP hD hS (ca_Cw_trial l D g ad mc_385 ms_386 y_h18 _ s_h18 0 H.size (us H) h_a0 h) w9_Cw_trial q2450 ⟨Nat.le_of_ble_eq_true rfl, Nat.le_of_ble_eq_true rfl⟩ rfl rfl h_a0 (q := (RCw, TCw, 20)) rfl rfl hl.1 rfl (Nat.le_of_ble_eq_true rfl) rfl hr_387 d_Law_1466 (fun r_380 y_382 s_381 d_383 e_384 H locs h hP hD hS => ?_)
          obtain ⟨hd, h⟩ := h
          refine lv_pop G.1 G.2.1 d_Law_1469 rfl ?_
          refine lv_aload_n G.1 G.2.1 d_Law_1470 rfl (lv_at hl 2 rfl) ?_
          obtain ⟨mc_393, ms_394, hr_395, h⟩ := h
          refine uwVi (As := []) (rest := []) G hP hD hS (ca_Mo_trial l D g ad mc_393 ms_394 y_382 _ s_381 76 H.size (us H) h_a76 h) (fun _ h => absurd h List.not_mem_nil) w9_Mo_trial q4212 ⟨Nat.le_of_ble_eq_true rfl, Nat.le_of_ble_eq_true rfl⟩ rfl rfl h_a76 (q := (RMo, TMo, 131)) rfl rfl hl.1 rfl (Nat.le_of_ble_eq_true rfl) rfl hr_395 d_Law_1471 (fun r_388 y_390 s_389 d_391 e_392 H locs h hP hD hS => ?_)
          obtain ⟨hd, h⟩ := h
          refine lv_pop G.1 G.2.1 d_Law_1474 rfl ?_
          refine lv_goto (tgt := 1768) G.1 G.2.1 d_Law_1475 (by decide) ?_
          exact J_1768 y_390 s_389 (d_h18 + d_383 + d_391) (e_h18 + e_384 + e_392) x3h18 H locs h hP hD hS ls (lv_sub hl [0, 1, 2, 3] rfl)
        replace h := h.2 e33_33
        by_cases e33_34 : (x_1 &&& 63) = 34
        · skip
          have h := h.1 e33_34
          refine lv_tableIn (off := 1445) (tgt := 1478) G.1 G.2.1 d_Law_33 (by rw [e33_34]; decide) (by rw [e33_34]; decide) (by rw [e33_34]; rfl) (by decide) ?_
          refine lv_aload_n G.1 G.2.1 d_Law_1478 rfl (lv_at hl 1 rfl) ?_
          refine lv_aload_n G.1 G.2.1 d_Law_1479 rfl (lv_at hl 0 rfl) ?_
          refine lv_iload_n G.1 G.2.1 d_Law_1480 rfl (lv_at hl 3 rfl) ?_
          refine lv_iconst (v := 1) G.1 G.2.1 d_Law_1481 (by decide) ?_
          refine lv_iadd G.1 G.2.1 d_Law_1482 ?_
          refine usld G hX hbl hbA hS h d_Law_1483 (fun x_396 h => ?_)
          refine lv_aload_n G.1 G.2.1 d_Law_1484 rfl (lv_at hl 0 rfl) ?_
          refine lv_iload_n G.1 G.2.1 d_Law_1485 rfl (lv_at hl 3 rfl) ?_
          refine lv_iconst (v := 2) G.1 G.2.1 d_Law_1486 (by decide) ?_
          refine lv_iadd G.1 G.2.1 d_Law_1487 ?_
          refine usld G hX hbl hbA hS h d_Law_1488 (fun x_397 h => ?_)
          refine W.eq (g2 := F0 m 1489 ls [.int x_397, .int x_396, .ref (ad 0)]) rfl ?_
          refine lv_aload_n G.1 G.2.1 d_Law_1489 rfl (lv_at hl 0 rfl) ?_
          refine lv_iload_n G.1 G.2.1 d_Law_1490 rfl (lv_at hl 3 rfl) ?_
          refine lv_iconst (v := 3) G.1 G.2.1 d_Law_1491 (by decide) ?_
          refine lv_iadd G.1 G.2.1 d_Law_1492 ?_
          refine usld G hX hbl hbA hS h d_Law_1493 (fun x_398 h => ?_)
          obtain ⟨mc_404, ms_405, hr_406, h⟩ := h
          refine utVi (As := [.int x_396, .int x_397, .int x_398]) (rest := []) G hP hD hS (ca_Cw_outcome l D g F sl hF ad mc_404 ms_405 y_h18 _ s_h18 0 x_396 x_397 x_398 H.size (us H) h_a0 h) w9_Cw_outcome q2469 ⟨Nat.le_of_ble_eq_true rfl, Nat.le_of_ble_eq_true rfl⟩ rfl rfl h_a0 (q := (RCw, TCw, 20)) rfl rfl hl.1 rfl (Nat.le_of_ble_eq_true rfl) rfl hr_406 d_Law_1494 (fun r_399 y_401 s_400 d_402 e_403 H locs h hP hD hS => ?_)
          obtain ⟨hd, h⟩ := h
          refine lv_pop G.1 G.2.1 d_Law_1497 rfl ?_
          refine lv_aload_n G.1 G.2.1 d_Law_1498 rfl (lv_at hl 2 rfl) ?_
          refine lv_aload_n G.1 G.2.1 d_Law_1499 rfl (lv_at hl 0 rfl) ?_
          refine lv_iload_n G.1 G.2.1 d_Law_1500 rfl (lv_at hl 3 rfl) ?_
          refine lv_iconst (v := 1) G.1 G.2.1 d_Law_1501 (by decide) ?_
          refine lv_iadd G.1 G.2.1 d_Law_1502 ?_
          refine W.eq (g2 := F0 m 1503 ls [.int (x3h18 + 1), .ref bS, .ref (ad 76)]) rfl ?_
          refine usld G hX hbl hbA hS h d_Law_1503 (fun x_407 h => ?_)
          refine lv_aload_n G.1 G.2.1 d_Law_1504 rfl (lv_at hl 0 rfl) ?_
          refine lv_iload_n G.1 G.2.1 d_Law_1505 rfl (lv_at hl 3 rfl) ?_
          refine lv_iconst (v := 2) G.1 G.2.1 d_Law_1506 (by decide) ?_
          refine lv_iadd G.1 G.2.1 d_Law_1507 ?_
          refine usld G hX hbl hbA hS h d_Law_1508 (fun x_408 h => ?_)
          refine lv_aload_n G.1 G.2.1 d_Law_1509 rfl (lv_at hl 0 rfl) ?_
          refine lv_iload_n G.1 G.2.1 d_Law_1510 rfl (lv_at hl 3 rfl) ?_
          refine lv_iconst (v := 3) G.1 G.2.1 d_Law_1511 (by decide) ?_
          refine lv_iadd G.1 G.2.1 d_Law_1512 ?_
          refine usld G hX hbl hbA hS h d_Law_1513 (fun x_409 h => ?_)
          obtain ⟨mc_415, ms_416, hr_417, h⟩ := h
          refine uxVi (As := [.int x_407, .int x_408, .int x_409]) (rest := []) G hP hD hS (cx_Mo_outcome l D g ad mc_415 ms_416 y_401 _ _ s_400 76 x_407 x_408 x_409 H.size (us H) h_a76 h) (fun _ h => absurd h List.not_mem_nil) w9_Mo_outcome q4220 ⟨Nat.le_of_ble_eq_true rfl, Nat.le_of_ble_eq_true rfl⟩ rfl rfl h_a76 (q := (RMo, TMo, 131)) rfl rfl hl.1 rfl (Nat.le_of_ble_eq_true rfl) rfl hr_417 d_Law_1514 (fun y_412 s_411 d_413 e_414 H locs q9 ce h hP hD hS hce hcv hcl => ?_) (fun r_410 y_412 s_411 d_413 e_414 H locs h hP hD hS => ?_)
          · skip
            exact h.elim
          obtain ⟨hd, h⟩ := h
          refine W.eq (g2 := F0 m 1517 ls [.int r_410]) rfl ?_
          refine lv_pop G.1 G.2.1 d_Law_1517 rfl ?_
          refine lv_goto (tgt := 1768) G.1 G.2.1 d_Law_1518 (by decide) ?_
          exact J_1768 y_412 s_411 (d_h18 + d_402 + d_413) (e_h18 + e_403 + e_414) x3h18 H locs h hP hD hS ls (lv_sub hl [0, 1, 2, 3] rfl)
        replace h := h.2 e33_34
        by_cases e33_35 : (x_1 &&& 63) = 35
        · skip
          have h := h.1 e33_35
          refine lv_tableIn (off := 1488) (tgt := 1521) G.1 G.2.1 d_Law_33 (by rw [e33_35]; decide) (by rw [e33_35]; decide) (by rw [e33_35]; rfl) (by decide) ?_
          refine lv_aload_n G.1 G.2.1 d_Law_1521 rfl (lv_at hl 1 rfl) ?_
          refine lv_aload_n G.1 G.2.1 d_Law_1522 rfl (lv_at hl 0 rfl) ?_
          refine lv_iload_n G.1 G.2.1 d_Law_1523 rfl (lv_at hl 3 rfl) ?_
          refine lv_iconst (v := 1) G.1 G.2.1 d_Law_1524 (by decide) ?_
          refine lv_iadd G.1 G.2.1 d_Law_1525 ?_
          refine usld G hX hbl hbA hS h d_Law_1526 (fun x_418 h => ?_)
          obtain ⟨mc_424, ms_425, hr_426, h⟩ := h
          refine utVi (As := [.int x_418]) (rest := []) G hP hD hS (ca_Cw_meets l D g F sl hF ad mc_424 ms_425 y_h18 _ s_h18 0 x_418 H.size (us H) h_a0 h) w9_Cw_meets q2490 ⟨Nat.le_of_ble_eq_true rfl, Nat.le_of_ble_eq_true rfl⟩ rfl rfl h_a0 (q := (RCw, TCw, 20)) rfl rfl hl.1 rfl (Nat.le_of_ble_eq_true rfl) rfl hr_426 d_Law_1527 (fun r_419 y_421 s_420 d_422 e_423 H locs h hP hD hS => ?_)
          obtain ⟨hd, h⟩ := h
          refine lv_pop G.1 G.2.1 d_Law_1530 rfl ?_
          refine lv_aload_n G.1 G.2.1 d_Law_1531 rfl (lv_at hl 2 rfl) ?_
          refine lv_aload_n G.1 G.2.1 d_Law_1532 rfl (lv_at hl 0 rfl) ?_
          refine lv_iload_n G.1 G.2.1 d_Law_1533 rfl (lv_at hl 3 rfl) ?_
          refine W.eq (g2 := F0 m 1534 ls [.int x3h18, .ref bS, .ref (ad 76)]) rfl ?_
          refine lv_iconst (v := 1) G.1 G.2.1 d_Law_1534 (by decide) ?_
          refine lv_iadd G.1 G.2.1 d_Law_1535 ?_
          refine usld G hX hbl hbA hS h d_Law_1536 (fun x_427 h => ?_)
          obtain ⟨mc_433, ms_434, hr_435, h⟩ := h
          refine uxVi (As := [.int x_427]) (rest := []) G hP hD hS (cx_Mo_meets l D g ad mc_433 ms_434 y_421 _ _ s_420 76 x_427 H.size (us H) h_a76 h) (fun _ h => absurd h List.not_mem_nil) w9_Mo_meets q4236 ⟨Nat.le_of_ble_eq_true rfl, Nat.le_of_ble_eq_true rfl⟩ rfl rfl h_a76 (q := (RMo, TMo, 131)) rfl rfl hl.1 rfl (Nat.le_of_ble_eq_true rfl) rfl hr_435 d_Law_1537 (fun y_430 s_429 d_431 e_432 H locs q9 ce h hP hD hS hce hcv hcl => ?_) (fun r_428 y_430 s_429 d_431 e_432 H locs h hP hD hS => ?_)
          · skip
            exact h.elim
          obtain ⟨hd, h⟩ := h
          refine lv_pop G.1 G.2.1 d_Law_1540 rfl ?_
          refine lv_goto (tgt := 1768) G.1 G.2.1 d_Law_1541 (by decide) ?_
          exact J_1768 y_430 s_429 (d_h18 + d_422 + d_431) (e_h18 + e_423 + e_432) x3h18 H locs h hP hD hS ls (lv_sub hl [0, 1, 2, 3] rfl)
        replace h := h.2 e33_35
        by_cases e33_36 : (x_1 &&& 63) = 36
        · skip
          have h := h.1 e33_36
          refine lv_tableIn (off := 1511) (tgt := 1544) G.1 G.2.1 d_Law_33 (by rw [e33_36]; decide) (by rw [e33_36]; decide) (by rw [e33_36]; rfl) (by decide) ?_
          refine lv_aload_n G.1 G.2.1 d_Law_1544 rfl (lv_at hl 1 rfl) ?_
          refine lv_aload_n G.1 G.2.1 d_Law_1545 rfl (lv_at hl 0 rfl) ?_
          refine lv_iload_n G.1 G.2.1 d_Law_1546 rfl (lv_at hl 3 rfl) ?_
          refine lv_iconst (v := 1) G.1 G.2.1 d_Law_1547 (by decide) ?_
          refine lv_iadd G.1 G.2.1 d_Law_1548 ?_
          refine usld G hX hbl hbA hS h d_Law_1549 (fun x_436 h => ?_)
          refine lv_aload_n G.1 G.2.1 d_Law_1550 rfl (lv_at hl 0 rfl) ?_
          refine lv_iload_n G.1 G.2.1 d_Law_1551 rfl (lv_at hl 3 rfl) ?_
          refine lv_iconst (v := 2) G.1 G.2.1 d_Law_1552 (by decide) ?_
          refine lv_iadd G.1 G.2.1 d_Law_1553 ?_
          refine usld G hX hbl hbA hS h d_Law_1554 (fun x_437 h => ?_)
          refine W.eq (g2 := F0 m 1555 ls [.int x_437, .int x_436, .ref (ad 0)]) rfl ?_
          obtain ⟨mc_443, ms_444, hr_445, h⟩ := h
          refine utVi (As := [.int x_436, .int x_437]) (rest := []) G hP hD hS (ca_Cw_finds l D g F sl hF ad mc_443 ms_444 y_h18 _ s_h18 0 x_436 x_437 H.size (us H) h_a0 h) w9_Cw_finds q2498 ⟨Nat.le_of_ble_eq_true rfl, Nat.le_of_ble_eq_true rfl⟩ rfl rfl h_a0 (q := (RCw, TCw, 20)) rfl rfl hl.1 rfl (Nat.le_of_ble_eq_true rfl) rfl hr_445 d_Law_1555 (fun r_438 y_440 s_439 d_441 e_442 H locs h hP hD hS => ?_)
          obtain ⟨hd, h⟩ := h
          refine lv_pop G.1 G.2.1 d_Law_1558 rfl ?_
          refine lv_aload_n G.1 G.2.1 d_Law_1559 rfl (lv_at hl 2 rfl) ?_
          refine lv_aload_n G.1 G.2.1 d_Law_1560 rfl (lv_at hl 0 rfl) ?_
          refine lv_iload_n G.1 G.2.1 d_Law_1561 rfl (lv_at hl 3 rfl) ?_
          refine lv_iconst (v := 1) G.1 G.2.1 d_Law_1562 (by decide) ?_
          refine lv_iadd G.1 G.2.1 d_Law_1563 ?_
          refine usld G hX hbl hbA hS h d_Law_1564 (fun x_446 h => ?_)
          refine lv_aload_n G.1 G.2.1 d_Law_1565 rfl (lv_at hl 0 rfl) ?_
          refine lv_iload_n G.1 G.2.1 d_Law_1566 rfl (lv_at hl 3 rfl) ?_
          refine lv_iconst (v := 2) G.1 G.2.1 d_Law_1567 (by decide) ?_
          refine lv_iadd G.1 G.2.1 d_Law_1568 ?_
          refine W.eq (g2 := F0 m 1569 ls [.int (x3h18 + 2), .ref bS, .int x_446, .ref (ad 76)]) rfl ?_
          refine usld G hX hbl hbA hS h d_Law_1569 (fun x_447 h => ?_)
          obtain ⟨mc_453, ms_454, hr_455, h⟩ := h
          refine uxVi (As := [.int x_446, .int x_447]) (rest := []) G hP hD hS (cx_Mo_finds l D g ad mc_453 ms_454 y_440 _ _ s_439 76 x_446 x_447 H.size (us H) h_a76 h) (fun _ h => absurd h List.not_mem_nil) w9_Mo_finds q4244 ⟨Nat.le_of_ble_eq_true rfl, Nat.le_of_ble_eq_true rfl⟩ rfl rfl h_a76 (q := (RMo, TMo, 131)) rfl rfl hl.1 rfl (Nat.le_of_ble_eq_true rfl) rfl hr_455 d_Law_1570 (fun y_450 s_449 d_451 e_452 H locs q9 ce h hP hD hS hce hcv hcl => ?_) (fun r_448 y_450 s_449 d_451 e_452 H locs h hP hD hS => ?_)
          · skip
            exact h.elim
          obtain ⟨hd, h⟩ := h
          refine lv_pop G.1 G.2.1 d_Law_1573 rfl ?_
          refine lv_goto (tgt := 1768) G.1 G.2.1 d_Law_1574 (by decide) ?_
          exact J_1768 y_450 s_449 (d_h18 + d_441 + d_451) (e_h18 + e_442 + e_452) x3h18 H locs h hP hD hS ls (lv_sub hl [0, 1, 2, 3] rfl)
        replace h := h.2 e33_36
        by_cases e33_37 : (x_1 &&& 63) = 37
        · skip
          have h := h.1 e33_37
          refine lv_tableIn (off := 1544) (tgt := 1577) G.1 G.2.1 d_Law_33 (by rw [e33_37]; decide) (by rw [e33_37]; decide) (by rw [e33_37]; rfl) (by decide) ?_
          refine lv_aload_n G.1 G.2.1 d_Law_1577 rfl (lv_at hl 1 rfl) ?_
          refine lv_aload_n G.1 G.2.1 d_Law_1578 rfl (lv_at hl 0 rfl) ?_
          refine lv_iload_n G.1 G.2.1 d_Law_1579 rfl (lv_at hl 3 rfl) ?_
          refine lv_iconst (v := 1) G.1 G.2.1 d_Law_1580 (by decide) ?_
          refine lv_iadd G.1 G.2.1 d_Law_1581 ?_
          refine usld G hX hbl hbA hS h d_Law_1582 (fun x_456 h => ?_)
          obtain ⟨mc_462, ms_463, hr_464, h⟩ := h
          refine utVi (As := [.int x_456]) (rest := []) G hP hD hS (ca_Cw_hole l D g F sl hF ad mc_462 ms_463 y_h18 _ s_h18 0 x_456 H.size (us H) h_a0 h) w9_Cw_hole q2502 ⟨Nat.le_of_ble_eq_true rfl, Nat.le_of_ble_eq_true rfl⟩ rfl rfl h_a0 (q := (RCw, TCw, 20)) rfl rfl hl.1 rfl (Nat.le_of_ble_eq_true rfl) rfl hr_464 d_Law_1583 (fun r_457 y_459 s_458 d_460 e_461 H locs h hP hD hS => ?_)
          obtain ⟨hd, h⟩ := h
          refine lv_pop G.1 G.2.1 d_Law_1586 rfl ?_
          refine lv_aload_n G.1 G.2.1 d_Law_1587 rfl (lv_at hl 2 rfl) ?_
          refine lv_aload_n G.1 G.2.1 d_Law_1588 rfl (lv_at hl 0 rfl) ?_
          refine lv_iload_n G.1 G.2.1 d_Law_1589 rfl (lv_at hl 3 rfl) ?_
          refine W.eq (g2 := F0 m 1590 ls [.int x3h18, .ref bS, .ref (ad 76)]) rfl ?_
          refine lv_iconst (v := 1) G.1 G.2.1 d_Law_1590 (by decide) ?_
          refine lv_iadd G.1 G.2.1 d_Law_1591 ?_
          refine usld G hX hbl hbA hS h d_Law_1592 (fun x_465 h => ?_)
          obtain ⟨mc_471, ms_472, hr_473, h⟩ := h
          refine uxVi (As := [.int x_465]) (rest := []) G hP hD hS (cx_Mo_hole l D g ad mc_471 ms_472 y_459 _ _ s_458 76 x_465 H.size (us H) h_a76 h) (fun _ h => absurd h List.not_mem_nil) w9_Mo_hole q4248 ⟨Nat.le_of_ble_eq_true rfl, Nat.le_of_ble_eq_true rfl⟩ rfl rfl h_a76 (q := (RMo, TMo, 131)) rfl rfl hl.1 rfl (Nat.le_of_ble_eq_true rfl) rfl hr_473 d_Law_1593 (fun y_468 s_467 d_469 e_470 H locs q9 ce h hP hD hS hce hcv hcl => ?_) (fun r_466 y_468 s_467 d_469 e_470 H locs h hP hD hS => ?_)
          · skip
            exact h.elim
          obtain ⟨hd, h⟩ := h
          refine lv_pop G.1 G.2.1 d_Law_1596 rfl ?_
          refine lv_goto (tgt := 1768) G.1 G.2.1 d_Law_1597 (by decide) ?_
          exact J_1768 y_468 s_467 (d_h18 + d_460 + d_469) (e_h18 + e_461 + e_470) x3h18 H locs h hP hD hS ls (lv_sub hl [0, 1, 2, 3] rfl)
        replace h := h.2 e33_37
        by_cases e33_38 : (x_1 &&& 63) = 38
        · skip
          have h := h.1 e33_38
          refine lv_tableIn (off := 1567) (tgt := 1600) G.1 G.2.1 d_Law_33 (by rw [e33_38]; decide) (by rw [e33_38]; decide) (by rw [e33_38]; rfl) (by decide) ?_
          refine lv_aload_n G.1 G.2.1 d_Law_1600 rfl (lv_at hl 1 rfl) ?_
          obtain ⟨mc_479, ms_480, hr_481, h⟩ := h
          refine utVi (As := []) (rest := []) G hP hD hS (ca_Cw_least l D g F sl hF ad mc_479 ms_480 y_h18 _ s_h18 0 H.size (us H) h_a0 h) w9_Cw_least q2513 ⟨Nat.le_of_ble_eq_true rfl, Nat.le_of_ble_eq_true rfl⟩ rfl rfl h_a0 (q := (RCw, TCw, 20)) rfl rfl hl.1 rfl (Nat.le_of_ble_eq_true rfl) rfl hr_481 d_Law_1601 (fun r_474 y_476 s_475 d_477 e_478 H locs h hP hD hS => ?_)
          obtain ⟨hd, h⟩ := h
          refine lv_pop G.1 G.2.1 d_Law_1604 rfl ?_
          refine lv_aload_n G.1 G.2.1 d_Law_1605 rfl (lv_at hl 2 rfl) ?_
          obtain ⟨mc_487, ms_488, hr_489, h⟩ := h
          refine uxVi (As := []) (rest := []) G hP hD hS (cx_Mo_least l D g ad mc_487 ms_488 y_476 _ _ s_475 76 H.size (us H) h_a76 h) (fun _ h => absurd h List.not_mem_nil) w9_Mo_least q4255 ⟨Nat.le_of_ble_eq_true rfl, Nat.le_of_ble_eq_true rfl⟩ rfl rfl h_a76 (q := (RMo, TMo, 131)) rfl rfl hl.1 rfl (Nat.le_of_ble_eq_true rfl) rfl hr_489 d_Law_1606 (fun y_484 s_483 d_485 e_486 H locs q9 ce h hP hD hS hce hcv hcl => ?_) (fun r_482 y_484 s_483 d_485 e_486 H locs h hP hD hS => ?_)
          · skip
            exact h.elim
          obtain ⟨hd, h⟩ := h
          refine lv_pop G.1 G.2.1 d_Law_1609 rfl ?_
          refine lv_goto (tgt := 1768) G.1 G.2.1 d_Law_1610 (by decide) ?_
          exact J_1768 y_484 s_483 (d_h18 + d_477 + d_485) (e_h18 + e_478 + e_486) x3h18 H locs h hP hD hS ls (lv_sub hl [0, 1, 2, 3] rfl)
        replace h := h.2 e33_38
        by_cases e33_39 : (x_1 &&& 63) = 39
        · skip
          have h := h.1 e33_39
          refine lv_tableIn (off := 1580) (tgt := 1613) G.1 G.2.1 d_Law_33 (by rw [e33_39]; decide) (by rw [e33_39]; decide) (by rw [e33_39]; rfl) (by decide) ?_
          refine lv_aload_n G.1 G.2.1 d_Law_1613 rfl (lv_at hl 1 rfl) ?_
          obtain ⟨mc_495, ms_496, hr_497, h⟩ := h
          refine utVi (As := []) (rest := []) G hP hD hS (ca_Cw_fewest l D g F sl hF ad mc_495 ms_496 y_h18 _ s_h18 0 H.size (us H) h_a0 h) w9_Cw_fewest q2525 ⟨Nat.le_of_ble_eq_true rfl, Nat.le_of_ble_eq_true rfl⟩ rfl rfl h_a0 (q := (RCw, TCw, 20)) rfl rfl hl.1 rfl (Nat.le_of_ble_eq_true rfl) rfl hr_497 d_Law_1614 (fun r_490 y_492 s_491 d_493 e_494 H locs h hP hD hS => ?_)
          obtain ⟨hd, h⟩ := h
          refine lv_pop G.1 G.2.1 d_Law_1617 rfl ?_
          refine lv_aload_n G.1 G.2.1 d_Law_1618 rfl (lv_at hl 2 rfl) ?_
          obtain ⟨mc_503, ms_504, hr_505, h⟩ := h
          refine uxVi (As := []) (rest := []) G hP hD hS (cx_Mo_fewest l D g ad mc_503 ms_504 y_492 _ _ s_491 76 H.size (us H) h_a76 h) (fun _ h => absurd h List.not_mem_nil) w9_Mo_fewest q4263 ⟨Nat.le_of_ble_eq_true rfl, Nat.le_of_ble_eq_true rfl⟩ rfl rfl h_a76 (q := (RMo, TMo, 131)) rfl rfl hl.1 rfl (Nat.le_of_ble_eq_true rfl) rfl hr_505 d_Law_1619 (fun y_500 s_499 d_501 e_502 H locs q9 ce h hP hD hS hce hcv hcl => ?_) (fun r_498 y_500 s_499 d_501 e_502 H locs h hP hD hS => ?_)
          · skip
            exact h.elim
          obtain ⟨hd, h⟩ := h
          refine lv_pop G.1 G.2.1 d_Law_1622 rfl ?_
          refine lv_goto (tgt := 1768) G.1 G.2.1 d_Law_1623 (by decide) ?_
          exact J_1768 y_500 s_499 (d_h18 + d_493 + d_501) (e_h18 + e_494 + e_502) x3h18 H locs h hP hD hS ls (lv_sub hl [0, 1, 2, 3] rfl)
        replace h := h.2 e33_39
        by_cases e33_40 : (x_1 &&& 63) = 40
        · skip
          have h := h.1 e33_40
          refine lv_tableIn (off := 1593) (tgt := 1626) G.1 G.2.1 d_Law_33 (by rw [e33_40]; decide) (by rw [e33_40]; decide) (by rw [e33_40]; rfl) (by decide) ?_
          refine lv_aload_n G.1 G.2.1 d_Law_1626 rfl (lv_at hl 1 rfl) ?_
          refine lv_aload_n G.1 G.2.1 d_Law_1627 rfl (lv_at hl 0 rfl) ?_
          refine lv_iload_n G.1 G.2.1 d_Law_1628 rfl (lv_at hl 3 rfl) ?_
          refine lv_iconst (v := 1) G.1 G.2.1 d_Law_1629 (by decide) ?_
          refine lv_iadd G.1 G.2.1 d_Law_1630 ?_
          refine usld G hX hbl hbA hS h d_Law_1631 (fun x_506 h => ?_)
          refine lv_aload_n G.1 G.2.1 d_Law_1632 rfl (lv_at hl 0 rfl) ?_
          refine lv_iload_n G.1 G.2.1 d_Law_1633 rfl (lv_at hl 3 rfl) ?_
          refine lv_iconst (v := 2) G.1 G.2.1 d_Law_1634 (by decide) ?_
          refine lv_iadd G.1 G.2.1 d_Law_1635 ?_
          refine usld G hX hbl hbA hS h d_Law_1636 (fun x_507 h => ?_)
          refine W.eq (g2 := F0 m 1637 ls [.int x_507, .int x_506, .ref (ad 0)]) rfl ?_
          obtain ⟨mc_513, ms_514, hr_515, h⟩ := h
          refine utVi (As := [.int x_506, .int x_507]) (rest := []) G hP hD hS (ca_Cw_shrink l D g F sl hF ad mc_513 ms_514 y_h18 _ s_h18 0 x_506 x_507 H.size (us H) h_a0 h) w9_Cw_shrink q2538 ⟨Nat.le_of_ble_eq_true rfl, Nat.le_of_ble_eq_true rfl⟩ rfl rfl h_a0 (q := (RCw, TCw, 20)) rfl rfl hl.1 rfl (Nat.le_of_ble_eq_true rfl) rfl hr_515 d_Law_1637 (fun r_508 y_510 s_509 d_511 e_512 H locs h hP hD hS => ?_)
          obtain ⟨hd, h⟩ := h
          refine lv_pop G.1 G.2.1 d_Law_1640 rfl ?_
          refine lv_aload_n G.1 G.2.1 d_Law_1641 rfl (lv_at hl 2 rfl) ?_
          refine lv_aload_n G.1 G.2.1 d_Law_1642 rfl (lv_at hl 0 rfl) ?_
          refine lv_iload_n G.1 G.2.1 d_Law_1643 rfl (lv_at hl 3 rfl) ?_
          refine lv_iconst (v := 1) G.1 G.2.1 d_Law_1644 (by decide) ?_
          refine lv_iadd G.1 G.2.1 d_Law_1645 ?_
          refine usld G hX hbl hbA hS h d_Law_1646 (fun x_516 h => ?_)
          refine lv_aload_n G.1 G.2.1 d_Law_1647 rfl (lv_at hl 0 rfl) ?_
          refine lv_iload_n G.1 G.2.1 d_Law_1648 rfl (lv_at hl 3 rfl) ?_
          refine lv_iconst (v := 2) G.1 G.2.1 d_Law_1649 (by decide) ?_
          refine lv_iadd G.1 G.2.1 d_Law_1650 ?_
          refine W.eq (g2 := F0 m 1651 ls [.int (x3h18 + 2), .ref bS, .int x_516, .ref (ad 76)]) rfl ?_
          refine usld G hX hbl hbA hS h d_Law_1651 (fun x_517 h => ?_)
          obtain ⟨mc_523, ms_524, hr_525, h⟩ := h
          refine uxVi (As := [.int x_516, .int x_517]) (rest := []) G hP hD hS (cx_Mo_shrink l D g ad mc_523 ms_524 y_510 _ _ s_509 76 x_516 x_517 H.size (us H) h_a76 h) (fun _ h => absurd h List.not_mem_nil) w9_Mo_shrink q4271 ⟨Nat.le_of_ble_eq_true rfl, Nat.le_of_ble_eq_true rfl⟩ rfl rfl h_a76 (q := (RMo, TMo, 131)) rfl rfl hl.1 rfl (Nat.le_of_ble_eq_true rfl) rfl hr_525 d_Law_1652 (fun y_520 s_519 d_521 e_522 H locs q9 ce h hP hD hS hce hcv hcl => ?_) (fun r_518 y_520 s_519 d_521 e_522 H locs h hP hD hS => ?_)
          · skip
            exact h.elim
          obtain ⟨hd, h⟩ := h
          refine lv_pop G.1 G.2.1 d_Law_1655 rfl ?_
          refine lv_goto (tgt := 1768) G.1 G.2.1 d_Law_1656 (by decide) ?_
          exact J_1768 y_520 s_519 (d_h18 + d_511 + d_521) (e_h18 + e_512 + e_522) x3h18 H locs h hP hD hS ls (lv_sub hl [0, 1, 2, 3] rfl)
        replace h := h.2 e33_40
        by_cases e33_41 : (x_1 &&& 63) = 41
        · skip
          have h := h.1 e33_41
          refine lv_tableIn (off := 1626) (tgt := 1659) G.1 G.2.1 d_Law_33 (by rw [e33_41]; decide) (by rw [e33_41]; decide) (by rw [e33_41]; rfl) (by decide) ?_
          refine lv_aload_n G.1 G.2.1 d_Law_1659 rfl (lv_at hl 1 rfl) ?_
          refine lv_aload_n G.1 G.2.1 d_Law_1660 rfl (lv_at hl 0 rfl) ?_
          refine lv_iload_n G.1 G.2.1 d_Law_1661 rfl (lv_at hl 3 rfl) ?_
          refine lv_iconst (v := 1) G.1 G.2.1 d_Law_1662 (by decide) ?_
          refine lv_iadd G.1 G.2.1 d_Law_1663 ?_
          refine usld G hX hbl hbA hS h d_Law_1664 (fun x_526 h => ?_)
          refine lv_aload_n G.1 G.2.1 d_Law_1665 rfl (lv_at hl 0 rfl) ?_
          refine lv_iload_n G.1 G.2.1 d_Law_1666 rfl (lv_at hl 3 rfl) ?_
          refine lv_iconst (v := 2) G.1 G.2.1 d_Law_1667 (by decide) ?_
          refine lv_iadd G.1 G.2.1 d_Law_1668 ?_
          refine usld G hX hbl hbA hS h d_Law_1669 (fun x_527 h => ?_)
          refine W.eq (g2 := F0 m 1670 ls [.int x_527, .int x_526, .ref (ad 0)]) rfl ?_
          refine lv_aload_n G.1 G.2.1 d_Law_1670 rfl (lv_at hl 0 rfl) ?_
          refine lv_iload_n G.1 G.2.1 d_Law_1671 rfl (lv_at hl 3 rfl) ?_
          refine lv_iconst (v := 3) G.1 G.2.1 d_Law_1672 (by decide) ?_
          refine lv_iadd G.1 G.2.1 d_Law_1673 ?_
          refine usld G hX hbl hbA hS h d_Law_1674 (fun x_528 h => ?_)
          refine lv_aload_n G.1 G.2.1 d_Law_1675 rfl (lv_at hl 0 rfl) ?_
          refine lv_iload_n G.1 G.2.1 d_Law_1676 rfl (lv_at hl 3 rfl) ?_
          refine lv_iconst (v := 4) G.1 G.2.1 d_Law_1677 (by decide) ?_
          refine lv_iadd G.1 G.2.1 d_Law_1678 ?_
          refine usld G hX hbl hbA hS h d_Law_1679 (fun x_529 h => ?_)
          refine ucVi (As := [.int x_526, .int x_527, .int x_528, .int x_529]) (rest := []) G hP hD hS (cu_Cw_change l D g ad y_h18 _ s_h18 0 x_526 x_527 x_528 x_529 H.size h_a0 h) w9_Cw_change q2554 ⟨Nat.le_of_ble_eq_true rfl, Nat.le_of_ble_eq_true rfl⟩ rfl rfl h_a0 (q := (RCw, TCw, 20)) rfl rfl hl.1 rfl (Nat.le_of_ble_eq_true rfl) rfl hd d_Law_1680 (fun r_530 s_531 H locs h hP hD hS => ?_)
          refine lv_pop G.1 G.2.1 d_Law_1683 rfl ?_
          refine W.eq (g2 := F0 m 1684 ls []) rfl ?_
          refine lv_aload_n G.1 G.2.1 d_Law_1684 rfl (lv_at hl 2 rfl) ?_
          refine lv_aload_n G.1 G.2.1 d_Law_1685 rfl (lv_at hl 0 rfl) ?_
          refine lv_iload_n G.1 G.2.1 d_Law_1686 rfl (lv_at hl 3 rfl) ?_
          refine lv_iconst (v := 1) G.1 G.2.1 d_Law_1687 (by decide) ?_
          refine lv_iadd G.1 G.2.1 d_Law_1688 ?_
          refine usld G hX hbl hbA hS h d_Law_1689 (fun x_532 h => ?_)
          refine lv_aload_n G.1 G.2.1 d_Law_1690 rfl (lv_at hl 0 rfl) ?_
          refine lv_iload_n G.1 G.2.1 d_Law_1691 rfl (lv_at hl 3 rfl) ?_
          refine lv_iconst (v := 2) G.1 G.2.1 d_Law_1692 (by decide) ?_
          refine lv_iadd G.1 G.2.1 d_Law_1693 ?_
          refine usld G hX hbl hbA hS h d_Law_1694 (fun x_533 h => ?_)
          refine lv_aload_n G.1 G.2.1 d_Law_1695 rfl (lv_at hl 0 rfl) ?_
          refine W.eq (g2 := F0 m 1696 ls [.ref bS, .int x_533, .int x_532, .ref (ad 76)]) rfl ?_
          refine lv_iload_n G.1 G.2.1 d_Law_1696 rfl (lv_at hl 3 rfl) ?_
          refine lv_iconst (v := 3) G.1 G.2.1 d_Law_1697 (by decide) ?_
          refine lv_iadd G.1 G.2.1 d_Law_1698 ?_
          refine usld G hX hbl hbA hS h d_Law_1699 (fun x_534 h => ?_)
          refine lv_aload_n G.1 G.2.1 d_Law_1700 rfl (lv_at hl 0 rfl) ?_
          refine lv_iload_n G.1 G.2.1 d_Law_1701 rfl (lv_at hl 3 rfl) ?_
          refine lv_iconst (v := 4) G.1 G.2.1 d_Law_1702 (by decide) ?_
          refine lv_iadd G.1 G.2.1 d_Law_1703 ?_
          refine usld G hX hbl hbA hS h d_Law_1704 (fun x_535 h => ?_)
          refine ucVi (As := [.int x_532, .int x_533, .int x_534, .int x_535]) (rest := []) G hP hD hS (cu_Mo_change l D g ad y_h18 _ s_531 76 x_532 x_533 x_534 x_535 H.size h_a76 h) w9_Mo_change q4283 ⟨Nat.le_of_ble_eq_true rfl, Nat.le_of_ble_eq_true rfl⟩ rfl rfl h_a76 (q := (RMo, TMo, 131)) rfl rfl hl.1 rfl (Nat.le_of_ble_eq_true rfl) rfl hd d_Law_1705 (fun r_536 s_537 H locs h hP hD hS => ?_)
          refine lv_pop G.1 G.2.1 d_Law_1708 rfl ?_
          refine lv_goto (tgt := 1768) G.1 G.2.1 d_Law_1709 (by decide) ?_
          exact J_1768 y_h18 s_537 d_h18 e_h18 x3h18 H locs h hP hD hS ls (lv_sub hl [0, 1, 2, 3] rfl)
        replace h := h.2 e33_41
        by_cases e33_42 : (x_1 &&& 63) = 42
        · skip
          have h := h.1 e33_42
          refine lv_tableIn (off := 1679) (tgt := 1712) G.1 G.2.1 d_Law_33 (by rw [e33_42]; decide) (by rw [e33_42]; decide) (by rw [e33_42]; rfl) (by decide) ?_
          refine lv_aload_n G.1 G.2.1 d_Law_1712 rfl (lv_at hl 1 rfl) ?_
          refine lv_aload_n G.1 G.2.1 d_Law_1713 rfl (lv_at hl 0 rfl) ?_
          refine lv_iload_n G.1 G.2.1 d_Law_1714 rfl (lv_at hl 3 rfl) ?_
          refine lv_iconst (v := 1) G.1 G.2.1 d_Law_1715 (by decide) ?_
          refine lv_iadd G.1 G.2.1 d_Law_1716 ?_
          refine usld G hX hbl hbA hS h d_Law_1717 (fun x_538 h => ?_)
          refine lv_aload_n G.1 G.2.1 d_Law_1718 rfl (lv_at hl 0 rfl) ?_
          refine lv_iload_n G.1 G.2.1 d_Law_1719 rfl (lv_at hl 3 rfl) ?_
          refine lv_iconst (v := 2) G.1 G.2.1 d_Law_1720 (by decide) ?_
          refine lv_iadd G.1 G.2.1 d_Law_1721 ?_
          refine usld G hX hbl hbA hS h d_Law_1722 (fun x_539 h => ?_)
          refine W.eq (g2 := F0 m 1723 ls [.int x_539, .int x_538, .ref (ad 0)]) rfl ?_
          refine ucVi (As := [.int x_538, .int x_539]) (rest := []) G hP hD hS (cu_Cw_text l D g ad y_h18 _ s_h18 0 x_538 x_539 H.size h_a0 h) w9_Cw_text q2562 ⟨Nat.le_of_ble_eq_true rfl, Nat.le_of_ble_eq_true rfl⟩ rfl rfl h_a0 (q := (RCw, TCw, 20)) rfl rfl hl.1 rfl (Nat.le_of_ble_eq_true rfl) rfl hd d_Law_1723 (fun r_540 s_541 H locs h hP hD hS => ?_)
          refine lv_pop G.1 G.2.1 d_Law_1726 rfl ?_
          refine lv_aload_n G.1 G.2.1 d_Law_1727 rfl (lv_at hl 2 rfl) ?_
          refine lv_aload_n G.1 G.2.1 d_Law_1728 rfl (lv_at hl 0 rfl) ?_
          refine lv_iload_n G.1 G.2.1 d_Law_1729 rfl (lv_at hl 3 rfl) ?_
          refine lv_iconst (v := 1) G.1 G.2.1 d_Law_1730 (by decide) ?_
          refine lv_iadd G.1 G.2.1 d_Law_1731 ?_
          refine usld G hX hbl hbA hS h d_Law_1732 (fun x_542 h => ?_)
          refine lv_aload_n G.1 G.2.1 d_Law_1733 rfl (lv_at hl 0 rfl) ?_
          refine lv_iload_n G.1 G.2.1 d_Law_1734 rfl (lv_at hl 3 rfl) ?_
          refine lv_iconst (v := 2) G.1 G.2.1 d_Law_1735 (by decide) ?_
          refine lv_iadd G.1 G.2.1 d_Law_1736 ?_
          refine W.eq (g2 := F0 m 1737 ls [.int (x3h18 + 2), .ref bS, .int x_542, .ref (ad 76)]) rfl ?_
          refine usld G hX hbl hbA hS h d_Law_1737 (fun x_543 h => ?_)
          refine ucVi (As := [.int x_542, .int x_543]) (rest := []) G hP hD hS (cu_Mo_text l D g ad y_h18 _ s_541 76 x_542 x_543 H.size h_a76 h) w9_Mo_text q4287 ⟨Nat.le_of_ble_eq_true rfl, Nat.le_of_ble_eq_true rfl⟩ rfl rfl h_a76 (q := (RMo, TMo, 131)) rfl rfl hl.1 rfl (Nat.le_of_ble_eq_true rfl) rfl hd d_Law_1738 (fun r_544 s_545 H locs h hP hD hS => ?_)
          refine lv_pop G.1 G.2.1 d_Law_1741 rfl ?_
          refine lv_goto (tgt := 1768) G.1 G.2.1 d_Law_1742 (by decide) ?_
          exact J_1768 y_h18 s_545 d_h18 e_h18 x3h18 H locs h hP hD hS ls (lv_sub hl [0, 1, 2, 3] rfl)
        replace h := h.2 e33_42
        by_cases e33_43 : (x_1 &&& 63) = 43
        · skip
          have h := h.1 e33_43
          refine lv_tableIn (off := 1712) (tgt := 1745) G.1 G.2.1 d_Law_33 (by rw [e33_43]; decide) (by rw [e33_43]; decide) (by rw [e33_43]; rfl) (by decide) ?_
          refine lv_aload_n G.1 G.2.1 d_Law_1745 rfl (lv_at hl 1 rfl) ?_
          refine lv_aload_n G.1 G.2.1 d_Law_1746 rfl (lv_at hl 0 rfl) ?_
          refine lv_iload_n G.1 G.2.1 d_Law_1747 rfl (lv_at hl 3 rfl) ?_
          refine lv_iconst (v := 1) G.1 G.2.1 d_Law_1748 (by decide) ?_
          refine lv_iadd G.1 G.2.1 d_Law_1749 ?_
          refine usld G hX hbl hbA hS h d_Law_1750 (fun x_546 h => ?_)
          refine ucVi (As := [.int x_546]) (rest := []) G hP hD hS (cu_Cw_count l D g ad y_h18 _ s_h18 0 x_546 H.size h_a0 h) w9_Cw_count q2566 ⟨Nat.le_of_ble_eq_true rfl, Nat.le_of_ble_eq_true rfl⟩ rfl rfl h_a0 (q := (RCw, TCw, 20)) rfl rfl hl.1 rfl (Nat.le_of_ble_eq_true rfl) rfl hd d_Law_1751 (fun r_547 s_548 H locs h hP hD hS => ?_)
          refine lv_pop G.1 G.2.1 d_Law_1754 rfl ?_
          refine lv_aload_n G.1 G.2.1 d_Law_1755 rfl (lv_at hl 2 rfl) ?_
          refine lv_aload_n G.1 G.2.1 d_Law_1756 rfl (lv_at hl 0 rfl) ?_
          refine lv_iload_n G.1 G.2.1 d_Law_1757 rfl (lv_at hl 3 rfl) ?_
          refine W.eq (g2 := F0 m 1758 ls [.int x3h18, .ref bS, .ref (ad 76)]) rfl ?_
          refine lv_iconst (v := 1) G.1 G.2.1 d_Law_1758 (by decide) ?_
          refine lv_iadd G.1 G.2.1 d_Law_1759 ?_
          refine usld G hX hbl hbA hS h d_Law_1760 (fun x_549 h => ?_)
          refine ucVi (As := [.int x_549]) (rest := []) G hP hD hS (cu_Mo_count l D g ad y_h18 _ s_548 76 x_549 H.size h_a76 h) w9_Mo_count q4291 ⟨Nat.le_of_ble_eq_true rfl, Nat.le_of_ble_eq_true rfl⟩ rfl rfl h_a76 (q := (RMo, TMo, 131)) rfl rfl hl.1 rfl (Nat.le_of_ble_eq_true rfl) rfl hd d_Law_1761 (fun r_550 s_551 H locs h hP hD hS => ?_)
          refine lv_pop G.1 G.2.1 d_Law_1764 rfl ?_
          refine lv_goto (tgt := 1768) G.1 G.2.1 d_Law_1765 (by decide) ?_
          exact J_1768 y_h18 s_551 d_h18 e_h18 x3h18 H locs h hP hD hS ls (lv_sub hl [0, 1, 2, 3] rfl)
        replace h := h.2 e33_43
        have te33_0 := lv_neT (a := 0) e33_0 (by decide)
        have te33_1 := lv_neT (a := 1) e33_1 (by decide)
        have te33_2 := lv_neT (a := 2) e33_2 (by decide)
        have te33_3 := lv_neT (a := 3) e33_3 (by decide)
        have te33_4 := lv_neT (a := 4) e33_4 (by decide)
        have te33_5 := lv_neT (a := 5) e33_5 (by decide)
        have te33_6 := lv_neT (a := 6) e33_6 (by decide)
        have te33_7 := lv_neT (a := 7) e33_7 (by decide)
        have te33_8 := lv_neT (a := 8) e33_8 (by decide)
        have te33_9 := lv_neT (a := 9) e33_9 (by decide)
        have te33_10 := lv_neT (a := 10) e33_10 (by decide)
        have te33_11 := lv_neT (a := 11) e33_11 (by decide)
        have te33_12 := lv_neT (a := 12) e33_12 (by decide)
        have te33_13 := lv_neT (a := 13) e33_13 (by decide)
        have te33_14 := lv_neT (a := 14) e33_14 (by decide)
        have te33_15 := lv_neT (a := 15) e33_15 (by decide)
        have te33_16 := lv_neT (a := 16) e33_16 (by decide)
        have te33_17 := lv_neT (a := 17) e33_17 (by decide)
        have te33_18 := lv_neT (a := 18) e33_18 (by decide)
        have te33_19 := lv_neT (a := 19) e33_19 (by decide)
        have te33_20 := lv_neT (a := 20) e33_20 (by decide)
        have te33_21 := lv_neT (a := 21) e33_21 (by decide)
        have te33_22 := lv_neT (a := 22) e33_22 (by decide)
        have te33_23 := lv_neT (a := 23) e33_23 (by decide)
        have te33_24 := lv_neT (a := 24) e33_24 (by decide)
        have te33_25 := lv_neT (a := 25) e33_25 (by decide)
        have te33_26 := lv_neT (a := 26) e33_26 (by decide)
        have te33_27 := lv_neT (a := 27) e33_27 (by decide)
        have te33_28 := lv_neT (a := 28) e33_28 (by decide)
        have te33_29 := lv_neT (a := 29) e33_29 (by decide)
        have te33_30 := lv_neT (a := 30) e33_30 (by decide)
        have te33_31 := lv_neT (a := 31) e33_31 (by decide)
        have te33_32 := lv_neT (a := 32) e33_32 (by decide)
        have te33_33 := lv_neT (a := 33) e33_33 (by decide)
        have te33_34 := lv_neT (a := 34) e33_34 (by decide)
        have te33_35 := lv_neT (a := 35) e33_35 (by decide)
        have te33_36 := lv_neT (a := 36) e33_36 (by decide)
        have te33_37 := lv_neT (a := 37) e33_37 (by decide)
        have te33_38 := lv_neT (a := 38) e33_38 (by decide)
        have te33_39 := lv_neT (a := 39) e33_39 (by decide)
        have te33_40 := lv_neT (a := 40) e33_40 (by decide)
        have te33_41 := lv_neT (a := 41) e33_41 (by decide)
        have te33_42 := lv_neT (a := 42) e33_42 (by decide)
        have te33_43 := lv_neT (a := 43) e33_43 (by decide)
        refine lv_tableOut (tgt := 1768) G.1 G.2.1 d_Law_33 (by omega) (by decide) ?_
        exact J_1768 y_h18 s_h18 d_h18 e_h18 x3h18 H locs h hP hD hS ls (lv_sub hl [0, 1, 2, 3] rfl)
  exact L_18 _ y σ k0 n0 0 (Nat.lt_succ_self _) hI_18 H locs hP hD hS ls (lv_sub hl [0, 1, 2, 3] rfl)
