def lw_flat : List Cond := flatC (Jvm.Cond.and given_1 narrow_1)
theorem arr_of {s : State} {args : Array Value} {ty : FieldType} (h : (Cond.arrayClass ty).before args s = true) (hp : ∀ C, ty ≠ .object C) : ∃ cA : ClassId, ArrOfT s cA ty ∧ va_RA s cA ty := by
  obtain ⟨c, k, comp, h1, h2, h3⟩ := Cond.arrayClass_spec h
  refine ⟨c, fun n z => ⟨fun k h => (by cases h), k, h2, comp, h3⟩, ?_⟩
  cases ty with
  | object C => exact absurd rfl (hp C)
  | _ => exact h1
theorem arrq_of {s : State} {args : Array Value} {C : String} (h : (Cond.arrayOver (.object C)).before args s = true) : ∃ cA : ClassId, ArrOfT s cA (.object C) ∧ va_RA s cA (.object C) := by
  obtain ⟨comp, c, k, h1, -, h2, h3, h4⟩ := Cond.arrayOver_spec h
  exact ⟨c, fun n z => ⟨fun k h => (by cases h), k, h2, comp, h3⟩, k, comp, h2, h3, h1, h4⟩
theorem strx {s : State} {args : Array Value} (hs : ∀ w ∈ lw_flat, w.before args s = true) {A : Nat → Prop} (hA : ∀ a : Nat, a < s.heap.size → ¬ A a) (own : String) (k : Nat) (tx : String) (byt : List Int32) (i0 : Nat) (href : (Cond.stringRef own k tx).before args s = true) (hlen : byt.length < 2 ^ 31)
    (h0 : lw_flat[i0]? = some (.exactly (.string own k) "java/lang/String")) (h1 : lw_flat[i0 + 1]? = some (.eq (.field (.string own k) "java/lang/String" "coder" "B") (.int 0))) (h2 : lw_flat[i0 + 2]? = some (.arrayOf (.field (.string own k) "java/lang/String" "value" "[B") .byte)) (h3 : lw_flat[i0 + 3]? = some (.eq (.length (.field (.string own k) "java/lang/String" "value" "[B")) (.int (Int32.ofNat byt.length))))
    (h4 : (lw_flat.drop (i0 + 4)).take byt.length = (List.range byt.length).map (fun j => Cond.eq (.elem (.field (.string own k) "java/lang/String" "value" "[B") (.int (Int32.ofNat j))) (.int (byt.getD j 0)))) :
    ∃ ka va : Nat, S1 (own, k, tx, ka, va, byt) A s s.heap := by
  have g0 := hs _ (List.mem_of_getElem? h0)
  have g1 := hs _ (List.mem_of_getElem? h1)
  have g2 := hs _ (List.mem_of_getElem? h2)
  have g3 := hs _ (List.mem_of_getElem? h3)
  have g4 : ∀ j : Nat, j < byt.length → (Cond.eq (.elem (.field (.string own k) "java/lang/String" "value" "[B") (.int (Int32.ofNat j))) (.int (byt.getD j 0))).before args s = true := by
    intro j hj
    have e : Cond.eq (.elem (.field (.string own k) "java/lang/String" "value" "[B") (.int (Int32.ofNat j))) (.int (byt.getD j 0)) ∈ (lw_flat.drop (i0 + 4)).take byt.length := by
      rw [h4]; exact List.mem_map.mpr ⟨j, List.mem_range.mpr hj, rfl⟩
    exact hs _ (List.mem_of_mem_drop (List.mem_of_mem_take e))
  obtain ⟨adK, adV, hS, hev⟩ := vk_Sof (N := 1) (tm := fun _ => .string own k) (len := [byt.length]) (byt := [byt]) (A := A) (s := s) (args := args)
    (fun i hi => by rw [show i = 0 by omega]; exact hlen) (fun i hi => g0) (fun i hi => g1) (fun i hi => g2) (fun i hi => by rw [show i = 0 by omega]; exact g3)
    (fun i hi => by rw [show i = 0 by omega]; exact g4) (fun i j hi hj hij => absurd (by omega) hij) hA
  obtain ⟨q1, q2, q3, q4⟩ := hS.1 0 (by decide)
  exact ⟨adK 0, adV 0, vk_R.of href (hev 0 (by decide)), q1, q2, q3, q4⟩

set_option maxRecDepth 100000 in
set_option maxHeartbeats 4000000 in
theorem lw_know {s : State} {args : Array Value} (hts : ∀ w ∈ lw_tbl, w.before args s = true) : ∃ (D : va_G) (g : Nat → ClassId), va_K D CL (TY g) s := by
  have ht : ∀ w ∈ lw_ok, w.before args s = true := fun w hw => hts w (lw_oksub hw)
  obtain ⟨d0, e0, k0⟩ := u_known (C := RCk) (T := TCk) (N := 22) (n := 22) ht iCk (hts (Cond.instantiable "ClassWorks$Checker" 22) (List.mem_of_getElem? (i := 643) (by decide +kernel)))
  obtain ⟨d1, e1, k1⟩ := u_known (C := RFi) (T := TFi) (N := 10) (n := 10) ht iFi (hts (Cond.instantiable "ClassWorks$Finder" 10) (List.mem_of_getElem? (i := 719) (by decide +kernel)))
  obtain ⟨d2, e2, k2⟩ := u_known (C := RHp) (T := THp) (N := 15) (n := 15) ht iHp (hts (Cond.instantiable "ClassWorks$Heap" 15) (List.mem_of_getElem? (i := 905) (by decide +kernel)))
  obtain ⟨d3, e3, k3⟩ := u_known (C := RIn) (T := TIn) (N := 2) (n := 2) ht iIn (hts (Cond.instantiable "ClassWorks$Ints" 2) (List.mem_of_getElem? (i := 374) (by decide +kernel)))
  obtain ⟨d4, e4, k4⟩ := u_known (C := RMa) (T := TMa) (N := 19) (n := 19) ht iMa (hts (Cond.instantiable "ClassWorks$Machine" 19) (List.mem_of_getElem? (i := 794) (by decide +kernel)))
  obtain ⟨d5, e5, k5⟩ := u_known (C := RNa) (T := TNa) (N := 11) (n := 11) ht iNa (hts (Cond.instantiable "ClassWorks$Names" 11) (List.mem_of_getElem? (i := 368) (by decide +kernel)))
  obtain ⟨d6, e6, k6⟩ := u_known (C := RRe) (T := TRe) (N := 18) (n := 18) ht iRe (hts (Cond.instantiable "ClassWorks$Reader" 18) (List.mem_of_getElem? (i := 578) (by decide +kernel)))
  obtain ⟨d7, e7, k7⟩ := u_known (C := RRu) (T := TRu) (N := 19) (n := 19) ht iRu (hts (Cond.instantiable "ClassWorks$Runner" 19) (List.mem_of_getElem? (i := 969) (by decide +kernel)))
  obtain ⟨d8, e8, k8⟩ := u_known (C := RWo) (T := TWo) (N := 8) (n := 8) ht iWo (hts (Cond.instantiable "ClassWorks$Words" 8) (List.mem_of_getElem? (i := 542) (by decide +kernel)))
  obtain ⟨d9, e9, k9⟩ := u_known (C := RWd) (T := TWd) (N := 17) (n := 17) ht iWd (hts (Cond.instantiable "ClassWorks$World" 17) (List.mem_of_getElem? (i := 796) (by decide +kernel)))
  obtain ⟨d10, e10, k10⟩ := u_known (C := RWr) (T := TWr) (N := 7) (n := 7) ht iWr (hts (Cond.instantiable "ClassWorks$Writer" 7) (List.mem_of_getElem? (i := 764) (by decide +kernel)))
  obtain ⟨d11, e11, k11⟩ := u_known (C := RCw) (T := TCw) (N := 20) (n := 20) ht iCw (hts (Cond.instantiable "ClassWorks" 20) (List.mem_of_getElem? (i := 356) (by decide +kernel)))
  obtain ⟨d12, e12, k12⟩ := u_known (C := RMr) (T := TMr) (N := 23) (n := 23) ht iMr (hts (Cond.instantiable "ClassWorksModel$Run" 23) (List.mem_of_getElem? (i := 2982) (by decide +kernel)))
  obtain ⟨d13, e13, k13⟩ := u_known (C := RMw) (T := TMw) (N := 72) (n := 72) ht iMw (hts (Cond.instantiable "ClassWorksModel$World" 72) (List.mem_of_getElem? (i := 2699) (by decide +kernel)))
  obtain ⟨d14, e14, k14⟩ := u_known (C := RMo) (T := TMo) (N := 131) (n := 131) ht iMo (hts (Cond.instantiable "ClassWorksModel" 131) (List.mem_of_getElem? (i := 2571) (by decide +kernel)))
  obtain ⟨d15, e15, k15⟩ := u_known (C := RIse) (T := TIse) (N := 0) (n := 6) ht (fun w hw => absurd hw (by simp [u_ws])) (hts (Cond.instantiable "java/lang/IllegalStateException" 6) (List.mem_of_getElem? (i := 2634) (by decide +kernel)))
  obtain ⟨c0, r0⟩ := arr_of (ty := .int) (hts (Cond.arrayClass .int) (List.mem_of_getElem? (i := 404) (by decide +kernel))) (fun C h => by cases h)
  obtain ⟨c1, r1⟩ := arr_of (ty := .byte) (hts (Cond.arrayClass .byte) (List.mem_of_getElem? (i := 403) (by decide +kernel))) (fun C h => by cases h)
  obtain ⟨c2, r2⟩ := arr_of (ty := .long) (hts (Cond.arrayClass .long) (List.mem_of_getElem? (i := 899) (by decide +kernel))) (fun C h => by cases h)
  obtain ⟨c3, r3⟩ := arr_of (ty := .boolean) (hts (Cond.arrayClass .boolean) (List.mem_of_getElem? (i := 2980) (by decide +kernel))) (fun C h => by cases h)
  obtain ⟨c4, r4⟩ := arrq_of (C := "ClassWorks$Machine") (hts (Cond.arrayOver (.object "ClassWorks$Machine")) (List.mem_of_getElem? (i := 364) (by decide +kernel)))
  obtain ⟨c5, r5⟩ := arrq_of (C := "ClassWorks$Runner") (hts (Cond.arrayOver (.object "ClassWorks$Runner")) (List.mem_of_getElem? (i := 968) (by decide +kernel)))
  obtain ⟨c6, r6⟩ := arrq_of (C := "ClassWorksModel$World") (hts (Cond.arrayOver (.object "ClassWorksModel$World")) (List.mem_of_getElem? (i := 2632) (by decide +kernel)))
  obtain ⟨c7, r7⟩ := arrq_of (C := "ClassWorksModel$Run") (hts (Cond.arrayOver (.object "ClassWorksModel$Run")) (List.mem_of_getElem? (i := 2705) (by decide +kernel)))
  refine ⟨(fun k => [d0, d1, d2, d3, d4, d5, d6, d7, d8, d9, d10, d11, d12, d13, d14, d15].getD k 0, fun k => [e0, e1, e2, e3, e4, e5, e6, e7, e8, e9, e10, e11, e12, e13, e14, e15].getD k (fun _ => 0)), fun k => [c0, c1, c2, c3, c4, c5, c6, c7].getD k 0, ?_, ?_⟩
  · intro c q hq
    match c, hq with
    | 0, hq => cases hq; exact k0
    | 1, hq => cases hq; exact k1
    | 2, hq => cases hq; exact k2
    | 3, hq => cases hq; exact k3
    | 4, hq => cases hq; exact k4
    | 5, hq => cases hq; exact k5
    | 6, hq => cases hq; exact k6
    | 7, hq => cases hq; exact k7
    | 8, hq => cases hq; exact k8
    | 9, hq => cases hq; exact k9
    | 10, hq => cases hq; exact k10
    | 11, hq => cases hq; exact k11
    | 12, hq => cases hq; exact k12
    | 13, hq => cases hq; exact k13
    | 14, hq => cases hq; exact k14
    | 15, hq => cases hq; exact k15
    | n + 16, hq => exact absurd (show ([] : List vw_C)[n]? = some q from hq) (by simp)
  · intro c q hq
    match c, hq with
    | 0, hq => cases hq; exact r0
    | 1, hq => cases hq; exact r1
    | 2, hq => cases hq; exact r2
    | 3, hq => cases hq; exact r3
    | 4, hq => cases hq; exact r4
    | 5, hq => cases hq; exact r5
    | 6, hq => cases hq; exact r6
    | 7, hq => cases hq; exact r7
    | n + 8, hq => exact absurd (show ([] : List (ClassId × FieldType))[n]? = some q from hq) (by simp)
set_option maxRecDepth 100000 in
theorem sz_Na_52 {s : State} {args : Array Value} (hts : ∀ w ∈ lw_tbl, w.before args s = true) (hs : ∀ w ∈ lw_flat, w.before args s = true) {A : Nat → Prop} (hA : ∀ a : Nat, a < s.heap.size → ¬ A a) : ∃ k v : Nat, S1 (z_Na_52 k v) A s s.heap := by
  exact strx hs hA "ClassWorks$Names" 52 (z_Na_52 0 0).2.2.1 (sb (z_Na_52 0 0)) 94 (hts _ (List.mem_of_getElem? (i := 408) (by decide +kernel))) (by decide +kernel) (by decide +kernel) (by decide +kernel) (by decide +kernel) (by decide +kernel) (by decide +kernel)
set_option maxRecDepth 100000 in
theorem sz_Na_58 {s : State} {args : Array Value} (hts : ∀ w ∈ lw_tbl, w.before args s = true) (hs : ∀ w ∈ lw_flat, w.before args s = true) {A : Nat → Prop} (hA : ∀ a : Nat, a < s.heap.size → ¬ A a) : ∃ k v : Nat, S1 (z_Na_58 k v) A s s.heap := by
  exact strx hs hA "ClassWorks$Names" 58 (z_Na_58 0 0).2.2.1 (sb (z_Na_58 0 0)) 147 (hts _ (List.mem_of_getElem? (i := 489) (by decide +kernel))) (by decide +kernel) (by decide +kernel) (by decide +kernel) (by decide +kernel) (by decide +kernel) (by decide +kernel)
set_option maxRecDepth 100000 in
theorem sz_Na_60 {s : State} {args : Array Value} (hts : ∀ w ∈ lw_tbl, w.before args s = true) (hs : ∀ w ∈ lw_flat, w.before args s = true) {A : Nat → Prop} (hA : ∀ a : Nat, a < s.heap.size → ¬ A a) : ∃ k v : Nat, S1 (z_Na_60 k v) A s s.heap := by
  exact strx hs hA "ClassWorks$Names" 60 (z_Na_60 0 0).2.2.1 (sb (z_Na_60 0 0)) 162 (hts _ (List.mem_of_getElem? (i := 490) (by decide +kernel))) (by decide +kernel) (by decide +kernel) (by decide +kernel) (by decide +kernel) (by decide +kernel) (by decide +kernel)
set_option maxRecDepth 100000 in
theorem sz_Na_62 {s : State} {args : Array Value} (hts : ∀ w ∈ lw_tbl, w.before args s = true) (hs : ∀ w ∈ lw_flat, w.before args s = true) {A : Nat → Prop} (hA : ∀ a : Nat, a < s.heap.size → ¬ A a) : ∃ k v : Nat, S1 (z_Na_62 k v) A s s.heap := by
  exact strx hs hA "ClassWorks$Names" 62 (z_Na_62 0 0).2.2.1 (sb (z_Na_62 0 0)) 246 (hts _ (List.mem_of_getElem? (i := 491) (by decide +kernel))) (by decide +kernel) (by decide +kernel) (by decide +kernel) (by decide +kernel) (by decide +kernel) (by decide +kernel)
set_option maxRecDepth 100000 in
theorem sz_Na_64 {s : State} {args : Array Value} (hts : ∀ w ∈ lw_tbl, w.before args s = true) (hs : ∀ w ∈ lw_flat, w.before args s = true) {A : Nat → Prop} (hA : ∀ a : Nat, a < s.heap.size → ¬ A a) : ∃ k v : Nat, S1 (z_Na_64 k v) A s s.heap := by
  exact strx hs hA "ClassWorks$Names" 64 (z_Na_64 0 0).2.2.1 (sb (z_Na_64 0 0)) 367 (hts _ (List.mem_of_getElem? (i := 492) (by decide +kernel))) (by decide +kernel) (by decide +kernel) (by decide +kernel) (by decide +kernel) (by decide +kernel) (by decide +kernel)
set_option maxRecDepth 100000 in
theorem sz_Na_66 {s : State} {args : Array Value} (hts : ∀ w ∈ lw_tbl, w.before args s = true) (hs : ∀ w ∈ lw_flat, w.before args s = true) {A : Nat → Prop} (hA : ∀ a : Nat, a < s.heap.size → ¬ A a) : ∃ k v : Nat, S1 (z_Na_66 k v) A s s.heap := by
  exact strx hs hA "ClassWorks$Names" 66 (z_Na_66 0 0).2.2.1 (sb (z_Na_66 0 0)) 451 (hts _ (List.mem_of_getElem? (i := 493) (by decide +kernel))) (by decide +kernel) (by decide +kernel) (by decide +kernel) (by decide +kernel) (by decide +kernel) (by decide +kernel)
set_option maxRecDepth 100000 in
theorem sz_Na_68 {s : State} {args : Array Value} (hts : ∀ w ∈ lw_tbl, w.before args s = true) (hs : ∀ w ∈ lw_flat, w.before args s = true) {A : Nat → Prop} (hA : ∀ a : Nat, a < s.heap.size → ¬ A a) : ∃ k v : Nat, S1 (z_Na_68 k v) A s s.heap := by
  exact strx hs hA "ClassWorks$Names" 68 (z_Na_68 0 0).2.2.1 (sb (z_Na_68 0 0)) 558 (hts _ (List.mem_of_getElem? (i := 494) (by decide +kernel))) (by decide +kernel) (by decide +kernel) (by decide +kernel) (by decide +kernel) (by decide +kernel) (by decide +kernel)
set_option maxRecDepth 100000 in
theorem sz_Na_70 {s : State} {args : Array Value} (hts : ∀ w ∈ lw_tbl, w.before args s = true) (hs : ∀ w ∈ lw_flat, w.before args s = true) {A : Nat → Prop} (hA : ∀ a : Nat, a < s.heap.size → ¬ A a) : ∃ k v : Nat, S1 (z_Na_70 k v) A s s.heap := by
  exact strx hs hA "ClassWorks$Names" 70 (z_Na_70 0 0).2.2.1 (sb (z_Na_70 0 0)) 642 (hts _ (List.mem_of_getElem? (i := 495) (by decide +kernel))) (by decide +kernel) (by decide +kernel) (by decide +kernel) (by decide +kernel) (by decide +kernel) (by decide +kernel)
set_option maxRecDepth 100000 in
theorem sz_Mo_140 {s : State} {args : Array Value} (hts : ∀ w ∈ lw_tbl, w.before args s = true) (hs : ∀ w ∈ lw_flat, w.before args s = true) {A : Nat → Prop} (hA : ∀ a : Nat, a < s.heap.size → ¬ A a) : ∃ k v : Nat, S1 (z_Mo_140 k v) A s s.heap := by
  exact strx hs hA "ClassWorksModel" 140 (z_Mo_140 0 0).2.2.1 (sb (z_Mo_140 0 0)) 1531 (hts _ (List.mem_of_getElem? (i := 2576) (by decide +kernel))) (by decide +kernel) (by decide +kernel) (by decide +kernel) (by decide +kernel) (by decide +kernel) (by decide +kernel)
set_option maxRecDepth 100000 in
theorem sz_Mo_146 {s : State} {args : Array Value} (hts : ∀ w ∈ lw_tbl, w.before args s = true) (hs : ∀ w ∈ lw_flat, w.before args s = true) {A : Nat → Prop} (hA : ∀ a : Nat, a < s.heap.size → ¬ A a) : ∃ k v : Nat, S1 (z_Mo_146 k v) A s s.heap := by
  exact strx hs hA "ClassWorksModel" 146 (z_Mo_146 0 0).2.2.1 (sb (z_Mo_146 0 0)) 1541 (hts _ (List.mem_of_getElem? (i := 2599) (by decide +kernel))) (by decide +kernel) (by decide +kernel) (by decide +kernel) (by decide +kernel) (by decide +kernel) (by decide +kernel)
set_option maxRecDepth 100000 in
theorem sz_Mo_148 {s : State} {args : Array Value} (hts : ∀ w ∈ lw_tbl, w.before args s = true) (hs : ∀ w ∈ lw_flat, w.before args s = true) {A : Nat → Prop} (hA : ∀ a : Nat, a < s.heap.size → ¬ A a) : ∃ k v : Nat, S1 (z_Mo_148 k v) A s s.heap := by
  exact strx hs hA "ClassWorksModel" 148 (z_Mo_148 0 0).2.2.1 (sb (z_Mo_148 0 0)) 1552 (hts _ (List.mem_of_getElem? (i := 2600) (by decide +kernel))) (by decide +kernel) (by decide +kernel) (by decide +kernel) (by decide +kernel) (by decide +kernel) (by decide +kernel)
set_option maxRecDepth 100000 in
theorem sz_Mo_156 {s : State} {args : Array Value} (hts : ∀ w ∈ lw_tbl, w.before args s = true) (hs : ∀ w ∈ lw_flat, w.before args s = true) {A : Nat → Prop} (hA : ∀ a : Nat, a < s.heap.size → ¬ A a) : ∃ k v : Nat, S1 (z_Mo_156 k v) A s s.heap := by
  exact strx hs hA "ClassWorksModel" 156 (z_Mo_156 0 0).2.2.1 (sb (z_Mo_156 0 0)) 1767 (hts _ (List.mem_of_getElem? (i := 2605) (by decide +kernel))) (by decide +kernel) (by decide +kernel) (by decide +kernel) (by decide +kernel) (by decide +kernel) (by decide +kernel)
set_option maxRecDepth 100000 in
theorem sz_Mo_161 {s : State} {args : Array Value} (hts : ∀ w ∈ lw_tbl, w.before args s = true) (hs : ∀ w ∈ lw_flat, w.before args s = true) {A : Nat → Prop} (hA : ∀ a : Nat, a < s.heap.size → ¬ A a) : ∃ k v : Nat, S1 (z_Mo_161 k v) A s s.heap := by
  exact strx hs hA "ClassWorksModel" 161 (z_Mo_161 0 0).2.2.1 (sb (z_Mo_161 0 0)) 1776 (hts _ (List.mem_of_getElem? (i := 2606) (by decide +kernel))) (by decide +kernel) (by decide +kernel) (by decide +kernel) (by decide +kernel) (by decide +kernel) (by decide +kernel)
set_option maxRecDepth 100000 in
theorem sz_Mo_166 {s : State} {args : Array Value} (hts : ∀ w ∈ lw_tbl, w.before args s = true) (hs : ∀ w ∈ lw_flat, w.before args s = true) {A : Nat → Prop} (hA : ∀ a : Nat, a < s.heap.size → ¬ A a) : ∃ k v : Nat, S1 (z_Mo_166 k v) A s s.heap := by
  exact strx hs hA "ClassWorksModel" 166 (z_Mo_166 0 0).2.2.1 (sb (z_Mo_166 0 0)) 1785 (hts _ (List.mem_of_getElem? (i := 2607) (by decide +kernel))) (by decide +kernel) (by decide +kernel) (by decide +kernel) (by decide +kernel) (by decide +kernel) (by decide +kernel)
set_option maxRecDepth 100000 in
theorem sz_Mo_171 {s : State} {args : Array Value} (hts : ∀ w ∈ lw_tbl, w.before args s = true) (hs : ∀ w ∈ lw_flat, w.before args s = true) {A : Nat → Prop} (hA : ∀ a : Nat, a < s.heap.size → ¬ A a) : ∃ k v : Nat, S1 (z_Mo_171 k v) A s s.heap := by
  exact strx hs hA "ClassWorksModel" 171 (z_Mo_171 0 0).2.2.1 (sb (z_Mo_171 0 0)) 1797 (hts _ (List.mem_of_getElem? (i := 2608) (by decide +kernel))) (by decide +kernel) (by decide +kernel) (by decide +kernel) (by decide +kernel) (by decide +kernel) (by decide +kernel)
set_option maxRecDepth 100000 in
theorem sz_Mo_176 {s : State} {args : Array Value} (hts : ∀ w ∈ lw_tbl, w.before args s = true) (hs : ∀ w ∈ lw_flat, w.before args s = true) {A : Nat → Prop} (hA : ∀ a : Nat, a < s.heap.size → ¬ A a) : ∃ k v : Nat, S1 (z_Mo_176 k v) A s s.heap := by
  exact strx hs hA "ClassWorksModel" 176 (z_Mo_176 0 0).2.2.1 (sb (z_Mo_176 0 0)) 1805 (hts _ (List.mem_of_getElem? (i := 2609) (by decide +kernel))) (by decide +kernel) (by decide +kernel) (by decide +kernel) (by decide +kernel) (by decide +kernel) (by decide +kernel)
set_option maxRecDepth 100000 in
theorem sz_Mo_181 {s : State} {args : Array Value} (hts : ∀ w ∈ lw_tbl, w.before args s = true) (hs : ∀ w ∈ lw_flat, w.before args s = true) {A : Nat → Prop} (hA : ∀ a : Nat, a < s.heap.size → ¬ A a) : ∃ k v : Nat, S1 (z_Mo_181 k v) A s s.heap := by
  exact strx hs hA "ClassWorksModel" 181 (z_Mo_181 0 0).2.2.1 (sb (z_Mo_181 0 0)) 1814 (hts _ (List.mem_of_getElem? (i := 2610) (by decide +kernel))) (by decide +kernel) (by decide +kernel) (by decide +kernel) (by decide +kernel) (by decide +kernel) (by decide +kernel)
set_option maxRecDepth 100000 in
theorem sz_Mo_186 {s : State} {args : Array Value} (hts : ∀ w ∈ lw_tbl, w.before args s = true) (hs : ∀ w ∈ lw_flat, w.before args s = true) {A : Nat → Prop} (hA : ∀ a : Nat, a < s.heap.size → ¬ A a) : ∃ k v : Nat, S1 (z_Mo_186 k v) A s s.heap := by
  exact strx hs hA "ClassWorksModel" 186 (z_Mo_186 0 0).2.2.1 (sb (z_Mo_186 0 0)) 1824 (hts _ (List.mem_of_getElem? (i := 2611) (by decide +kernel))) (by decide +kernel) (by decide +kernel) (by decide +kernel) (by decide +kernel) (by decide +kernel) (by decide +kernel)
set_option maxRecDepth 100000 in
theorem sz_Mo_191 {s : State} {args : Array Value} (hts : ∀ w ∈ lw_tbl, w.before args s = true) (hs : ∀ w ∈ lw_flat, w.before args s = true) {A : Nat → Prop} (hA : ∀ a : Nat, a < s.heap.size → ¬ A a) : ∃ k v : Nat, S1 (z_Mo_191 k v) A s s.heap := by
  exact strx hs hA "ClassWorksModel" 191 (z_Mo_191 0 0).2.2.1 (sb (z_Mo_191 0 0)) 1835 (hts _ (List.mem_of_getElem? (i := 2612) (by decide +kernel))) (by decide +kernel) (by decide +kernel) (by decide +kernel) (by decide +kernel) (by decide +kernel) (by decide +kernel)
set_option maxRecDepth 100000 in
theorem sz_Mo_195 {s : State} {args : Array Value} (hts : ∀ w ∈ lw_tbl, w.before args s = true) (hs : ∀ w ∈ lw_flat, w.before args s = true) {A : Nat → Prop} (hA : ∀ a : Nat, a < s.heap.size → ¬ A a) : ∃ k v : Nat, S1 (z_Mo_195 k v) A s s.heap := by
  exact strx hs hA "ClassWorksModel" 195 (z_Mo_195 0 0).2.2.1 (sb (z_Mo_195 0 0)) 1843 (hts _ (List.mem_of_getElem? (i := 2613) (by decide +kernel))) (by decide +kernel) (by decide +kernel) (by decide +kernel) (by decide +kernel) (by decide +kernel) (by decide +kernel)
set_option maxRecDepth 100000 in
theorem sz_Mo_200 {s : State} {args : Array Value} (hts : ∀ w ∈ lw_tbl, w.before args s = true) (hs : ∀ w ∈ lw_flat, w.before args s = true) {A : Nat → Prop} (hA : ∀ a : Nat, a < s.heap.size → ¬ A a) : ∃ k v : Nat, S1 (z_Mo_200 k v) A s s.heap := by
  exact strx hs hA "ClassWorksModel" 200 (z_Mo_200 0 0).2.2.1 (sb (z_Mo_200 0 0)) 1852 (hts _ (List.mem_of_getElem? (i := 2614) (by decide +kernel))) (by decide +kernel) (by decide +kernel) (by decide +kernel) (by decide +kernel) (by decide +kernel) (by decide +kernel)
set_option maxRecDepth 100000 in
theorem sz_Mo_205 {s : State} {args : Array Value} (hts : ∀ w ∈ lw_tbl, w.before args s = true) (hs : ∀ w ∈ lw_flat, w.before args s = true) {A : Nat → Prop} (hA : ∀ a : Nat, a < s.heap.size → ¬ A a) : ∃ k v : Nat, S1 (z_Mo_205 k v) A s s.heap := by
  exact strx hs hA "ClassWorksModel" 205 (z_Mo_205 0 0).2.2.1 (sb (z_Mo_205 0 0)) 1863 (hts _ (List.mem_of_getElem? (i := 2615) (by decide +kernel))) (by decide +kernel) (by decide +kernel) (by decide +kernel) (by decide +kernel) (by decide +kernel) (by decide +kernel)
set_option maxRecDepth 100000 in
theorem sz_Mo_210 {s : State} {args : Array Value} (hts : ∀ w ∈ lw_tbl, w.before args s = true) (hs : ∀ w ∈ lw_flat, w.before args s = true) {A : Nat → Prop} (hA : ∀ a : Nat, a < s.heap.size → ¬ A a) : ∃ k v : Nat, S1 (z_Mo_210 k v) A s s.heap := by
  exact strx hs hA "ClassWorksModel" 210 (z_Mo_210 0 0).2.2.1 (sb (z_Mo_210 0 0)) 1870 (hts _ (List.mem_of_getElem? (i := 2616) (by decide +kernel))) (by decide +kernel) (by decide +kernel) (by decide +kernel) (by decide +kernel) (by decide +kernel) (by decide +kernel)
set_option maxRecDepth 100000 in
theorem sz_Mo_215 {s : State} {args : Array Value} (hts : ∀ w ∈ lw_tbl, w.before args s = true) (hs : ∀ w ∈ lw_flat, w.before args s = true) {A : Nat → Prop} (hA : ∀ a : Nat, a < s.heap.size → ¬ A a) : ∃ k v : Nat, S1 (z_Mo_215 k v) A s s.heap := by
  exact strx hs hA "ClassWorksModel" 215 (z_Mo_215 0 0).2.2.1 (sb (z_Mo_215 0 0)) 1877 (hts _ (List.mem_of_getElem? (i := 2617) (by decide +kernel))) (by decide +kernel) (by decide +kernel) (by decide +kernel) (by decide +kernel) (by decide +kernel) (by decide +kernel)
set_option maxRecDepth 100000 in
theorem sz_Mo_220 {s : State} {args : Array Value} (hts : ∀ w ∈ lw_tbl, w.before args s = true) (hs : ∀ w ∈ lw_flat, w.before args s = true) {A : Nat → Prop} (hA : ∀ a : Nat, a < s.heap.size → ¬ A a) : ∃ k v : Nat, S1 (z_Mo_220 k v) A s s.heap := by
  exact strx hs hA "ClassWorksModel" 220 (z_Mo_220 0 0).2.2.1 (sb (z_Mo_220 0 0)) 1885 (hts _ (List.mem_of_getElem? (i := 2618) (by decide +kernel))) (by decide +kernel) (by decide +kernel) (by decide +kernel) (by decide +kernel) (by decide +kernel) (by decide +kernel)
set_option maxRecDepth 100000 in
theorem sz_Mo_225 {s : State} {args : Array Value} (hts : ∀ w ∈ lw_tbl, w.before args s = true) (hs : ∀ w ∈ lw_flat, w.before args s = true) {A : Nat → Prop} (hA : ∀ a : Nat, a < s.heap.size → ¬ A a) : ∃ k v : Nat, S1 (z_Mo_225 k v) A s s.heap := by
  exact strx hs hA "ClassWorksModel" 225 (z_Mo_225 0 0).2.2.1 (sb (z_Mo_225 0 0)) 1894 (hts _ (List.mem_of_getElem? (i := 2619) (by decide +kernel))) (by decide +kernel) (by decide +kernel) (by decide +kernel) (by decide +kernel) (by decide +kernel) (by decide +kernel)
set_option maxRecDepth 100000 in
theorem sz_Mo_230 {s : State} {args : Array Value} (hts : ∀ w ∈ lw_tbl, w.before args s = true) (hs : ∀ w ∈ lw_flat, w.before args s = true) {A : Nat → Prop} (hA : ∀ a : Nat, a < s.heap.size → ¬ A a) : ∃ k v : Nat, S1 (z_Mo_230 k v) A s s.heap := by
  exact strx hs hA "ClassWorksModel" 230 (z_Mo_230 0 0).2.2.1 (sb (z_Mo_230 0 0)) 1904 (hts _ (List.mem_of_getElem? (i := 2620) (by decide +kernel))) (by decide +kernel) (by decide +kernel) (by decide +kernel) (by decide +kernel) (by decide +kernel) (by decide +kernel)
set_option maxRecDepth 100000 in
theorem sz_Mo_235 {s : State} {args : Array Value} (hts : ∀ w ∈ lw_tbl, w.before args s = true) (hs : ∀ w ∈ lw_flat, w.before args s = true) {A : Nat → Prop} (hA : ∀ a : Nat, a < s.heap.size → ¬ A a) : ∃ k v : Nat, S1 (z_Mo_235 k v) A s s.heap := by
  exact strx hs hA "ClassWorksModel" 235 (z_Mo_235 0 0).2.2.1 (sb (z_Mo_235 0 0)) 1911 (hts _ (List.mem_of_getElem? (i := 2621) (by decide +kernel))) (by decide +kernel) (by decide +kernel) (by decide +kernel) (by decide +kernel) (by decide +kernel) (by decide +kernel)
set_option maxRecDepth 100000 in
theorem sz_Mo_240 {s : State} {args : Array Value} (hts : ∀ w ∈ lw_tbl, w.before args s = true) (hs : ∀ w ∈ lw_flat, w.before args s = true) {A : Nat → Prop} (hA : ∀ a : Nat, a < s.heap.size → ¬ A a) : ∃ k v : Nat, S1 (z_Mo_240 k v) A s s.heap := by
  exact strx hs hA "ClassWorksModel" 240 (z_Mo_240 0 0).2.2.1 (sb (z_Mo_240 0 0)) 1918 (hts _ (List.mem_of_getElem? (i := 2622) (by decide +kernel))) (by decide +kernel) (by decide +kernel) (by decide +kernel) (by decide +kernel) (by decide +kernel) (by decide +kernel)
set_option maxRecDepth 100000 in
theorem sz_Mo_269 {s : State} {args : Array Value} (hts : ∀ w ∈ lw_tbl, w.before args s = true) (hs : ∀ w ∈ lw_flat, w.before args s = true) {A : Nat → Prop} (hA : ∀ a : Nat, a < s.heap.size → ¬ A a) : ∃ k v : Nat, S1 (z_Mo_269 k v) A s s.heap := by
  exact strx hs hA "ClassWorksModel" 269 (z_Mo_269 0 0).2.2.1 (sb (z_Mo_269 0 0)) 2223 (hts _ (List.mem_of_getElem? (i := 2672) (by decide +kernel))) (by decide +kernel) (by decide +kernel) (by decide +kernel) (by decide +kernel) (by decide +kernel) (by decide +kernel)
set_option maxRecDepth 100000 in
theorem lw_sc {s : State} {args : Array Value} (hts : ∀ w ∈ lw_tbl, w.before args s = true) (hs : ∀ w ∈ lw_flat, w.before args s = true) {A : Nat → Prop} (hA : ∀ a : Nat, a < s.heap.size → ¬ A a) : SC A s s.heap := by
  refine ⟨va_Zof (hts _ (List.mem_of_getElem? (i := 422) (by decide +kernel))) (hts _ (List.mem_of_getElem? (i := 333) (by decide +kernel))) (va_eqi (hs _ (List.mem_of_getElem? (i := 4) (by decide +kernel)))) hA, va_Zqof (hts _ (List.mem_of_getElem? (i := 438) (by decide +kernel))) (hts _ (List.mem_of_getElem? (i := 335) (by decide +kernel))) (hs _ (List.mem_of_getElem? (i := 5) (by decide +kernel))) hA, vx_Zqof (hts _ (List.mem_of_getElem? (i := 2660) (by decide +kernel))) (hts _ (List.mem_of_getElem? (i := 349) (by decide +kernel))) (hs _ (List.mem_of_getElem? (i := 9) (by decide +kernel))) hA, vx_Zqof (hts _ (List.mem_of_getElem? (i := 2662) (by decide +kernel))) (hts _ (List.mem_of_getElem? (i := 349) (by decide +kernel))) (hs _ (List.mem_of_getElem? (i := 10) (by decide +kernel))) hA⟩

/-! THE CLAIM OUT OF ONE WALK OF THE LAW'S BODY. Your part is whole_start (and what it stands on); all else here is the same for every law, but numbers. -/
def R_law : String := "ClassWorksLaw"
def lw_P (b : Addr) (xs : List Int32) (args : Array Value) (s : State) : Prop := args = #[.ref b] ∧ s.IntsAt b xs ∧ xs.length ≤ 6 ∧ (Jvm.Cond.and given_1 narrow_1).before args s = true
def lw_Q (_ : Array Value) (s : State) (o : Outcome) (t : State) : Prop := o = .returned (some (.int 1)) ∧ Framed s o t [] 600002 7302232
def lw_Z (below : List Frame) (a : Array Value) (s : State) : State → Prop := fun t => ∃ o, t.status = .running ∧ Ended t below o ∧ lw_Q a s o t
/-- the law's own end, with 1 on the stack, nothing written that was there before, its room as the claim has it -/
theorem lw_ret {p : Program} {l : Launch} {e : Env} {s : State} {m : MethodId} {below : List Frame} {meth : Method} {c : Code} {b : Nat} (hx : p.tables.exec = Jvm.exec) (hb : c.code = code) (hr : meth.sig.returnType = ret) (hlocks : meth.locks = false) {pc : Nat} {H : Heap} {ls : Array Slot} (hdg : decode code pc = .ok (.ireturn, 1)) : W p l e room_1 s m #[Value.ref b] below meth c H [] 600002 7302232 (lw_Z below #[Value.ref b] s) (F0 m pc ls [.int 1]) := by
  intro T hT X
  obtain ⟨fs, hret, hrun, hended, hW, hframe⟩ := X.leave (v := some (.int 1)) (hlocks := hlocks) (fun h => by rw [hr] at h; cases h)
  have hmeth' : T.vm.method? m = some meth := X.method'
  refine ⟨T.setFrames fs, ?_, .returned (some (.int 1)), hrun, hended, rfl, ⟨_, rfl⟩, hW, hframe⟩
  jvm_step X.here [X.here.top, hx, hb, hdg, hmeth', hr, ret, narrow_b1]
  (try refine ⟨rfl, ?_⟩); (try refine ⟨rfl, ?_⟩)
  first | (intro acts; rw [hret _ acts rfl rfl rfl]) | rw [hret _ _ rfl rfl rfl]
  exact Steps.refl _
/-- what holds at the law's entry: the machine, the code, the tables' words (any of lw_tbl by 'hts w (by decide +kernel)'), the script of L ints xs at the cell b, what the Statement gives of the start (any of its parts by flat_of_before) -/
def lw_At (p : Program) (s : State) (m : MethodId) (meth : Method) (c : Code) (b L : Nat) (xs : Nat → Int32) : Prop :=
  p.tables.exec = Jvm.exec ∧ c.code = code ∧ meth.sig.returnType = ret ∧ c.maxLocals = 4 ∧ s.vm.findClass R_law = some m.cls ∧ (∀ w ∈ lw_tbl, w.before #[Value.ref b] s = true) ∧ va_X b L xs s s.heap ∧ b < s.heap.size ∧ meth.locks = false ∧ (Jvm.Cond.and given_1 narrow_1).before #[Value.ref b] s = true

theorem q1198 : Cond.code y_Cw_feed b_Cw_feed 6 (some .int) ∈ lw_ok := lw_okmem (List.mem_of_getElem? (i := 1198) (by decide +kernel)) rfl
theorem q1196 : Cond.instanceMethod y_Cw_feed ∈ lw_ok := lw_okmem (List.mem_of_getElem? (i := 1196) (by decide +kernel)) rfl
theorem q1197 : Cond.selects y_Cw_feed.cls y_Cw_feed y_Cw_feed ∈ lw_ok := lw_okmem (List.mem_of_getElem? (i := 1197) (by decide +kernel)) rfl
theorem w_Cw_feed : CWv y_Cw_feed b_Cw_feed 6 (some .int) 5 ∧ Cond.instanceMethod y_Cw_feed ∈ lw_ok ∧ Cond.selects y_Cw_feed.cls y_Cw_feed y_Cw_feed ∈ lw_ok := ⟨⟨q1198, q329, by decide +kernel, by decide +kernel, by decide +kernel⟩, q1196, q1197⟩
theorem q1195 : Cond.methodLink "ClassWorksLaw" 13 y_Cw_feed ∈ lw_ok := lw_okmem (List.mem_of_getElem? (i := 1195) (by decide +kernel)) rfl
theorem q3461 : Cond.code y_Mo_feed b_Mo_feed 6 (some .int) ∈ lw_ok := lw_okmem (List.mem_of_getElem? (i := 3461) (by decide +kernel)) rfl
theorem q3459 : Cond.instanceMethod y_Mo_feed ∈ lw_ok := lw_okmem (List.mem_of_getElem? (i := 3459) (by decide +kernel)) rfl
theorem q3460 : Cond.selects y_Mo_feed.cls y_Mo_feed y_Mo_feed ∈ lw_ok := lw_okmem (List.mem_of_getElem? (i := 3460) (by decide +kernel)) rfl
theorem w_Mo_feed : CWv y_Mo_feed b_Mo_feed 6 (some .int) 5 ∧ Cond.instanceMethod y_Mo_feed ∈ lw_ok ∧ Cond.selects y_Mo_feed.cls y_Mo_feed y_Mo_feed ∈ lw_ok := ⟨⟨q3461, q348, by decide +kernel, by decide +kernel, by decide +kernel⟩, q3459, q3460⟩
theorem q3458 : Cond.methodLink "ClassWorksLaw" 17 y_Mo_feed ∈ lw_ok := lw_okmem (List.mem_of_getElem? (i := 3458) (by decide +kernel)) rfl
theorem d_Law_18 : decode code 18 = .ok (.iload_n 3, 1) := by decide +kernel
theorem d_Law_19 : decode code 19 = .ok (.aload_n 0, 1) := by decide +kernel
theorem d_Law_20 : decode code 20 = .ok (.arraylength, 1) := by decide +kernel
theorem d_Law_21 : decode code 21 = .ok (.bipush 6, 2) := by decide +kernel
theorem d_Law_23 : decode code 23 = .ok (.isub, 1) := by decide +kernel
theorem d_Law_24 : decode code 24 = .ok (.if_icmp .gt 1750, 3) := by decide +kernel
theorem d_Law_224 : decode code 224 = .ok (.aload_n 1, 1) := by decide +kernel
theorem d_Law_225 : decode code 225 = .ok (.aload_n 0, 1) := by decide +kernel
theorem d_Law_226 : decode code 226 = .ok (.iload_n 3, 1) := by decide +kernel
theorem d_Law_227 : decode code 227 = .ok (.iconst 1, 1) := by decide +kernel
theorem d_Law_228 : decode code 228 = .ok (.iadd, 1) := by decide +kernel
theorem d_Law_229 : decode code 229 = .ok (.iaload, 1) := by decide +kernel
theorem d_Law_230 : decode code 230 = .ok (.aload_n 0, 1) := by decide +kernel
theorem d_Law_231 : decode code 231 = .ok (.iload_n 3, 1) := by decide +kernel
theorem d_Law_232 : decode code 232 = .ok (.iconst 2, 1) := by decide +kernel
theorem d_Law_233 : decode code 233 = .ok (.iadd, 1) := by decide +kernel
theorem d_Law_234 : decode code 234 = .ok (.iaload, 1) := by decide +kernel
theorem d_Law_235 : decode code 235 = .ok (.aload_n 0, 1) := by decide +kernel
theorem d_Law_236 : decode code 236 = .ok (.iload_n 3, 1) := by decide +kernel
theorem d_Law_237 : decode code 237 = .ok (.iconst 3, 1) := by decide +kernel
theorem d_Law_238 : decode code 238 = .ok (.iadd, 1) := by decide +kernel
theorem d_Law_239 : decode code 239 = .ok (.iaload, 1) := by decide +kernel
theorem d_Law_240 : decode code 240 = .ok (.aload_n 0, 1) := by decide +kernel
theorem d_Law_241 : decode code 241 = .ok (.iload_n 3, 1) := by decide +kernel
theorem d_Law_242 : decode code 242 = .ok (.iconst 4, 1) := by decide +kernel
theorem d_Law_243 : decode code 243 = .ok (.iadd, 1) := by decide +kernel
theorem d_Law_244 : decode code 244 = .ok (.iaload, 1) := by decide +kernel
theorem d_Law_245 : decode code 245 = .ok (.aload_n 0, 1) := by decide +kernel
theorem d_Law_246 : decode code 246 = .ok (.iload_n 3, 1) := by decide +kernel
theorem d_Law_247 : decode code 247 = .ok (.iconst 5, 1) := by decide +kernel
theorem d_Law_248 : decode code 248 = .ok (.iadd, 1) := by decide +kernel
theorem d_Law_249 : decode code 249 = .ok (.iaload, 1) := by decide +kernel
theorem d_Law_250 : decode code 250 = .ok (.invokevirtual 13, 3) := by decide +kernel
theorem d_Law_253 : decode code 253 = .ok (.aload_n 2, 1) := by decide +kernel
theorem d_Law_254 : decode code 254 = .ok (.aload_n 0, 1) := by decide +kernel
theorem d_Law_255 : decode code 255 = .ok (.iload_n 3, 1) := by decide +kernel
theorem d_Law_256 : decode code 256 = .ok (.iconst 1, 1) := by decide +kernel
theorem d_Law_257 : decode code 257 = .ok (.iadd, 1) := by decide +kernel
theorem d_Law_258 : decode code 258 = .ok (.iaload, 1) := by decide +kernel
theorem d_Law_259 : decode code 259 = .ok (.aload_n 0, 1) := by decide +kernel
theorem d_Law_260 : decode code 260 = .ok (.iload_n 3, 1) := by decide +kernel
theorem d_Law_261 : decode code 261 = .ok (.iconst 2, 1) := by decide +kernel
theorem d_Law_262 : decode code 262 = .ok (.iadd, 1) := by decide +kernel
theorem d_Law_263 : decode code 263 = .ok (.iaload, 1) := by decide +kernel
theorem d_Law_264 : decode code 264 = .ok (.aload_n 0, 1) := by decide +kernel
theorem d_Law_265 : decode code 265 = .ok (.iload_n 3, 1) := by decide +kernel
theorem d_Law_266 : decode code 266 = .ok (.iconst 3, 1) := by decide +kernel
theorem d_Law_267 : decode code 267 = .ok (.iadd, 1) := by decide +kernel
theorem d_Law_268 : decode code 268 = .ok (.iaload, 1) := by decide +kernel
theorem d_Law_269 : decode code 269 = .ok (.aload_n 0, 1) := by decide +kernel
theorem d_Law_270 : decode code 270 = .ok (.iload_n 3, 1) := by decide +kernel
theorem d_Law_271 : decode code 271 = .ok (.iconst 4, 1) := by decide +kernel
theorem d_Law_272 : decode code 272 = .ok (.iadd, 1) := by decide +kernel
theorem d_Law_273 : decode code 273 = .ok (.iaload, 1) := by decide +kernel
theorem d_Law_274 : decode code 274 = .ok (.aload_n 0, 1) := by decide +kernel
theorem d_Law_275 : decode code 275 = .ok (.iload_n 3, 1) := by decide +kernel
theorem d_Law_276 : decode code 276 = .ok (.iconst 5, 1) := by decide +kernel
theorem d_Law_277 : decode code 277 = .ok (.iadd, 1) := by decide +kernel
theorem d_Law_278 : decode code 278 = .ok (.iaload, 1) := by decide +kernel
theorem d_Law_279 : decode code 279 = .ok (.invokevirtual 17, 3) := by decide +kernel
theorem d_Law_282 : decode code 282 = .ok (.if_icmp .eq 1486, 3) := by decide +kernel
theorem d_Law_1768 : decode code 1768 = .ok (.iinc 3 6, 3) := by decide +kernel
theorem d_Law_1771 : decode code 1771 = .ok (.goto (-1753), 3) := by decide +kernel
theorem d_Law_1774 : decode code 1774 = .ok (.iconst 1, 1) := by decide +kernel
theorem d_Law_1775 : decode code 1775 = .ok (.ireturn, 1) := by decide +kernel
set_option maxHeartbeats 4000000 in
set_option maxRecDepth 100000 in
theorem law_feed {p : Program} {e : Env} {s : State} {m : MethodId} {below : List Frame} {meth : Method} {c : Code} {l : Launch} {D : va_G} {g : Nat → ClassId} {sl : List SL} {b : Nat} {xs : Nat → Int32} {A : Nat → Prop} (h0 : Nat) (r_cwords : Nat) (r_creader : Nat) (r_cchecker : Nat) (r_cfinder : Nat) (r_cwriter : Nat) (r_cmachines : Nat) (r_ctape : Nat) (r_cstock : Nat) (r_csizes : Nat) (r_cmet : Nat) (r_cfound : Nat) (r_cdraft : Nat) (r_cfewestFor : Nat) (r_cfewestNext : Nat) (ft : Nat → Int32) (h0X : Nat) (fsX : List Value) (r_otapeX : Nat) (ftX : Nat → Int32) (G : GV l p s m #[Value.ref b] meth c (⟨"ClassWorksLaw", meth.name, ""⟩ : MethodName) code 4 ret g D sl A) (hX : va_X b 6 xs s s.heap) (hbl : b < s.heap.size) (hbA : ¬ A b) (hAA : ∀ q, A q → s.heap.size ≤ q) {H : Heap} {locs : List Loc} {ls : Array Slot} (glenX : fsX.length = 131) (gk0X : fsX[85]? = some (.int (nI 0))) (gk1X : fsX[84]? = some (.ref r_otapeX)) (hP : va_P D CL [(h0, .inr (11, [.ref r_cwords, .ref r_creader, .ref r_cchecker, .ref r_cfinder, .ref r_cwriter, .ref r_cmachines, .ref r_ctape, .int (nI 0), .int (-2), .int (nI 60000), .ref r_cstock, .ref r_csizes, .ref r_cmet, .ref r_cfound, .int (nI 0), .ref r_cdraft, .int (nI 0), .int (nI 0), .ref r_cfewestFor, .ref r_cfewestNext])), (r_ctape, .inl (g 1, 6000, .inl ft)), (h0X, .inr (14, fsX)), (r_otapeX, .inl (g 1, 6000, .inl ftX))] H) (hD : va_D A [(h0, .inr (11, [.ref r_cwords, .ref r_creader, .ref r_cchecker, .ref r_cfinder, .ref r_cwriter, .ref r_cmachines, .ref r_ctape, .int (nI 0), .int (-2), .int (nI 60000), .ref r_cstock, .ref r_csizes, .ref r_cmet, .ref r_cfound, .int (nI 0), .ref r_cdraft, .int (nI 0), .int (nI 0), .ref r_cfewestFor, .ref r_cfewestNext])), (r_ctape, .inl (g 1, 6000, .inl ft)), (h0X, .inr (14, fsX)), (r_otapeX, .inl (g 1, 6000, .inl ftX))]) (hS : va_S A s.heap H locs) (hl : lv_has ls 4 [(0, .ref b), (1, .ref h0), (2, .ref h0X), (3, .int (nI 0))]) : W p l e room_1 s m #[Value.ref b] below meth c H locs 702 488194 (lw_Z below #[Value.ref b] s) (F0 m 224 ls []) := by
  refine lv_aload_n G.1 G.2.1 d_Law_224 rfl (lv_at hl 1 rfl) ?_
  refine lv_aload_n G.1 G.2.1 d_Law_225 rfl (lv_at hl 0 rfl) ?_
  refine lv_iload_n G.1 G.2.1 d_Law_226 rfl (lv_at hl 3 rfl) ?_
  refine lv_iconst (v := nI 1) G.1 G.2.1 d_Law_227 (by decide) ?_
  refine lv_iadd G.1 G.2.1 d_Law_228 ?_
  refine tpi (w := nI 1) (by decide) ?_
  refine va_sld G.1 G.2.1 hX hbl hbA hS (nI_inn (n := 6) (a := 1) (by decide) (by decide)) d_Law_229 ?_
  refine tpi (w := (xs 1)) (by rw [nI_clamp (by decide)]) ?_
  refine lv_aload_n G.1 G.2.1 d_Law_230 rfl (lv_at hl 0 rfl) ?_
  refine lv_iload_n G.1 G.2.1 d_Law_231 rfl (lv_at hl 3 rfl) ?_
  refine lv_iconst (v := nI 2) G.1 G.2.1 d_Law_232 (by decide) ?_
  refine lv_iadd G.1 G.2.1 d_Law_233 ?_
  refine tpi (w := nI 2) (by decide) ?_
  refine va_sld G.1 G.2.1 hX hbl hbA hS (nI_inn (n := 6) (a := 2) (by decide) (by decide)) d_Law_234 ?_
  refine tpi (w := (xs 2)) (by rw [nI_clamp (by decide)]) ?_
  refine W.eq (g2 := F0 m 235 ls [.int (xs 2), .int (xs 1), .ref h0]) rfl ?_
  refine lv_aload_n G.1 G.2.1 d_Law_235 rfl (lv_at hl 0 rfl) ?_
  refine lv_iload_n G.1 G.2.1 d_Law_236 rfl (lv_at hl 3 rfl) ?_
  refine lv_iconst (v := nI 3) G.1 G.2.1 d_Law_237 (by decide) ?_
  refine lv_iadd G.1 G.2.1 d_Law_238 ?_
  refine tpi (w := nI 3) (by decide) ?_
  refine va_sld G.1 G.2.1 hX hbl hbA hS (nI_inn (n := 6) (a := 3) (by decide) (by decide)) d_Law_239 ?_
  refine tpi (w := (xs 3)) (by rw [nI_clamp (by decide)]) ?_
  refine lv_aload_n G.1 G.2.1 d_Law_240 rfl (lv_at hl 0 rfl) ?_
  refine lv_iload_n G.1 G.2.1 d_Law_241 rfl (lv_at hl 3 rfl) ?_
  refine lv_iconst (v := nI 4) G.1 G.2.1 d_Law_242 (by decide) ?_
  refine lv_iadd G.1 G.2.1 d_Law_243 ?_
  refine tpi (w := nI 4) (by decide) ?_
  refine va_sld G.1 G.2.1 hX hbl hbA hS (nI_inn (n := 6) (a := 4) (by decide) (by decide)) d_Law_244 ?_
  refine tpi (w := (xs 4)) (by rw [nI_clamp (by decide)]) ?_
  refine lv_aload_n G.1 G.2.1 d_Law_245 rfl (lv_at hl 0 rfl) ?_
  refine lv_iload_n G.1 G.2.1 d_Law_246 rfl (lv_at hl 3 rfl) ?_
  refine W.eq (g2 := F0 m 247 ls [.int (nI 0), .ref b, .int (xs 4), .int (xs 3), .int (xs 2), .int (xs 1), .ref h0]) rfl ?_
  refine lv_iconst (v := nI 5) G.1 G.2.1 d_Law_247 (by decide) ?_
  refine lv_iadd G.1 G.2.1 d_Law_248 ?_
  refine tpi (w := nI 5) (by decide) ?_
  refine va_sld G.1 G.2.1 hX hbl hbA hS (nI_inn (n := 6) (a := 5) (by decide) (by decide)) d_Law_249 ?_
  refine tpi (w := (xs 5)) (by rw [nI_clamp (by decide)]) ?_
  refine kEi (wr := [(h0X, .inr (14, fsX)), (r_otapeX, .inl (g 1, 6000, .inl ftX))]) G (kV (As := [.int (xs 1), .int (xs 2), .int (xs 3), .int (xs 4), .int (xs 5)]) (rest := []) G hP hD hS [0, 1] rfl rfl (c_Cw_feed l D g h0 (xs 1) (xs 2) (xs 3) (xs 4) (xs 5) r_cwords r_creader r_cchecker r_cfinder r_cwriter r_cmachines r_ctape r_cstock r_csizes r_cmet r_cfound r_cdraft r_cfewestFor r_cfewestNext ft H.size ) w_Cw_feed q1195 rfl rfl ⟨Nat.le_of_ble_eq_true rfl, Nat.le_of_ble_eq_true rfl⟩ (fun _ h => absurd h List.not_mem_nil) 0 (ci := 11) rfl rfl rfl hl.1 rfl (Nat.le_of_ble_eq_true rfl) rfl ⟨Nat.le_of_ble_eq_true rfl, (Nat.le_of_ble_eq_true rfl)⟩ d_Law_250) hP hD hS [0, 1] [2, 3] rfl rfl rfl rfl (fun r_1 u_2 H locs hw hP hD hS hzH => ?_)
  have hw : r_1 = nI 20 := hw
  have hP : va_P D CL [(h0X, .inr (14, fsX)), (r_otapeX, .inl (g 1, 6000, .inl ftX))] H := hP
  have hD : va_D A [(h0X, .inr (14, fsX)), (r_otapeX, .inl (g 1, 6000, .inl ftX))] := hD
  subst hw
  refine tpst (w := [.int (nI 20)]) rfl ?_
  refine lv_aload_n G.1 G.2.1 d_Law_253 rfl (lv_at hl 2 rfl) ?_
  refine lv_aload_n G.1 G.2.1 d_Law_254 rfl (lv_at hl 0 rfl) ?_
  refine lv_iload_n G.1 G.2.1 d_Law_255 rfl (lv_at hl 3 rfl) ?_
  refine lv_iconst (v := nI 1) G.1 G.2.1 d_Law_256 (by decide) ?_
  refine lv_iadd G.1 G.2.1 d_Law_257 ?_
  refine tpi (w := nI 1) (by decide) ?_
  refine va_sld G.1 G.2.1 hX hbl hbA hS (nI_inn (n := 6) (a := 1) (by decide) (by decide)) d_Law_258 ?_
  refine tpi (w := (xs 1)) (by rw [nI_clamp (by decide)]) ?_
  refine lv_aload_n G.1 G.2.1 d_Law_259 rfl (lv_at hl 0 rfl) ?_
  refine lv_iload_n G.1 G.2.1 d_Law_260 rfl (lv_at hl 3 rfl) ?_
  refine W.eq (g2 := F0 m 261 ls [.int (nI 0), .ref b, .int (xs 1), .ref h0X, .int (nI 20)]) rfl ?_
  refine lv_iconst (v := nI 2) G.1 G.2.1 d_Law_261 (by decide) ?_
  refine lv_iadd G.1 G.2.1 d_Law_262 ?_
  refine tpi (w := nI 2) (by decide) ?_
  refine va_sld G.1 G.2.1 hX hbl hbA hS (nI_inn (n := 6) (a := 2) (by decide) (by decide)) d_Law_263 ?_
  refine tpi (w := (xs 2)) (by rw [nI_clamp (by decide)]) ?_
  refine lv_aload_n G.1 G.2.1 d_Law_264 rfl (lv_at hl 0 rfl) ?_
  refine lv_iload_n G.1 G.2.1 d_Law_265 rfl (lv_at hl 3 rfl) ?_
  refine lv_iconst (v := nI 3) G.1 G.2.1 d_Law_266 (by decide) ?_
  refine lv_iadd G.1 G.2.1 d_Law_267 ?_
  refine tpi (w := nI 3) (by decide) ?_
  refine va_sld G.1 G.2.1 hX hbl hbA hS (nI_inn (n := 6) (a := 3) (by decide) (by decide)) d_Law_268 ?_
  refine tpi (w := (xs 3)) (by rw [nI_clamp (by decide)]) ?_
  refine lv_aload_n G.1 G.2.1 d_Law_269 rfl (lv_at hl 0 rfl) ?_
  refine lv_iload_n G.1 G.2.1 d_Law_270 rfl (lv_at hl 3 rfl) ?_
  refine lv_iconst (v := nI 4) G.1 G.2.1 d_Law_271 (by decide) ?_
  refine lv_iadd G.1 G.2.1 d_Law_272 ?_
  refine tpi (w := nI 4) (by decide) ?_
  refine W.eq (g2 := F0 m 273 ls [.int (nI 4), .ref b, .int (xs 3), .int (xs 2), .int (xs 1), .ref h0X, .int (nI 20)]) rfl ?_
  refine va_sld G.1 G.2.1 hX hbl hbA hS (nI_inn (n := 6) (a := 4) (by decide) (by decide)) d_Law_273 ?_
  refine tpi (w := (xs 4)) (by rw [nI_clamp (by decide)]) ?_
  refine lv_aload_n G.1 G.2.1 d_Law_274 rfl (lv_at hl 0 rfl) ?_
  refine lv_iload_n G.1 G.2.1 d_Law_275 rfl (lv_at hl 3 rfl) ?_
  refine lv_iconst (v := nI 5) G.1 G.2.1 d_Law_276 (by decide) ?_
  refine lv_iadd G.1 G.2.1 d_Law_277 ?_
  refine tpi (w := nI 5) (by decide) ?_
  refine va_sld G.1 G.2.1 hX hbl hbA hS (nI_inn (n := 6) (a := 5) (by decide) (by decide)) d_Law_278 ?_
  refine tpi (w := (xs 5)) (by rw [nI_clamp (by decide)]) ?_
  refine kEi (wr := []) G (kV (As := [.int (xs 1), .int (xs 2), .int (xs 3), .int (xs 4), .int (xs 5)]) (rest := [.int (nI 20)]) G hP hD hS [0, 1] rfl rfl (c_Mo_feed l D g h0X (xs 1) (xs 2) (xs 3) (xs 4) (xs 5) fsX r_otapeX ftX H.size glenX gk0X gk1X) w_Mo_feed q3458 rfl rfl ⟨Nat.le_of_ble_eq_true rfl, Nat.le_of_ble_eq_true rfl⟩ (fun _ h => absurd h List.not_mem_nil) 0 (ci := 14) rfl rfl rfl hl.1 rfl (Nat.le_of_ble_eq_true rfl) rfl ⟨Nat.le_of_ble_eq_true rfl, (Nat.le_of_ble_eq_true rfl)⟩ d_Law_279) hP hD hS [0, 1] [] rfl rfl rfl rfl (fun r_3 u_4 H locs hw hP hD hS hzH => ?_)
  have hw : r_3 = nI 20 := hw
  have hP : va_P D CL [] H := hP
  have hD : va_D A [] := hD
  subst hw
  refine tpst (w := [.int (nI 20), .int (nI 20)]) rfl ?_
  refine lv_icmp_eq (tgt := 1768) G.1 G.2.1 d_Law_282 (by decide) (fun c282 => ?_) (fun c282 => absurd c282 (by decide))
  refine lv_iinc (v := nI 6) (lv' := [(3, .int (nI 6)), (0, .ref b), (1, .ref h0), (2, .ref h0X)]) G.1 G.2.1 d_Law_1768 hl (k := 3) rfl (show (nI 0) + Int32.ofInt 6 = nI 6 from by decide) (by decide) rfl (fun ls hl => ?_)
  refine lv_goto (tgt := 18) G.1 G.2.1 d_Law_1771 (by decide) ?_
  refine lv_iload_n G.1 G.2.1 d_Law_18 rfl (lv_at hl 0 rfl) ?_
  refine lv_aload_n G.1 G.2.1 d_Law_19 rfl (lv_at hl 1 rfl) ?_
  refine W.eq (g2 := F0 m 20 ls [.ref b, .int (nI 6)]) rfl ?_
  refine va_slen G.1 G.2.1 hX hbl hbA hS d_Law_20 ?_
  refine tpi (w := nI 6) rfl ?_
  refine lv_bipush (v := nI 6) G.1 G.2.1 d_Law_21 (by decide) ?_
  refine lv_isub G.1 G.2.1 d_Law_23 ?_
  refine tpi (w := nI 0) (by decide) ?_
  refine lv_icmp_gt (tgt := 1774) G.1 G.2.1 d_Law_24 (by decide) (fun c24 => ?_) (fun c24 => absurd c24 (by decide))
  refine lv_iconst (v := nI 1) G.1 G.2.1 d_Law_1774 (by decide) ?_
  refine va_forget (fun q hq => hAA _ (hS.2.2 q hq)) ?_
  refine W.widen (k := 600002) (n := 7302232) (Nat.le_of_ble_eq_true rfl) (Nat.le_of_ble_eq_true rfl) ?_
  exact lw_ret G.1 G.2.1 G.2.2.2.1 G.2.2.2.2.1 d_Law_1775
theorem q1206 : Cond.code y_Cw_cut b_Cw_cut 2 (some .int) ∈ lw_ok := lw_okmem (List.mem_of_getElem? (i := 1206) (by decide +kernel)) rfl
theorem q1204 : Cond.instanceMethod y_Cw_cut ∈ lw_ok := lw_okmem (List.mem_of_getElem? (i := 1204) (by decide +kernel)) rfl
theorem q1205 : Cond.selects y_Cw_cut.cls y_Cw_cut y_Cw_cut ∈ lw_ok := lw_okmem (List.mem_of_getElem? (i := 1205) (by decide +kernel)) rfl
theorem w_Cw_cut : CWv y_Cw_cut b_Cw_cut 2 (some .int) 1 ∧ Cond.instanceMethod y_Cw_cut ∈ lw_ok ∧ Cond.selects y_Cw_cut.cls y_Cw_cut y_Cw_cut ∈ lw_ok := ⟨⟨q1206, q329, by decide +kernel, by decide +kernel, by decide +kernel⟩, q1204, q1205⟩
theorem q1203 : Cond.methodLink "ClassWorksLaw" 18 y_Cw_cut ∈ lw_ok := lw_okmem (List.mem_of_getElem? (i := 1203) (by decide +kernel)) rfl
theorem q3469 : Cond.code y_Mo_cut b_Mo_cut 2 (some .int) ∈ lw_ok := lw_okmem (List.mem_of_getElem? (i := 3469) (by decide +kernel)) rfl
theorem q3467 : Cond.instanceMethod y_Mo_cut ∈ lw_ok := lw_okmem (List.mem_of_getElem? (i := 3467) (by decide +kernel)) rfl
theorem q3468 : Cond.selects y_Mo_cut.cls y_Mo_cut y_Mo_cut ∈ lw_ok := lw_okmem (List.mem_of_getElem? (i := 3468) (by decide +kernel)) rfl
theorem w_Mo_cut : CWv y_Mo_cut b_Mo_cut 2 (some .int) 1 ∧ Cond.instanceMethod y_Mo_cut ∈ lw_ok ∧ Cond.selects y_Mo_cut.cls y_Mo_cut y_Mo_cut ∈ lw_ok := ⟨⟨q3469, q348, by decide +kernel, by decide +kernel, by decide +kernel⟩, q3467, q3468⟩
theorem q3466 : Cond.methodLink "ClassWorksLaw" 22 y_Mo_cut ∈ lw_ok := lw_okmem (List.mem_of_getElem? (i := 3466) (by decide +kernel)) rfl
theorem d_Law_287 : decode code 287 = .ok (.aload_n 1, 1) := by decide +kernel
theorem d_Law_288 : decode code 288 = .ok (.aload_n 0, 1) := by decide +kernel
theorem d_Law_289 : decode code 289 = .ok (.iload_n 3, 1) := by decide +kernel
theorem d_Law_290 : decode code 290 = .ok (.iconst 1, 1) := by decide +kernel
theorem d_Law_291 : decode code 291 = .ok (.iadd, 1) := by decide +kernel
theorem d_Law_292 : decode code 292 = .ok (.iaload, 1) := by decide +kernel
theorem d_Law_293 : decode code 293 = .ok (.invokevirtual 18, 3) := by decide +kernel
theorem d_Law_296 : decode code 296 = .ok (.aload_n 2, 1) := by decide +kernel
theorem d_Law_297 : decode code 297 = .ok (.aload_n 0, 1) := by decide +kernel
theorem d_Law_298 : decode code 298 = .ok (.iload_n 3, 1) := by decide +kernel
theorem d_Law_299 : decode code 299 = .ok (.iconst 1, 1) := by decide +kernel
theorem d_Law_300 : decode code 300 = .ok (.iadd, 1) := by decide +kernel
theorem d_Law_301 : decode code 301 = .ok (.iaload, 1) := by decide +kernel
theorem d_Law_302 : decode code 302 = .ok (.invokevirtual 22, 3) := by decide +kernel
theorem d_Law_305 : decode code 305 = .ok (.if_icmp .eq 1463, 3) := by decide +kernel
set_option maxHeartbeats 4000000 in
set_option maxRecDepth 100000 in
theorem law_cut {p : Program} {e : Env} {s : State} {m : MethodId} {below : List Frame} {meth : Method} {c : Code} {l : Launch} {D : va_G} {g : Nat → ClassId} {sl : List SL} {b : Nat} {xs : Nat → Int32} {A : Nat → Prop} (h0 : Nat) (r_cwords : Nat) (r_creader : Nat) (r_cchecker : Nat) (r_cfinder : Nat) (r_cwriter : Nat) (r_cmachines : Nat) (r_ctape : Nat) (r_cstock : Nat) (r_csizes : Nat) (r_cmet : Nat) (r_cfound : Nat) (r_cdraft : Nat) (r_cfewestFor : Nat) (r_cfewestNext : Nat) (h0X : Nat) (fsX : List Value) (G : GV l p s m #[Value.ref b] meth c (⟨"ClassWorksLaw", meth.name, ""⟩ : MethodName) code 4 ret g D sl A) (hX : va_X b 6 xs s s.heap) (hbl : b < s.heap.size) (hbA : ¬ A b) (hAA : ∀ q, A q → s.heap.size ≤ q) {H : Heap} {locs : List Loc} {ls : Array Slot} (glenX : fsX.length = 131) (gk0X : fsX[85]? = some (.int (nI 0))) (hP : va_P D CL [(h0, .inr (11, [.ref r_cwords, .ref r_creader, .ref r_cchecker, .ref r_cfinder, .ref r_cwriter, .ref r_cmachines, .ref r_ctape, .int (nI 0), .int (-2), .int (nI 60000), .ref r_cstock, .ref r_csizes, .ref r_cmet, .ref r_cfound, .int (nI 0), .ref r_cdraft, .int (nI 0), .int (nI 0), .ref r_cfewestFor, .ref r_cfewestNext])), (h0X, .inr (14, fsX))] H) (hD : va_D A [(h0, .inr (11, [.ref r_cwords, .ref r_creader, .ref r_cchecker, .ref r_cfinder, .ref r_cwriter, .ref r_cmachines, .ref r_ctape, .int (nI 0), .int (-2), .int (nI 60000), .ref r_cstock, .ref r_csizes, .ref r_cmet, .ref r_cfound, .int (nI 0), .ref r_cdraft, .int (nI 0), .int (nI 0), .ref r_cfewestFor, .ref r_cfewestNext])), (h0X, .inr (14, fsX))]) (hS : va_S A s.heap H locs) (hl : lv_has ls 4 [(0, .ref b), (1, .ref h0), (2, .ref h0X), (3, .int (nI 0))]) : W p l e room_1 s m #[Value.ref b] below meth c H locs 702 488194 (lw_Z below #[Value.ref b] s) (F0 m 287 ls []) := by
  refine lv_aload_n G.1 G.2.1 d_Law_287 rfl (lv_at hl 1 rfl) ?_
  refine lv_aload_n G.1 G.2.1 d_Law_288 rfl (lv_at hl 0 rfl) ?_
  refine lv_iload_n G.1 G.2.1 d_Law_289 rfl (lv_at hl 3 rfl) ?_
  refine lv_iconst (v := nI 1) G.1 G.2.1 d_Law_290 (by decide) ?_
  refine lv_iadd G.1 G.2.1 d_Law_291 ?_
  refine tpi (w := nI 1) (by decide) ?_
  refine va_sld G.1 G.2.1 hX hbl hbA hS (nI_inn (n := 6) (a := 1) (by decide) (by decide)) d_Law_292 ?_
  refine tpi (w := (xs 1)) (by rw [nI_clamp (by decide)]) ?_
  refine kEi (wr := [(h0X, .inr (14, fsX))]) G (kV (As := [.int (xs 1)]) (rest := []) G hP hD hS [0] rfl rfl (c_Cw_cut l D g h0 (xs 1) r_cwords r_creader r_cchecker r_cfinder r_cwriter r_cmachines r_ctape r_cstock r_csizes r_cmet r_cfound r_cdraft r_cfewestFor r_cfewestNext H.size ) w_Cw_cut q1203 rfl rfl ⟨Nat.le_of_ble_eq_true rfl, Nat.le_of_ble_eq_true rfl⟩ (fun _ h => absurd h List.not_mem_nil) 0 (ci := 11) rfl rfl rfl hl.1 rfl (Nat.le_of_ble_eq_true rfl) rfl ⟨Nat.le_of_ble_eq_true rfl, (Nat.le_of_ble_eq_true rfl)⟩ d_Law_293) hP hD hS [0] [1] rfl rfl rfl rfl (fun r_1 u_2 H locs hw hP hD hS hzH => ?_)
  have hw : r_1 = cuF ((xs 1)) := hw
  have hP : va_P D CL [(h0X, .inr (14, fsX))] H := hP
  have hD : va_D A [(h0X, .inr (14, fsX))] := hD
  subst hw
  refine tpst (w := [.int (cuF ((xs 1)))]) rfl ?_
  refine lv_aload_n G.1 G.2.1 d_Law_296 rfl (lv_at hl 2 rfl) ?_
  refine lv_aload_n G.1 G.2.1 d_Law_297 rfl (lv_at hl 0 rfl) ?_
  refine lv_iload_n G.1 G.2.1 d_Law_298 rfl (lv_at hl 3 rfl) ?_
  refine lv_iconst (v := nI 1) G.1 G.2.1 d_Law_299 (by decide) ?_
  refine W.eq (g2 := F0 m 300 ls [.int (nI 1), .int (nI 0), .ref b, .ref h0X, .int (cuF ((xs 1)))]) rfl ?_
  refine lv_iadd G.1 G.2.1 d_Law_300 ?_
  refine tpi (w := nI 1) (by decide) ?_
  refine va_sld G.1 G.2.1 hX hbl hbA hS (nI_inn (n := 6) (a := 1) (by decide) (by decide)) d_Law_301 ?_
  refine tpi (w := (xs 1)) (by rw [nI_clamp (by decide)]) ?_
  refine kEi (wr := []) G (kV (As := [.int (xs 1)]) (rest := [.int (cuF ((xs 1)))]) G hP hD hS [0] rfl rfl (c_Mo_cut l D g h0X (xs 1) fsX H.size glenX gk0X) w_Mo_cut q3466 rfl rfl ⟨Nat.le_of_ble_eq_true rfl, Nat.le_of_ble_eq_true rfl⟩ (fun _ h => absurd h List.not_mem_nil) 0 (ci := 14) rfl rfl rfl hl.1 rfl (Nat.le_of_ble_eq_true rfl) rfl ⟨Nat.le_of_ble_eq_true rfl, (Nat.le_of_ble_eq_true rfl)⟩ d_Law_302) hP hD hS [0] [] rfl rfl rfl rfl (fun r_3 u_4 H locs hw hP hD hS hzH => ?_)
  have hw : r_3 = cuF ((xs 1)) := hw
  have hP : va_P D CL [] H := hP
  have hD : va_D A [] := hD
  subst hw
  refine tpst (w := [.int (cuF ((xs 1))), .int (cuF ((xs 1)))]) rfl ?_
  refine lv_icmp_eq (tgt := 1768) G.1 G.2.1 d_Law_305 (by decide) (fun c305 => ?_) (fun c305 => absurd c305 (fun h => h rfl))
  refine lv_iinc (v := nI 6) (lv' := [(3, .int (nI 6)), (0, .ref b), (1, .ref h0), (2, .ref h0X)]) G.1 G.2.1 d_Law_1768 hl (k := 3) rfl (show (nI 0) + Int32.ofInt 6 = nI 6 from by decide) (by decide) rfl (fun ls hl => ?_)
  refine lv_goto (tgt := 18) G.1 G.2.1 d_Law_1771 (by decide) ?_
  refine lv_iload_n G.1 G.2.1 d_Law_18 rfl (lv_at hl 0 rfl) ?_
  refine lv_aload_n G.1 G.2.1 d_Law_19 rfl (lv_at hl 1 rfl) ?_
  refine va_slen G.1 G.2.1 hX hbl hbA hS d_Law_20 ?_
  refine tpi (w := nI 6) rfl ?_
  refine lv_bipush (v := nI 6) G.1 G.2.1 d_Law_21 (by decide) ?_
  refine lv_isub G.1 G.2.1 d_Law_23 ?_
  refine tpi (w := nI 0) (by decide) ?_
  refine lv_icmp_gt (tgt := 1774) G.1 G.2.1 d_Law_24 (by decide) (fun c24 => ?_) (fun c24 => absurd c24 (by decide))
  refine W.eq (g2 := F0 m 1774 ls []) rfl ?_
  refine lv_iconst (v := nI 1) G.1 G.2.1 d_Law_1774 (by decide) ?_
  refine va_forget (fun q hq => hAA _ (hS.2.2 q hq)) ?_
  refine W.widen (k := 600002) (n := 7302232) (Nat.le_of_ble_eq_true rfl) (Nat.le_of_ble_eq_true rfl) ?_
  exact lw_ret G.1 G.2.1 G.2.2.2.1 G.2.2.2.2.1 d_Law_1775
theorem q1210 : Cond.code y_Cw_world b_Cw_world 3 (some .int) ∈ lw_ok := lw_okmem (List.mem_of_getElem? (i := 1210) (by decide +kernel)) rfl
theorem q1208 : Cond.instanceMethod y_Cw_world ∈ lw_ok := lw_okmem (List.mem_of_getElem? (i := 1208) (by decide +kernel)) rfl
theorem q1209 : Cond.selects y_Cw_world.cls y_Cw_world y_Cw_world ∈ lw_ok := lw_okmem (List.mem_of_getElem? (i := 1209) (by decide +kernel)) rfl
theorem w_Cw_world : CWv y_Cw_world b_Cw_world 3 (some .int) 1 ∧ Cond.instanceMethod y_Cw_world ∈ lw_ok ∧ Cond.selects y_Cw_world.cls y_Cw_world y_Cw_world ∈ lw_ok := ⟨⟨q1210, q329, by decide +kernel, by decide +kernel, by decide +kernel⟩, q1208, q1209⟩
theorem q1207 : Cond.methodLink "ClassWorksLaw" 23 y_Cw_world ∈ lw_ok := lw_okmem (List.mem_of_getElem? (i := 1207) (by decide +kernel)) rfl
theorem q3473 : Cond.code y_Mo_world b_Mo_world 3 (some .int) ∈ lw_ok := lw_okmem (List.mem_of_getElem? (i := 3473) (by decide +kernel)) rfl
theorem q3471 : Cond.instanceMethod y_Mo_world ∈ lw_ok := lw_okmem (List.mem_of_getElem? (i := 3471) (by decide +kernel)) rfl
theorem q3472 : Cond.selects y_Mo_world.cls y_Mo_world y_Mo_world ∈ lw_ok := lw_okmem (List.mem_of_getElem? (i := 3472) (by decide +kernel)) rfl
theorem w_Mo_world : CWv y_Mo_world b_Mo_world 3 (some .int) 1 ∧ Cond.instanceMethod y_Mo_world ∈ lw_ok ∧ Cond.selects y_Mo_world.cls y_Mo_world y_Mo_world ∈ lw_ok := ⟨⟨q3473, q348, by decide +kernel, by decide +kernel, by decide +kernel⟩, q3471, q3472⟩
theorem q3470 : Cond.methodLink "ClassWorksLaw" 26 y_Mo_world ∈ lw_ok := lw_okmem (List.mem_of_getElem? (i := 3470) (by decide +kernel)) rfl
theorem d_Law_310 : decode code 310 = .ok (.aload_n 1, 1) := by decide +kernel
theorem d_Law_311 : decode code 311 = .ok (.aload_n 0, 1) := by decide +kernel
theorem d_Law_312 : decode code 312 = .ok (.iload_n 3, 1) := by decide +kernel
theorem d_Law_313 : decode code 313 = .ok (.iconst 1, 1) := by decide +kernel
theorem d_Law_314 : decode code 314 = .ok (.iadd, 1) := by decide +kernel
theorem d_Law_315 : decode code 315 = .ok (.iaload, 1) := by decide +kernel
theorem d_Law_316 : decode code 316 = .ok (.invokevirtual 23, 3) := by decide +kernel
theorem d_Law_319 : decode code 319 = .ok (.aload_n 2, 1) := by decide +kernel
theorem d_Law_320 : decode code 320 = .ok (.aload_n 0, 1) := by decide +kernel
theorem d_Law_321 : decode code 321 = .ok (.iload_n 3, 1) := by decide +kernel
theorem d_Law_322 : decode code 322 = .ok (.iconst 1, 1) := by decide +kernel
theorem d_Law_323 : decode code 323 = .ok (.iadd, 1) := by decide +kernel
theorem d_Law_324 : decode code 324 = .ok (.iaload, 1) := by decide +kernel
theorem d_Law_325 : decode code 325 = .ok (.invokevirtual 26, 3) := by decide +kernel
theorem d_Law_328 : decode code 328 = .ok (.if_icmp .eq 1440, 3) := by decide +kernel
set_option maxHeartbeats 4000000 in
set_option maxRecDepth 100000 in
theorem law_world {p : Program} {e : Env} {s : State} {m : MethodId} {below : List Frame} {meth : Method} {c : Code} {l : Launch} {D : va_G} {g : Nat → ClassId} {sl : List SL} {b : Nat} {xs : Nat → Int32} {A : Nat → Prop} (h0 : Nat) (r_cwords : Nat) (r_creader : Nat) (r_cchecker : Nat) (r_cfinder : Nat) (r_cwriter : Nat) (r_cmachines : Nat) (r_ctape : Nat) (r_cstock : Nat) (r_csizes : Nat) (r_cmet : Nat) (r_cfound : Nat) (r_cdraft : Nat) (r_cfewestFor : Nat) (r_cfewestNext : Nat) (mm0 : Nat) (mm1 : Nat) (mm2 : Nat) (mm3 : Nat) (ww0 : Nat) (r_m0heap : Nat) (r_m0runs : Nat) (r_m0counts : Nat) (r_m0traceRow : Nat) (f_m0traceCount : Int32) (r_m0startedList : Nat) (f_m0startedCount : Int32) (f_m0present : Int32) (f_m0quantum : Int32) (f_m0stepsDone : Int32) (f_m0turnSteps : Int32) (f_m0turnMost : Int32) (f_m0turnOver : Int32) (r_m0finder : Nat) (r_m0names : Nat) (f_m0fault : Int32) (f_m0wanted : Int32) (f_m0thrown : Int32) (r_m0hkind : Nat) (r_m0hbase : Nat) (r_m0hlength : Nat) (r_m0hdata : Nat) (r_m0hlock : Nat) (r_m0hspare : Nat) (f_m0hleastFree : Int32) (r_m0hfaults : Nat) (r_m0hfaultLocks : Nat) (r_m0htouched : Nat) (r_m0hopen : Nat) (f_m0hopened : Int32) (d_m0hkind : Nat → Int32) (i_m0hfaults : Nat) (s_m0hfaults : Int32) (i_m0hfaultLocks : Nat) (s_m0hfaultLocks : Int32) (m0u0 : Nat) (m0u1 : Nat) (m0u2 : Nat) (f_m0u0callClass : Int32) (f_m0u0callSign : Int32) (r_m0u0callNumbers : Nat) (f_m0u0mode : Int32) (f_m0u0steps : Int32) (f_m0u0waits : Int32) (f_m0u0endKind : Int32) (f_m0u0endNumber : Int32) (f_m0u0endClass : Int32) (f_m0u0endRule : Int32) (f_m0u0frames : Int32) (r_m0u0classOf : Nat) (r_m0u0methodOf : Nat) (r_m0u0at : Nat) (r_m0u0depth : Nat) (r_m0u0places : Nat) (f_m0u0starts : Int32) (r_m0u0startClass : Nat) (r_m0u0startFrames : Nat) (f_m0u1callClass : Int32) (f_m0u1callSign : Int32) (r_m0u1callNumbers : Nat) (f_m0u1mode : Int32) (f_m0u1steps : Int32) (f_m0u1waits : Int32) (f_m0u1endKind : Int32) (f_m0u1endNumber : Int32) (f_m0u1endClass : Int32) (f_m0u1endRule : Int32) (f_m0u1frames : Int32) (r_m0u1classOf : Nat) (r_m0u1methodOf : Nat) (r_m0u1at : Nat) (r_m0u1depth : Nat) (r_m0u1places : Nat) (f_m0u1starts : Int32) (r_m0u1startClass : Nat) (r_m0u1startFrames : Nat) (f_m0u2callClass : Int32) (f_m0u2callSign : Int32) (r_m0u2callNumbers : Nat) (f_m0u2mode : Int32) (f_m0u2steps : Int32) (f_m0u2waits : Int32) (f_m0u2endKind : Int32) (f_m0u2endNumber : Int32) (f_m0u2endClass : Int32) (f_m0u2endRule : Int32) (f_m0u2frames : Int32) (r_m0u2classOf : Nat) (r_m0u2methodOf : Nat) (r_m0u2at : Nat) (r_m0u2depth : Nat) (r_m0u2places : Nat) (f_m0u2starts : Int32) (r_m0u2startClass : Nat) (r_m0u2startFrames : Nat) (d_m0counts : Nat → Int32) (r_w0names : Nat) (f_w0wrongClass : Int32) (f_w0wrongMethod : Int32) (f_w0wrongAt : Int32) (r_w0rows : Nat) (r_w0above : Nat) (r_w0fields : Nat) (r_w0methods : Nat) (r_w0codes : Nat) (r_w0handlers : Nat) (r_w0extra : Nat) (r_w0orders : Nat) (r_w0classNamed : Nat) (f_w0breaks : Int32) (r_w0marks : Nat) (i_w0fields : Nat) (s_w0fields : Int32) (i_w0methods : Nat) (s_w0methods : Int32) (i_w0codes : Nat) (s_w0codes : Int32) (i_w0handlers : Nat) (s_w0handlers : Int32) (i_w0extra : Nat) (s_w0extra : Int32) (i_w0orders : Nat) (s_w0orders : Int32) (h0X : Nat) (fsX : List Value) (owX : Nat) (f_kThingX : Int32) (f_kMakeX : Int32) (f_plainSigX : Int32) (v0X : Nat) (v1X : Nat) (v2X : Nat) (v3X : Nat) (fw0X : List Value) (r_v0classNamesX : Nat) (r_v0parentsX : Nat) (r_v0flagsX : Nat) (r_v0faceCountsX : Nat) (r_v0fieldCountsX : Nat) (r_v0methodCountsX : Nat) (r_v0statesX : Nat) (r_v0linksX : Nat) (r_v0methodNamesX : Nat) (r_v0methodSigsX : Nat) (r_v0methodFlagsX : Nat) (r_v0stacksX : Nat) (r_v0localCountsX : Nat) (r_v0codeFromsX : Nat) (r_v0codeSizesX : Nat) (r_v0handlerCountsX : Nat) (r_v0checkedX : Nat) (r_v0doneCountsX : Nat) (r_v0thingThereX : Nat) (r_v0runsX : Nat) (d_v0classNamesX : Nat → Int32) (d_v0parentsX : Nat → Int32) (d_v0flagsX : Nat → Int32) (d_v0faceCountsX : Nat → Int32) (d_v0fieldCountsX : Nat → Int32) (d_v0methodCountsX : Nat → Int32) (d_v0statesX : Nat → Int32) (d_v0linksX : Nat → Int32) (d_v0methodNamesX : Nat → Int32) (d_v0methodSigsX : Nat → Int32) (d_v0methodFlagsX : Nat → Int32) (d_v0stacksX : Nat → Int32) (d_v0localCountsX : Nat → Int32) (d_v0codeFromsX : Nat → Int32) (d_v0codeSizesX : Nat → Int32) (d_v0handlerCountsX : Nat → Int32) (d_v0checkedX : Nat → Int32) (d_v0doneCountsX : Nat → Int32) (d_v0thingThereX : Nat → Int32) (j0X : Nat) (j1X : Nat) (j2X : Nat) (f_j0stateX : Int32) (f_j0waitsX : Int32) (f_j0waitsForX : Int32) (f_j0stepsX : Int32) (f_j0phaseX : Int32) (f_j0callClassX : Int32) (f_j0callNameX : Int32) (f_j0callSigX : Int32) (r_j0callNumbersX : Nat) (f_j0callMethodX : Int32) (f_j0endKindX : Int32) (f_j0endNumberX : Int32) (f_j0endClassX : Int32) (f_j0endRuleX : Int32) (r_j0unitsX : Nat) (r_j0unitPhasesX : Nat) (f_j0unitCountX : Int32) (r_j0frameMethodsX : Nat) (r_j0placesX : Nat) (r_j0topsX : Nat) (r_j0slotsX : Nat) (r_j0refersX : Nat) (f_j0framesX : Int32) (f_j1stateX : Int32) (f_j1waitsX : Int32) (f_j1waitsForX : Int32) (f_j1stepsX : Int32) (f_j1phaseX : Int32) (f_j1callClassX : Int32) (f_j1callNameX : Int32) (f_j1callSigX : Int32) (r_j1callNumbersX : Nat) (f_j1callMethodX : Int32) (f_j1endKindX : Int32) (f_j1endNumberX : Int32) (f_j1endClassX : Int32) (f_j1endRuleX : Int32) (r_j1unitsX : Nat) (r_j1unitPhasesX : Nat) (f_j1unitCountX : Int32) (r_j1frameMethodsX : Nat) (r_j1placesX : Nat) (r_j1topsX : Nat) (r_j1slotsX : Nat) (r_j1refersX : Nat) (f_j1framesX : Int32) (f_j2stateX : Int32) (f_j2waitsX : Int32) (f_j2waitsForX : Int32) (f_j2stepsX : Int32) (f_j2phaseX : Int32) (f_j2callClassX : Int32) (f_j2callNameX : Int32) (f_j2callSigX : Int32) (r_j2callNumbersX : Nat) (f_j2callMethodX : Int32) (f_j2endKindX : Int32) (f_j2endNumberX : Int32) (f_j2endClassX : Int32) (f_j2endRuleX : Int32) (r_j2unitsX : Nat) (r_j2unitPhasesX : Nat) (f_j2unitCountX : Int32) (r_j2frameMethodsX : Nat) (r_j2placesX : Nat) (r_j2topsX : Nat) (r_j2slotsX : Nat) (r_j2refersX : Nat) (f_j2framesX : Int32) (G : GV l p s m #[Value.ref b] meth c (⟨"ClassWorksLaw", meth.name, ""⟩ : MethodName) code 4 ret g D sl A) (hX : va_X b 6 xs s s.heap) (hbl : b < s.heap.size) (hbA : ¬ A b) (hAA : ∀ q, A q → s.heap.size ≤ q) {H : Heap} {locs : List Loc} {ls : Array Slot} (glenX : fsX.length = 131) (gk0X : fsX[44]? = some (.ref owX)) (gk1X : fsX[8]? = some (.int f_kThingX)) (gk2X : fsX[6]? = some (.int f_kMakeX)) (gk3X : fsX[38]? = some (.int f_plainSigX)) (gw_lenX : fw0X.length = 72) (gw_0X : fw0X[0]? = some (.int (nI 0))) (gw_3X : fw0X[3]? = some (.ref r_v0classNamesX)) (gw_4X : fw0X[4]? = some (.ref r_v0parentsX)) (gw_5X : fw0X[5]? = some (.ref r_v0flagsX)) (gw_7X : fw0X[7]? = some (.ref r_v0faceCountsX)) (gw_8X : fw0X[8]? = some (.ref r_v0fieldCountsX)) (gw_9X : fw0X[9]? = some (.ref r_v0methodCountsX)) (gw_10X : fw0X[10]? = some (.ref r_v0statesX)) (gw_11X : fw0X[11]? = some (.ref r_v0linksX)) (gw_18X : fw0X[18]? = some (.ref r_v0methodNamesX)) (gw_19X : fw0X[19]? = some (.ref r_v0methodSigsX)) (gw_20X : fw0X[20]? = some (.ref r_v0methodFlagsX)) (gw_21X : fw0X[21]? = some (.ref r_v0stacksX)) (gw_22X : fw0X[22]? = some (.ref r_v0localCountsX)) (gw_23X : fw0X[23]? = some (.ref r_v0codeFromsX)) (gw_24X : fw0X[24]? = some (.ref r_v0codeSizesX)) (gw_25X : fw0X[25]? = some (.ref r_v0handlerCountsX)) (gw_44X : fw0X[44]? = some (.ref r_v0checkedX)) (gw_71X : fw0X[71]? = some (.ref r_v0doneCountsX)) (gw_49X : fw0X[49]? = some (.ref r_v0thingThereX)) (gw_62X : fw0X[62]? = some (.ref r_v0runsX)) (hP : va_P D CL [(h0, .inr (11, [.ref r_cwords, .ref r_creader, .ref r_cchecker, .ref r_cfinder, .ref r_cwriter, .ref r_cmachines, .ref r_ctape, .int (nI 0), .int (-2), .int (nI 60000), .ref r_cstock, .ref r_csizes, .ref r_cmet, .ref r_cfound, .int (nI 0), .ref r_cdraft, .int (nI 0), .int (nI 0), .ref r_cfewestFor, .ref r_cfewestNext])), (r_cmachines, .inl (g 4, 4, .inr (.inr (.inr (.inr (va_up (va_up (va_up (va_up (fun _ => none) 0 (some mm0)) 1 (some mm1)) 2 (some mm2)) 3 (some mm3))))))), (mm0, .inr (4, [.ref ww0, .ref r_m0heap, .ref r_m0runs, .ref r_m0counts, .ref r_m0traceRow, .int f_m0traceCount, .ref r_m0startedList, .int f_m0startedCount, .int f_m0present, .int f_m0quantum, .int f_m0stepsDone, .int f_m0turnSteps, .int f_m0turnMost, .int f_m0turnOver, .ref r_m0finder, .ref r_m0names, .int f_m0fault, .int f_m0wanted, .int f_m0thrown])), (r_m0heap, .inr (2, [.ref r_m0hkind, .ref r_m0hbase, .ref r_m0hlength, .ref r_m0hdata, .int (nI 0), .int (nI 0), .ref r_m0hlock, .ref r_m0hspare, .int f_m0hleastFree, .int (nI 0), .ref r_m0hfaults, .ref r_m0hfaultLocks, .ref r_m0htouched, .ref r_m0hopen, .int f_m0hopened])), (r_m0hkind, .inl (g 0, 801, .inl d_m0hkind)), (r_m0hfaults, .inr (3, [.ref i_m0hfaults, .int s_m0hfaults])), (r_m0hfaultLocks, .inr (3, [.ref i_m0hfaultLocks, .int s_m0hfaultLocks])), (r_m0runs, .inl (g 5, 3, .inr (.inr (.inr (.inr (va_up (va_up (va_up (fun _ => none) 0 (some m0u0)) 1 (some m0u1)) 2 (some m0u2))))))), (m0u0, .inr (7, [.int f_m0u0callClass, .int f_m0u0callSign, .ref r_m0u0callNumbers, .int f_m0u0mode, .int f_m0u0steps, .int f_m0u0waits, .int f_m0u0endKind, .int f_m0u0endNumber, .int f_m0u0endClass, .int f_m0u0endRule, .int f_m0u0frames, .ref r_m0u0classOf, .ref r_m0u0methodOf, .ref r_m0u0at, .ref r_m0u0depth, .ref r_m0u0places, .int f_m0u0starts, .ref r_m0u0startClass, .ref r_m0u0startFrames])), (m0u1, .inr (7, [.int f_m0u1callClass, .int f_m0u1callSign, .ref r_m0u1callNumbers, .int f_m0u1mode, .int f_m0u1steps, .int f_m0u1waits, .int f_m0u1endKind, .int f_m0u1endNumber, .int f_m0u1endClass, .int f_m0u1endRule, .int f_m0u1frames, .ref r_m0u1classOf, .ref r_m0u1methodOf, .ref r_m0u1at, .ref r_m0u1depth, .ref r_m0u1places, .int f_m0u1starts, .ref r_m0u1startClass, .ref r_m0u1startFrames])), (m0u2, .inr (7, [.int f_m0u2callClass, .int f_m0u2callSign, .ref r_m0u2callNumbers, .int f_m0u2mode, .int f_m0u2steps, .int f_m0u2waits, .int f_m0u2endKind, .int f_m0u2endNumber, .int f_m0u2endClass, .int f_m0u2endRule, .int f_m0u2frames, .ref r_m0u2classOf, .ref r_m0u2methodOf, .ref r_m0u2at, .ref r_m0u2depth, .ref r_m0u2places, .int f_m0u2starts, .ref r_m0u2startClass, .ref r_m0u2startFrames])), (r_m0counts, .inl (g 0, 62, .inl d_m0counts)), (ww0, .inr (9, [.ref r_w0names, .int (nI 0), .int (nI 21), .int f_w0wrongClass, .int f_w0wrongMethod, .int f_w0wrongAt, .ref r_w0rows, .ref r_w0above, .ref r_w0fields, .ref r_w0methods, .ref r_w0codes, .ref r_w0handlers, .ref r_w0extra, .ref r_w0orders, .ref r_w0classNamed, .int f_w0breaks, .ref r_w0marks])), (r_w0fields, .inr (3, [.ref i_w0fields, .int s_w0fields])), (r_w0methods, .inr (3, [.ref i_w0methods, .int s_w0methods])), (r_w0codes, .inr (3, [.ref i_w0codes, .int s_w0codes])), (r_w0handlers, .inr (3, [.ref i_w0handlers, .int s_w0handlers])), (r_w0extra, .inr (3, [.ref i_w0extra, .int s_w0extra])), (r_w0orders, .inr (3, [.ref i_w0orders, .int s_w0orders])), (h0X, .inr (14, fsX)), (owX, .inl (g 6, 4, .inr (.inr (.inr (.inr (va_up (va_up (va_up (va_up (fun _ => none) 0 (some v0X)) 1 (some v1X)) 2 (some v2X)) 3 (some v3X))))))), (v0X, .inr (13, fw0X)), (r_v0classNamesX, .inl (g 0, 51, .inl d_v0classNamesX)), (r_v0parentsX, .inl (g 0, 51, .inl d_v0parentsX)), (r_v0flagsX, .inl (g 0, 51, .inl d_v0flagsX)), (r_v0faceCountsX, .inl (g 0, 51, .inl d_v0faceCountsX)), (r_v0fieldCountsX, .inl (g 0, 51, .inl d_v0fieldCountsX)), (r_v0methodCountsX, .inl (g 0, 51, .inl d_v0methodCountsX)), (r_v0statesX, .inl (g 0, 51, .inl d_v0statesX)), (r_v0linksX, .inl (g 0, 51, .inl d_v0linksX)), (r_v0methodNamesX, .inl (g 0, 612, .inl d_v0methodNamesX)), (r_v0methodSigsX, .inl (g 0, 612, .inl d_v0methodSigsX)), (r_v0methodFlagsX, .inl (g 0, 612, .inl d_v0methodFlagsX)), (r_v0stacksX, .inl (g 0, 612, .inl d_v0stacksX)), (r_v0localCountsX, .inl (g 0, 612, .inl d_v0localCountsX)), (r_v0codeFromsX, .inl (g 0, 612, .inl d_v0codeFromsX)), (r_v0codeSizesX, .inl (g 0, 612, .inl d_v0codeSizesX)), (r_v0handlerCountsX, .inl (g 0, 612, .inl d_v0handlerCountsX)), (r_v0checkedX, .inl (g 0, 3, .inl d_v0checkedX)), (r_v0doneCountsX, .inl (g 0, 62, .inl d_v0doneCountsX)), (r_v0thingThereX, .inl (g 3, 801, .inl d_v0thingThereX)), (r_v0runsX, .inl (g 7, 3, .inr (.inr (.inr (.inr (va_up (va_up (va_up (fun _ => none) 0 (some j0X)) 1 (some j1X)) 2 (some j2X))))))), (j0X, .inr (12, [.int f_j0stateX, .int f_j0waitsX, .int f_j0waitsForX, .int f_j0stepsX, .int f_j0phaseX, .int f_j0callClassX, .int f_j0callNameX, .int f_j0callSigX, .ref r_j0callNumbersX, .int f_j0callMethodX, .int f_j0endKindX, .int f_j0endNumberX, .int f_j0endClassX, .int f_j0endRuleX, .ref r_j0unitsX, .ref r_j0unitPhasesX, .int f_j0unitCountX, .ref r_j0frameMethodsX, .ref r_j0placesX, .ref r_j0topsX, .ref r_j0slotsX, .ref r_j0refersX, .int f_j0framesX])), (j1X, .inr (12, [.int f_j1stateX, .int f_j1waitsX, .int f_j1waitsForX, .int f_j1stepsX, .int f_j1phaseX, .int f_j1callClassX, .int f_j1callNameX, .int f_j1callSigX, .ref r_j1callNumbersX, .int f_j1callMethodX, .int f_j1endKindX, .int f_j1endNumberX, .int f_j1endClassX, .int f_j1endRuleX, .ref r_j1unitsX, .ref r_j1unitPhasesX, .int f_j1unitCountX, .ref r_j1frameMethodsX, .ref r_j1placesX, .ref r_j1topsX, .ref r_j1slotsX, .ref r_j1refersX, .int f_j1framesX])), (j2X, .inr (12, [.int f_j2stateX, .int f_j2waitsX, .int f_j2waitsForX, .int f_j2stepsX, .int f_j2phaseX, .int f_j2callClassX, .int f_j2callNameX, .int f_j2callSigX, .ref r_j2callNumbersX, .int f_j2callMethodX, .int f_j2endKindX, .int f_j2endNumberX, .int f_j2endClassX, .int f_j2endRuleX, .ref r_j2unitsX, .ref r_j2unitPhasesX, .int f_j2unitCountX, .ref r_j2frameMethodsX, .ref r_j2placesX, .ref r_j2topsX, .ref r_j2slotsX, .ref r_j2refersX, .int f_j2framesX]))] H) (hD : va_D A [(h0, .inr (11, [.ref r_cwords, .ref r_creader, .ref r_cchecker, .ref r_cfinder, .ref r_cwriter, .ref r_cmachines, .ref r_ctape, .int (nI 0), .int (-2), .int (nI 60000), .ref r_cstock, .ref r_csizes, .ref r_cmet, .ref r_cfound, .int (nI 0), .ref r_cdraft, .int (nI 0), .int (nI 0), .ref r_cfewestFor, .ref r_cfewestNext])), (r_cmachines, .inl (g 4, 4, .inr (.inr (.inr (.inr (va_up (va_up (va_up (va_up (fun _ => none) 0 (some mm0)) 1 (some mm1)) 2 (some mm2)) 3 (some mm3))))))), (mm0, .inr (4, [.ref ww0, .ref r_m0heap, .ref r_m0runs, .ref r_m0counts, .ref r_m0traceRow, .int f_m0traceCount, .ref r_m0startedList, .int f_m0startedCount, .int f_m0present, .int f_m0quantum, .int f_m0stepsDone, .int f_m0turnSteps, .int f_m0turnMost, .int f_m0turnOver, .ref r_m0finder, .ref r_m0names, .int f_m0fault, .int f_m0wanted, .int f_m0thrown])), (r_m0heap, .inr (2, [.ref r_m0hkind, .ref r_m0hbase, .ref r_m0hlength, .ref r_m0hdata, .int (nI 0), .int (nI 0), .ref r_m0hlock, .ref r_m0hspare, .int f_m0hleastFree, .int (nI 0), .ref r_m0hfaults, .ref r_m0hfaultLocks, .ref r_m0htouched, .ref r_m0hopen, .int f_m0hopened])), (r_m0hkind, .inl (g 0, 801, .inl d_m0hkind)), (r_m0hfaults, .inr (3, [.ref i_m0hfaults, .int s_m0hfaults])), (r_m0hfaultLocks, .inr (3, [.ref i_m0hfaultLocks, .int s_m0hfaultLocks])), (r_m0runs, .inl (g 5, 3, .inr (.inr (.inr (.inr (va_up (va_up (va_up (fun _ => none) 0 (some m0u0)) 1 (some m0u1)) 2 (some m0u2))))))), (m0u0, .inr (7, [.int f_m0u0callClass, .int f_m0u0callSign, .ref r_m0u0callNumbers, .int f_m0u0mode, .int f_m0u0steps, .int f_m0u0waits, .int f_m0u0endKind, .int f_m0u0endNumber, .int f_m0u0endClass, .int f_m0u0endRule, .int f_m0u0frames, .ref r_m0u0classOf, .ref r_m0u0methodOf, .ref r_m0u0at, .ref r_m0u0depth, .ref r_m0u0places, .int f_m0u0starts, .ref r_m0u0startClass, .ref r_m0u0startFrames])), (m0u1, .inr (7, [.int f_m0u1callClass, .int f_m0u1callSign, .ref r_m0u1callNumbers, .int f_m0u1mode, .int f_m0u1steps, .int f_m0u1waits, .int f_m0u1endKind, .int f_m0u1endNumber, .int f_m0u1endClass, .int f_m0u1endRule, .int f_m0u1frames, .ref r_m0u1classOf, .ref r_m0u1methodOf, .ref r_m0u1at, .ref r_m0u1depth, .ref r_m0u1places, .int f_m0u1starts, .ref r_m0u1startClass, .ref r_m0u1startFrames])), (m0u2, .inr (7, [.int f_m0u2callClass, .int f_m0u2callSign, .ref r_m0u2callNumbers, .int f_m0u2mode, .int f_m0u2steps, .int f_m0u2waits, .int f_m0u2endKind, .int f_m0u2endNumber, .int f_m0u2endClass, .int f_m0u2endRule, .int f_m0u2frames, .ref r_m0u2classOf, .ref r_m0u2methodOf, .ref r_m0u2at, .ref r_m0u2depth, .ref r_m0u2places, .int f_m0u2starts, .ref r_m0u2startClass, .ref r_m0u2startFrames])), (r_m0counts, .inl (g 0, 62, .inl d_m0counts)), (ww0, .inr (9, [.ref r_w0names, .int (nI 0), .int (nI 21), .int f_w0wrongClass, .int f_w0wrongMethod, .int f_w0wrongAt, .ref r_w0rows, .ref r_w0above, .ref r_w0fields, .ref r_w0methods, .ref r_w0codes, .ref r_w0handlers, .ref r_w0extra, .ref r_w0orders, .ref r_w0classNamed, .int f_w0breaks, .ref r_w0marks])), (r_w0fields, .inr (3, [.ref i_w0fields, .int s_w0fields])), (r_w0methods, .inr (3, [.ref i_w0methods, .int s_w0methods])), (r_w0codes, .inr (3, [.ref i_w0codes, .int s_w0codes])), (r_w0handlers, .inr (3, [.ref i_w0handlers, .int s_w0handlers])), (r_w0extra, .inr (3, [.ref i_w0extra, .int s_w0extra])), (r_w0orders, .inr (3, [.ref i_w0orders, .int s_w0orders])), (h0X, .inr (14, fsX)), (owX, .inl (g 6, 4, .inr (.inr (.inr (.inr (va_up (va_up (va_up (va_up (fun _ => none) 0 (some v0X)) 1 (some v1X)) 2 (some v2X)) 3 (some v3X))))))), (v0X, .inr (13, fw0X)), (r_v0classNamesX, .inl (g 0, 51, .inl d_v0classNamesX)), (r_v0parentsX, .inl (g 0, 51, .inl d_v0parentsX)), (r_v0flagsX, .inl (g 0, 51, .inl d_v0flagsX)), (r_v0faceCountsX, .inl (g 0, 51, .inl d_v0faceCountsX)), (r_v0fieldCountsX, .inl (g 0, 51, .inl d_v0fieldCountsX)), (r_v0methodCountsX, .inl (g 0, 51, .inl d_v0methodCountsX)), (r_v0statesX, .inl (g 0, 51, .inl d_v0statesX)), (r_v0linksX, .inl (g 0, 51, .inl d_v0linksX)), (r_v0methodNamesX, .inl (g 0, 612, .inl d_v0methodNamesX)), (r_v0methodSigsX, .inl (g 0, 612, .inl d_v0methodSigsX)), (r_v0methodFlagsX, .inl (g 0, 612, .inl d_v0methodFlagsX)), (r_v0stacksX, .inl (g 0, 612, .inl d_v0stacksX)), (r_v0localCountsX, .inl (g 0, 612, .inl d_v0localCountsX)), (r_v0codeFromsX, .inl (g 0, 612, .inl d_v0codeFromsX)), (r_v0codeSizesX, .inl (g 0, 612, .inl d_v0codeSizesX)), (r_v0handlerCountsX, .inl (g 0, 612, .inl d_v0handlerCountsX)), (r_v0checkedX, .inl (g 0, 3, .inl d_v0checkedX)), (r_v0doneCountsX, .inl (g 0, 62, .inl d_v0doneCountsX)), (r_v0thingThereX, .inl (g 3, 801, .inl d_v0thingThereX)), (r_v0runsX, .inl (g 7, 3, .inr (.inr (.inr (.inr (va_up (va_up (va_up (fun _ => none) 0 (some j0X)) 1 (some j1X)) 2 (some j2X))))))), (j0X, .inr (12, [.int f_j0stateX, .int f_j0waitsX, .int f_j0waitsForX, .int f_j0stepsX, .int f_j0phaseX, .int f_j0callClassX, .int f_j0callNameX, .int f_j0callSigX, .ref r_j0callNumbersX, .int f_j0callMethodX, .int f_j0endKindX, .int f_j0endNumberX, .int f_j0endClassX, .int f_j0endRuleX, .ref r_j0unitsX, .ref r_j0unitPhasesX, .int f_j0unitCountX, .ref r_j0frameMethodsX, .ref r_j0placesX, .ref r_j0topsX, .ref r_j0slotsX, .ref r_j0refersX, .int f_j0framesX])), (j1X, .inr (12, [.int f_j1stateX, .int f_j1waitsX, .int f_j1waitsForX, .int f_j1stepsX, .int f_j1phaseX, .int f_j1callClassX, .int f_j1callNameX, .int f_j1callSigX, .ref r_j1callNumbersX, .int f_j1callMethodX, .int f_j1endKindX, .int f_j1endNumberX, .int f_j1endClassX, .int f_j1endRuleX, .ref r_j1unitsX, .ref r_j1unitPhasesX, .int f_j1unitCountX, .ref r_j1frameMethodsX, .ref r_j1placesX, .ref r_j1topsX, .ref r_j1slotsX, .ref r_j1refersX, .int f_j1framesX])), (j2X, .inr (12, [.int f_j2stateX, .int f_j2waitsX, .int f_j2waitsForX, .int f_j2stepsX, .int f_j2phaseX, .int f_j2callClassX, .int f_j2callNameX, .int f_j2callSigX, .ref r_j2callNumbersX, .int f_j2callMethodX, .int f_j2endKindX, .int f_j2endNumberX, .int f_j2endClassX, .int f_j2endRuleX, .ref r_j2unitsX, .ref r_j2unitPhasesX, .int f_j2unitCountX, .ref r_j2frameMethodsX, .ref r_j2placesX, .ref r_j2topsX, .ref r_j2slotsX, .ref r_j2refersX, .int f_j2framesX]))]) (hS : va_S A s.heap H locs) (hl : lv_has ls 4 [(0, .ref b), (1, .ref h0), (2, .ref h0X), (3, .int (nI 0))]) : W p l e room_1 s m #[Value.ref b] below meth c H locs 702 488194 (lw_Z below #[Value.ref b] s) (F0 m 310 ls []) := by
  refine lv_aload_n G.1 G.2.1 d_Law_310 rfl (lv_at hl 1 rfl) ?_
  refine lv_aload_n G.1 G.2.1 d_Law_311 rfl (lv_at hl 0 rfl) ?_
  refine lv_iload_n G.1 G.2.1 d_Law_312 rfl (lv_at hl 3 rfl) ?_
  refine lv_iconst (v := nI 1) G.1 G.2.1 d_Law_313 (by decide) ?_
  refine lv_iadd G.1 G.2.1 d_Law_314 ?_
  refine tpi (w := nI 1) (by decide) ?_
  refine va_sld G.1 G.2.1 hX hbl hbA hS (nI_inn (n := 6) (a := 1) (by decide) (by decide)) d_Law_315 ?_
  refine tpi (w := (xs 1)) (by rw [nI_clamp (by decide)]) ?_
  refine kEi (wr := [(h0X, .inr (14, fsX)), (owX, .inl (g 6, 4, .inr (.inr (.inr (.inr (va_up (va_up (va_up (va_up (fun _ => none) 0 (some v0X)) 1 (some v1X)) 2 (some v2X)) 3 (some v3X))))))), (v0X, .inr (13, fw0X)), (r_v0classNamesX, .inl (g 0, 51, .inl d_v0classNamesX)), (r_v0parentsX, .inl (g 0, 51, .inl d_v0parentsX)), (r_v0flagsX, .inl (g 0, 51, .inl d_v0flagsX)), (r_v0faceCountsX, .inl (g 0, 51, .inl d_v0faceCountsX)), (r_v0fieldCountsX, .inl (g 0, 51, .inl d_v0fieldCountsX)), (r_v0methodCountsX, .inl (g 0, 51, .inl d_v0methodCountsX)), (r_v0statesX, .inl (g 0, 51, .inl d_v0statesX)), (r_v0linksX, .inl (g 0, 51, .inl d_v0linksX)), (r_v0methodNamesX, .inl (g 0, 612, .inl d_v0methodNamesX)), (r_v0methodSigsX, .inl (g 0, 612, .inl d_v0methodSigsX)), (r_v0methodFlagsX, .inl (g 0, 612, .inl d_v0methodFlagsX)), (r_v0stacksX, .inl (g 0, 612, .inl d_v0stacksX)), (r_v0localCountsX, .inl (g 0, 612, .inl d_v0localCountsX)), (r_v0codeFromsX, .inl (g 0, 612, .inl d_v0codeFromsX)), (r_v0codeSizesX, .inl (g 0, 612, .inl d_v0codeSizesX)), (r_v0handlerCountsX, .inl (g 0, 612, .inl d_v0handlerCountsX)), (r_v0checkedX, .inl (g 0, 3, .inl d_v0checkedX)), (r_v0doneCountsX, .inl (g 0, 62, .inl d_v0doneCountsX)), (r_v0thingThereX, .inl (g 3, 801, .inl d_v0thingThereX)), (r_v0runsX, .inl (g 7, 3, .inr (.inr (.inr (.inr (va_up (va_up (va_up (fun _ => none) 0 (some j0X)) 1 (some j1X)) 2 (some j2X))))))), (j0X, .inr (12, [.int f_j0stateX, .int f_j0waitsX, .int f_j0waitsForX, .int f_j0stepsX, .int f_j0phaseX, .int f_j0callClassX, .int f_j0callNameX, .int f_j0callSigX, .ref r_j0callNumbersX, .int f_j0callMethodX, .int f_j0endKindX, .int f_j0endNumberX, .int f_j0endClassX, .int f_j0endRuleX, .ref r_j0unitsX, .ref r_j0unitPhasesX, .int f_j0unitCountX, .ref r_j0frameMethodsX, .ref r_j0placesX, .ref r_j0topsX, .ref r_j0slotsX, .ref r_j0refersX, .int f_j0framesX])), (j1X, .inr (12, [.int f_j1stateX, .int f_j1waitsX, .int f_j1waitsForX, .int f_j1stepsX, .int f_j1phaseX, .int f_j1callClassX, .int f_j1callNameX, .int f_j1callSigX, .ref r_j1callNumbersX, .int f_j1callMethodX, .int f_j1endKindX, .int f_j1endNumberX, .int f_j1endClassX, .int f_j1endRuleX, .ref r_j1unitsX, .ref r_j1unitPhasesX, .int f_j1unitCountX, .ref r_j1frameMethodsX, .ref r_j1placesX, .ref r_j1topsX, .ref r_j1slotsX, .ref r_j1refersX, .int f_j1framesX])), (j2X, .inr (12, [.int f_j2stateX, .int f_j2waitsX, .int f_j2waitsForX, .int f_j2stepsX, .int f_j2phaseX, .int f_j2callClassX, .int f_j2callNameX, .int f_j2callSigX, .ref r_j2callNumbersX, .int f_j2callMethodX, .int f_j2endKindX, .int f_j2endNumberX, .int f_j2endClassX, .int f_j2endRuleX, .ref r_j2unitsX, .ref r_j2unitPhasesX, .int f_j2unitCountX, .ref r_j2frameMethodsX, .ref r_j2placesX, .ref r_j2topsX, .ref r_j2slotsX, .ref r_j2refersX, .int f_j2framesX]))]) G (kV (As := [.int (xs 1)]) (rest := []) G hP hD hS [0, 1, 2, 3, 4, 5, 6, 7, 8, 9, 10, 11, 12, 13, 14, 15, 16, 17, 18] rfl rfl (c_Cw_world l D g h0 (xs 1) r_cwords r_creader r_cchecker r_cfinder r_cwriter r_cmachines r_ctape r_cstock r_csizes r_cmet r_cfound r_cdraft r_cfewestFor r_cfewestNext mm0 mm1 mm2 mm3 ww0 r_m0heap r_m0runs r_m0counts r_m0traceRow f_m0traceCount r_m0startedList f_m0startedCount f_m0present f_m0quantum f_m0stepsDone f_m0turnSteps f_m0turnMost f_m0turnOver r_m0finder r_m0names f_m0fault f_m0wanted f_m0thrown r_m0hkind r_m0hbase r_m0hlength r_m0hdata r_m0hlock r_m0hspare f_m0hleastFree r_m0hfaults r_m0hfaultLocks r_m0htouched r_m0hopen f_m0hopened d_m0hkind i_m0hfaults s_m0hfaults i_m0hfaultLocks s_m0hfaultLocks m0u0 m0u1 m0u2 f_m0u0callClass f_m0u0callSign r_m0u0callNumbers f_m0u0mode f_m0u0steps f_m0u0waits f_m0u0endKind f_m0u0endNumber f_m0u0endClass f_m0u0endRule f_m0u0frames r_m0u0classOf r_m0u0methodOf r_m0u0at r_m0u0depth r_m0u0places f_m0u0starts r_m0u0startClass r_m0u0startFrames f_m0u1callClass f_m0u1callSign r_m0u1callNumbers f_m0u1mode f_m0u1steps f_m0u1waits f_m0u1endKind f_m0u1endNumber f_m0u1endClass f_m0u1endRule f_m0u1frames r_m0u1classOf r_m0u1methodOf r_m0u1at r_m0u1depth r_m0u1places f_m0u1starts r_m0u1startClass r_m0u1startFrames f_m0u2callClass f_m0u2callSign r_m0u2callNumbers f_m0u2mode f_m0u2steps f_m0u2waits f_m0u2endKind f_m0u2endNumber f_m0u2endClass f_m0u2endRule f_m0u2frames r_m0u2classOf r_m0u2methodOf r_m0u2at r_m0u2depth r_m0u2places f_m0u2starts r_m0u2startClass r_m0u2startFrames d_m0counts r_w0names f_w0wrongClass f_w0wrongMethod f_w0wrongAt r_w0rows r_w0above r_w0fields r_w0methods r_w0codes r_w0handlers r_w0extra r_w0orders r_w0classNamed f_w0breaks r_w0marks i_w0fields s_w0fields i_w0methods s_w0methods i_w0codes s_w0codes i_w0handlers s_w0handlers i_w0extra s_w0extra i_w0orders s_w0orders H.size ) w_Cw_world q1207 rfl rfl ⟨Nat.le_of_ble_eq_true rfl, Nat.le_of_ble_eq_true rfl⟩ (fun _ h => absurd h List.not_mem_nil) 0 (ci := 11) rfl rfl rfl hl.1 rfl (Nat.le_of_ble_eq_true rfl) rfl ⟨Nat.le_of_ble_eq_true rfl, (Nat.le_of_ble_eq_true rfl)⟩ d_Law_316) hP hD hS [0, 1, 2, 3, 4, 5, 6, 7, 8, 9, 10, 11, 12, 13, 14, 15, 16, 17, 18] [19, 20, 21, 22, 23, 24, 25, 26, 27, 28, 29, 30, 31, 32, 33, 34, 35, 36, 37, 38, 39, 40, 41, 42, 43, 44] rfl rfl rfl rfl (fun r_1 u_2 H locs hw hP hD hS hzH => ?_)
  have hw : r_1 = woF ((xs 1)) := hw
  have hP : va_P D CL [(h0X, .inr (14, fsX)), (owX, .inl (g 6, 4, .inr (.inr (.inr (.inr (va_up (va_up (va_up (va_up (fun _ => none) 0 (some v0X)) 1 (some v1X)) 2 (some v2X)) 3 (some v3X))))))), (v0X, .inr (13, fw0X)), (r_v0classNamesX, .inl (g 0, 51, .inl d_v0classNamesX)), (r_v0parentsX, .inl (g 0, 51, .inl d_v0parentsX)), (r_v0flagsX, .inl (g 0, 51, .inl d_v0flagsX)), (r_v0faceCountsX, .inl (g 0, 51, .inl d_v0faceCountsX)), (r_v0fieldCountsX, .inl (g 0, 51, .inl d_v0fieldCountsX)), (r_v0methodCountsX, .inl (g 0, 51, .inl d_v0methodCountsX)), (r_v0statesX, .inl (g 0, 51, .inl d_v0statesX)), (r_v0linksX, .inl (g 0, 51, .inl d_v0linksX)), (r_v0methodNamesX, .inl (g 0, 612, .inl d_v0methodNamesX)), (r_v0methodSigsX, .inl (g 0, 612, .inl d_v0methodSigsX)), (r_v0methodFlagsX, .inl (g 0, 612, .inl d_v0methodFlagsX)), (r_v0stacksX, .inl (g 0, 612, .inl d_v0stacksX)), (r_v0localCountsX, .inl (g 0, 612, .inl d_v0localCountsX)), (r_v0codeFromsX, .inl (g 0, 612, .inl d_v0codeFromsX)), (r_v0codeSizesX, .inl (g 0, 612, .inl d_v0codeSizesX)), (r_v0handlerCountsX, .inl (g 0, 612, .inl d_v0handlerCountsX)), (r_v0checkedX, .inl (g 0, 3, .inl d_v0checkedX)), (r_v0doneCountsX, .inl (g 0, 62, .inl d_v0doneCountsX)), (r_v0thingThereX, .inl (g 3, 801, .inl d_v0thingThereX)), (r_v0runsX, .inl (g 7, 3, .inr (.inr (.inr (.inr (va_up (va_up (va_up (fun _ => none) 0 (some j0X)) 1 (some j1X)) 2 (some j2X))))))), (j0X, .inr (12, [.int f_j0stateX, .int f_j0waitsX, .int f_j0waitsForX, .int f_j0stepsX, .int f_j0phaseX, .int f_j0callClassX, .int f_j0callNameX, .int f_j0callSigX, .ref r_j0callNumbersX, .int f_j0callMethodX, .int f_j0endKindX, .int f_j0endNumberX, .int f_j0endClassX, .int f_j0endRuleX, .ref r_j0unitsX, .ref r_j0unitPhasesX, .int f_j0unitCountX, .ref r_j0frameMethodsX, .ref r_j0placesX, .ref r_j0topsX, .ref r_j0slotsX, .ref r_j0refersX, .int f_j0framesX])), (j1X, .inr (12, [.int f_j1stateX, .int f_j1waitsX, .int f_j1waitsForX, .int f_j1stepsX, .int f_j1phaseX, .int f_j1callClassX, .int f_j1callNameX, .int f_j1callSigX, .ref r_j1callNumbersX, .int f_j1callMethodX, .int f_j1endKindX, .int f_j1endNumberX, .int f_j1endClassX, .int f_j1endRuleX, .ref r_j1unitsX, .ref r_j1unitPhasesX, .int f_j1unitCountX, .ref r_j1frameMethodsX, .ref r_j1placesX, .ref r_j1topsX, .ref r_j1slotsX, .ref r_j1refersX, .int f_j1framesX])), (j2X, .inr (12, [.int f_j2stateX, .int f_j2waitsX, .int f_j2waitsForX, .int f_j2stepsX, .int f_j2phaseX, .int f_j2callClassX, .int f_j2callNameX, .int f_j2callSigX, .ref r_j2callNumbersX, .int f_j2callMethodX, .int f_j2endKindX, .int f_j2endNumberX, .int f_j2endClassX, .int f_j2endRuleX, .ref r_j2unitsX, .ref r_j2unitPhasesX, .int f_j2unitCountX, .ref r_j2frameMethodsX, .ref r_j2placesX, .ref r_j2topsX, .ref r_j2slotsX, .ref r_j2refersX, .int f_j2framesX]))] H := hP
  have hD : va_D A [(h0X, .inr (14, fsX)), (owX, .inl (g 6, 4, .inr (.inr (.inr (.inr (va_up (va_up (va_up (va_up (fun _ => none) 0 (some v0X)) 1 (some v1X)) 2 (some v2X)) 3 (some v3X))))))), (v0X, .inr (13, fw0X)), (r_v0classNamesX, .inl (g 0, 51, .inl d_v0classNamesX)), (r_v0parentsX, .inl (g 0, 51, .inl d_v0parentsX)), (r_v0flagsX, .inl (g 0, 51, .inl d_v0flagsX)), (r_v0faceCountsX, .inl (g 0, 51, .inl d_v0faceCountsX)), (r_v0fieldCountsX, .inl (g 0, 51, .inl d_v0fieldCountsX)), (r_v0methodCountsX, .inl (g 0, 51, .inl d_v0methodCountsX)), (r_v0statesX, .inl (g 0, 51, .inl d_v0statesX)), (r_v0linksX, .inl (g 0, 51, .inl d_v0linksX)), (r_v0methodNamesX, .inl (g 0, 612, .inl d_v0methodNamesX)), (r_v0methodSigsX, .inl (g 0, 612, .inl d_v0methodSigsX)), (r_v0methodFlagsX, .inl (g 0, 612, .inl d_v0methodFlagsX)), (r_v0stacksX, .inl (g 0, 612, .inl d_v0stacksX)), (r_v0localCountsX, .inl (g 0, 612, .inl d_v0localCountsX)), (r_v0codeFromsX, .inl (g 0, 612, .inl d_v0codeFromsX)), (r_v0codeSizesX, .inl (g 0, 612, .inl d_v0codeSizesX)), (r_v0handlerCountsX, .inl (g 0, 612, .inl d_v0handlerCountsX)), (r_v0checkedX, .inl (g 0, 3, .inl d_v0checkedX)), (r_v0doneCountsX, .inl (g 0, 62, .inl d_v0doneCountsX)), (r_v0thingThereX, .inl (g 3, 801, .inl d_v0thingThereX)), (r_v0runsX, .inl (g 7, 3, .inr (.inr (.inr (.inr (va_up (va_up (va_up (fun _ => none) 0 (some j0X)) 1 (some j1X)) 2 (some j2X))))))), (j0X, .inr (12, [.int f_j0stateX, .int f_j0waitsX, .int f_j0waitsForX, .int f_j0stepsX, .int f_j0phaseX, .int f_j0callClassX, .int f_j0callNameX, .int f_j0callSigX, .ref r_j0callNumbersX, .int f_j0callMethodX, .int f_j0endKindX, .int f_j0endNumberX, .int f_j0endClassX, .int f_j0endRuleX, .ref r_j0unitsX, .ref r_j0unitPhasesX, .int f_j0unitCountX, .ref r_j0frameMethodsX, .ref r_j0placesX, .ref r_j0topsX, .ref r_j0slotsX, .ref r_j0refersX, .int f_j0framesX])), (j1X, .inr (12, [.int f_j1stateX, .int f_j1waitsX, .int f_j1waitsForX, .int f_j1stepsX, .int f_j1phaseX, .int f_j1callClassX, .int f_j1callNameX, .int f_j1callSigX, .ref r_j1callNumbersX, .int f_j1callMethodX, .int f_j1endKindX, .int f_j1endNumberX, .int f_j1endClassX, .int f_j1endRuleX, .ref r_j1unitsX, .ref r_j1unitPhasesX, .int f_j1unitCountX, .ref r_j1frameMethodsX, .ref r_j1placesX, .ref r_j1topsX, .ref r_j1slotsX, .ref r_j1refersX, .int f_j1framesX])), (j2X, .inr (12, [.int f_j2stateX, .int f_j2waitsX, .int f_j2waitsForX, .int f_j2stepsX, .int f_j2phaseX, .int f_j2callClassX, .int f_j2callNameX, .int f_j2callSigX, .ref r_j2callNumbersX, .int f_j2callMethodX, .int f_j2endKindX, .int f_j2endNumberX, .int f_j2endClassX, .int f_j2endRuleX, .ref r_j2unitsX, .ref r_j2unitPhasesX, .int f_j2unitCountX, .ref r_j2frameMethodsX, .ref r_j2placesX, .ref r_j2topsX, .ref r_j2slotsX, .ref r_j2refersX, .int f_j2framesX]))] := hD
  subst hw
  refine tpst (w := [.int (woF ((xs 1)))]) rfl ?_
  refine lv_aload_n G.1 G.2.1 d_Law_319 rfl (lv_at hl 2 rfl) ?_
  refine lv_aload_n G.1 G.2.1 d_Law_320 rfl (lv_at hl 0 rfl) ?_
  refine lv_iload_n G.1 G.2.1 d_Law_321 rfl (lv_at hl 3 rfl) ?_
  refine lv_iconst (v := nI 1) G.1 G.2.1 d_Law_322 (by decide) ?_
  refine W.eq (g2 := F0 m 323 ls [.int (nI 1), .int (nI 0), .ref b, .ref h0X, .int (woF ((xs 1)))]) rfl ?_
  refine lv_iadd G.1 G.2.1 d_Law_323 ?_
  refine tpi (w := nI 1) (by decide) ?_
  refine va_sld G.1 G.2.1 hX hbl hbA hS (nI_inn (n := 6) (a := 1) (by decide) (by decide)) d_Law_324 ?_
  refine tpi (w := (xs 1)) (by rw [nI_clamp (by decide)]) ?_
  refine kEi (wr := []) G (kV (As := [.int (xs 1)]) (rest := [.int (woF ((xs 1)))]) G hP hD hS [0, 1, 2, 3, 4, 5, 6, 7, 8, 9, 10, 11, 12, 13, 14, 15, 16, 17, 18, 19, 20, 21, 22, 23, 24, 25] rfl rfl (c_Mo_world l D g h0X (xs 1) fsX owX f_kThingX f_kMakeX f_plainSigX v0X v1X v2X v3X fw0X r_v0classNamesX r_v0parentsX r_v0flagsX r_v0faceCountsX r_v0fieldCountsX r_v0methodCountsX r_v0statesX r_v0linksX r_v0methodNamesX r_v0methodSigsX r_v0methodFlagsX r_v0stacksX r_v0localCountsX r_v0codeFromsX r_v0codeSizesX r_v0handlerCountsX r_v0checkedX r_v0doneCountsX r_v0thingThereX r_v0runsX d_v0classNamesX d_v0parentsX d_v0flagsX d_v0faceCountsX d_v0fieldCountsX d_v0methodCountsX d_v0statesX d_v0linksX d_v0methodNamesX d_v0methodSigsX d_v0methodFlagsX d_v0stacksX d_v0localCountsX d_v0codeFromsX d_v0codeSizesX d_v0handlerCountsX d_v0checkedX d_v0doneCountsX d_v0thingThereX j0X j1X j2X f_j0stateX f_j0waitsX f_j0waitsForX f_j0stepsX f_j0phaseX f_j0callClassX f_j0callNameX f_j0callSigX r_j0callNumbersX f_j0callMethodX f_j0endKindX f_j0endNumberX f_j0endClassX f_j0endRuleX r_j0unitsX r_j0unitPhasesX f_j0unitCountX r_j0frameMethodsX r_j0placesX r_j0topsX r_j0slotsX r_j0refersX f_j0framesX f_j1stateX f_j1waitsX f_j1waitsForX f_j1stepsX f_j1phaseX f_j1callClassX f_j1callNameX f_j1callSigX r_j1callNumbersX f_j1callMethodX f_j1endKindX f_j1endNumberX f_j1endClassX f_j1endRuleX r_j1unitsX r_j1unitPhasesX f_j1unitCountX r_j1frameMethodsX r_j1placesX r_j1topsX r_j1slotsX r_j1refersX f_j1framesX f_j2stateX f_j2waitsX f_j2waitsForX f_j2stepsX f_j2phaseX f_j2callClassX f_j2callNameX f_j2callSigX r_j2callNumbersX f_j2callMethodX f_j2endKindX f_j2endNumberX f_j2endClassX f_j2endRuleX r_j2unitsX r_j2unitPhasesX f_j2unitCountX r_j2frameMethodsX r_j2placesX r_j2topsX r_j2slotsX r_j2refersX f_j2framesX H.size glenX gk0X gk1X gk2X gk3X gw_lenX gw_0X gw_3X gw_4X gw_5X gw_7X gw_8X gw_9X gw_10X gw_11X gw_18X gw_19X gw_20X gw_21X gw_22X gw_23X gw_24X gw_25X gw_44X gw_71X gw_49X gw_62X) w_Mo_world q3470 rfl rfl ⟨Nat.le_of_ble_eq_true rfl, Nat.le_of_ble_eq_true rfl⟩ (fun _ h => absurd h List.not_mem_nil) 0 (ci := 14) rfl rfl rfl hl.1 rfl (Nat.le_of_ble_eq_true rfl) rfl ⟨Nat.le_of_ble_eq_true rfl, (Nat.le_of_ble_eq_true rfl)⟩ d_Law_325) hP hD hS [0, 1, 2, 3, 4, 5, 6, 7, 8, 9, 10, 11, 12, 13, 14, 15, 16, 17, 18, 19, 20, 21, 22, 23, 24, 25] [] rfl rfl rfl rfl (fun r_3 u_4 H locs hw hP hD hS hzH => ?_)
  have hw : r_3 = woF ((xs 1)) := hw
  have hP : va_P D CL [] H := hP
  have hD : va_D A [] := hD
  subst hw
  refine tpst (w := [.int (woF ((xs 1))), .int (woF ((xs 1)))]) rfl ?_
  refine lv_icmp_eq (tgt := 1768) G.1 G.2.1 d_Law_328 (by decide) (fun c328 => ?_) (fun c328 => absurd c328 (fun h => h rfl))
  refine lv_iinc (v := nI 6) (lv' := [(3, .int (nI 6)), (0, .ref b), (1, .ref h0), (2, .ref h0X)]) G.1 G.2.1 d_Law_1768 hl (k := 3) rfl (show (nI 0) + Int32.ofInt 6 = nI 6 from by decide) (by decide) rfl (fun ls hl => ?_)
  refine lv_goto (tgt := 18) G.1 G.2.1 d_Law_1771 (by decide) ?_
  refine lv_iload_n G.1 G.2.1 d_Law_18 rfl (lv_at hl 0 rfl) ?_
  refine lv_aload_n G.1 G.2.1 d_Law_19 rfl (lv_at hl 1 rfl) ?_
  refine va_slen G.1 G.2.1 hX hbl hbA hS d_Law_20 ?_
  refine tpi (w := nI 6) rfl ?_
  refine lv_bipush (v := nI 6) G.1 G.2.1 d_Law_21 (by decide) ?_
  refine lv_isub G.1 G.2.1 d_Law_23 ?_
  refine tpi (w := nI 0) (by decide) ?_
  refine lv_icmp_gt (tgt := 1774) G.1 G.2.1 d_Law_24 (by decide) (fun c24 => ?_) (fun c24 => absurd c24 (by decide))
  refine W.eq (g2 := F0 m 1774 ls []) rfl ?_
  refine lv_iconst (v := nI 1) G.1 G.2.1 d_Law_1774 (by decide) ?_
  refine va_forget (fun q hq => hAA _ (hS.2.2 q hq)) ?_
  refine W.widen (k := 600002) (n := 7302232) (Nat.le_of_ble_eq_true rfl) (Nat.le_of_ble_eq_true rfl) ?_
  exact lw_ret G.1 G.2.1 G.2.2.2.1 G.2.2.2.2.1 d_Law_1775
theorem q1243 : Cond.code y_Cw_drop b_Cw_drop 3 (some .int) ∈ lw_ok := lw_okmem (List.mem_of_getElem? (i := 1243) (by decide +kernel)) rfl
theorem q1241 : Cond.instanceMethod y_Cw_drop ∈ lw_ok := lw_okmem (List.mem_of_getElem? (i := 1241) (by decide +kernel)) rfl
theorem q1242 : Cond.selects y_Cw_drop.cls y_Cw_drop y_Cw_drop ∈ lw_ok := lw_okmem (List.mem_of_getElem? (i := 1242) (by decide +kernel)) rfl
theorem w_Cw_drop : CWv y_Cw_drop b_Cw_drop 3 (some .int) 1 ∧ Cond.instanceMethod y_Cw_drop ∈ lw_ok ∧ Cond.selects y_Cw_drop.cls y_Cw_drop y_Cw_drop ∈ lw_ok := ⟨⟨q1243, q329, by decide +kernel, by decide +kernel, by decide +kernel⟩, q1241, q1242⟩
theorem q1240 : Cond.methodLink "ClassWorksLaw" 27 y_Cw_drop ∈ lw_ok := lw_okmem (List.mem_of_getElem? (i := 1240) (by decide +kernel)) rfl
theorem q3481 : Cond.code y_Mo_drop b_Mo_drop 2 (some .int) ∈ lw_ok := lw_okmem (List.mem_of_getElem? (i := 3481) (by decide +kernel)) rfl
theorem q3479 : Cond.instanceMethod y_Mo_drop ∈ lw_ok := lw_okmem (List.mem_of_getElem? (i := 3479) (by decide +kernel)) rfl
theorem q3480 : Cond.selects y_Mo_drop.cls y_Mo_drop y_Mo_drop ∈ lw_ok := lw_okmem (List.mem_of_getElem? (i := 3480) (by decide +kernel)) rfl
theorem w_Mo_drop : CWv y_Mo_drop b_Mo_drop 2 (some .int) 1 ∧ Cond.instanceMethod y_Mo_drop ∈ lw_ok ∧ Cond.selects y_Mo_drop.cls y_Mo_drop y_Mo_drop ∈ lw_ok := ⟨⟨q3481, q348, by decide +kernel, by decide +kernel, by decide +kernel⟩, q3479, q3480⟩
theorem q3478 : Cond.methodLink "ClassWorksLaw" 30 y_Mo_drop ∈ lw_ok := lw_okmem (List.mem_of_getElem? (i := 3478) (by decide +kernel)) rfl
theorem d_Law_333 : decode code 333 = .ok (.aload_n 1, 1) := by decide +kernel
theorem d_Law_334 : decode code 334 = .ok (.aload_n 0, 1) := by decide +kernel
theorem d_Law_335 : decode code 335 = .ok (.iload_n 3, 1) := by decide +kernel
theorem d_Law_336 : decode code 336 = .ok (.iconst 1, 1) := by decide +kernel
theorem d_Law_337 : decode code 337 = .ok (.iadd, 1) := by decide +kernel
theorem d_Law_338 : decode code 338 = .ok (.iaload, 1) := by decide +kernel
theorem d_Law_339 : decode code 339 = .ok (.invokevirtual 27, 3) := by decide +kernel
theorem d_Law_342 : decode code 342 = .ok (.aload_n 2, 1) := by decide +kernel
theorem d_Law_343 : decode code 343 = .ok (.aload_n 0, 1) := by decide +kernel
theorem d_Law_344 : decode code 344 = .ok (.iload_n 3, 1) := by decide +kernel
theorem d_Law_345 : decode code 345 = .ok (.iconst 1, 1) := by decide +kernel
theorem d_Law_346 : decode code 346 = .ok (.iadd, 1) := by decide +kernel
theorem d_Law_347 : decode code 347 = .ok (.iaload, 1) := by decide +kernel
theorem d_Law_348 : decode code 348 = .ok (.invokevirtual 30, 3) := by decide +kernel
theorem d_Law_351 : decode code 351 = .ok (.if_icmp .eq 1417, 3) := by decide +kernel
set_option maxHeartbeats 4000000 in
set_option maxRecDepth 100000 in
theorem law_drop {p : Program} {e : Env} {s : State} {m : MethodId} {below : List Frame} {meth : Method} {c : Code} {l : Launch} {D : va_G} {g : Nat → ClassId} {sl : List SL} {b : Nat} {xs : Nat → Int32} {A : Nat → Prop} (h0 : Nat) (r_cwords : Nat) (r_creader : Nat) (r_cchecker : Nat) (r_cfinder : Nat) (r_cwriter : Nat) (r_cmachines : Nat) (r_ctape : Nat) (r_cstock : Nat) (r_csizes : Nat) (r_cmet : Nat) (r_cfound : Nat) (r_cdraft : Nat) (r_cfewestFor : Nat) (r_cfewestNext : Nat) (mm0 : Nat) (mm1 : Nat) (mm2 : Nat) (mm3 : Nat) (ww0 : Nat) (r_m0heap : Nat) (r_m0runs : Nat) (r_m0counts : Nat) (r_m0traceRow : Nat) (f_m0traceCount : Int32) (r_m0startedList : Nat) (f_m0startedCount : Int32) (f_m0present : Int32) (f_m0quantum : Int32) (f_m0stepsDone : Int32) (f_m0turnSteps : Int32) (f_m0turnMost : Int32) (f_m0turnOver : Int32) (r_m0finder : Nat) (r_m0names : Nat) (f_m0fault : Int32) (f_m0wanted : Int32) (f_m0thrown : Int32) (ww1 : Nat) (r_m1heap : Nat) (r_m1runs : Nat) (r_m1counts : Nat) (r_m1traceRow : Nat) (f_m1traceCount : Int32) (r_m1startedList : Nat) (f_m1startedCount : Int32) (f_m1present : Int32) (f_m1quantum : Int32) (f_m1stepsDone : Int32) (f_m1turnSteps : Int32) (f_m1turnMost : Int32) (f_m1turnOver : Int32) (r_m1finder : Nat) (r_m1names : Nat) (f_m1fault : Int32) (f_m1wanted : Int32) (f_m1thrown : Int32) (ww2 : Nat) (r_m2heap : Nat) (r_m2runs : Nat) (r_m2counts : Nat) (r_m2traceRow : Nat) (f_m2traceCount : Int32) (r_m2startedList : Nat) (f_m2startedCount : Int32) (f_m2present : Int32) (f_m2quantum : Int32) (f_m2stepsDone : Int32) (f_m2turnSteps : Int32) (f_m2turnMost : Int32) (f_m2turnOver : Int32) (r_m2finder : Nat) (r_m2names : Nat) (f_m2fault : Int32) (f_m2wanted : Int32) (f_m2thrown : Int32) (r_w0names : Nat) (f_w0wrongClass : Int32) (f_w0wrongMethod : Int32) (f_w0wrongAt : Int32) (r_w0rows : Nat) (r_w0above : Nat) (r_w0fields : Nat) (r_w0methods : Nat) (r_w0codes : Nat) (r_w0handlers : Nat) (r_w0extra : Nat) (r_w0orders : Nat) (r_w0classNamed : Nat) (f_w0breaks : Int32) (r_w0marks : Nat) (r_w1names : Nat) (f_w1wrongClass : Int32) (f_w1wrongMethod : Int32) (f_w1wrongAt : Int32) (r_w1rows : Nat) (r_w1above : Nat) (r_w1fields : Nat) (r_w1methods : Nat) (r_w1codes : Nat) (r_w1handlers : Nat) (r_w1extra : Nat) (r_w1orders : Nat) (r_w1classNamed : Nat) (f_w1breaks : Int32) (r_w1marks : Nat) (r_w2names : Nat) (f_w2wrongClass : Int32) (f_w2wrongMethod : Int32) (f_w2wrongAt : Int32) (r_w2rows : Nat) (r_w2above : Nat) (r_w2fields : Nat) (r_w2methods : Nat) (r_w2codes : Nat) (r_w2handlers : Nat) (r_w2extra : Nat) (r_w2orders : Nat) (r_w2classNamed : Nat) (f_w2breaks : Int32) (r_w2marks : Nat) (h0X : Nat) (fsX : List Value) (owX : Nat) (v0X : Nat) (v1X : Nat) (v2X : Nat) (v3X : Nat) (fw0X : List Value) (fw1X : List Value) (fw2X : List Value) (G : GV l p s m #[Value.ref b] meth c (⟨"ClassWorksLaw", meth.name, ""⟩ : MethodName) code 4 ret g D sl A) (hX : va_X b 6 xs s s.heap) (hbl : b < s.heap.size) (hbA : ¬ A b) (hAA : ∀ q, A q → s.heap.size ≤ q) {H : Heap} {locs : List Loc} {ls : Array Slot} (glenX : fsX.length = 131) (gk0X : fsX[44]? = some (.ref owX)) (gw0X : fw0X.length = 72) (gt0X : fw0X[0]? = some (.int (nI 0))) (gw1X : fw1X.length = 72) (gt1X : fw1X[0]? = some (.int (nI 0))) (gw2X : fw2X.length = 72) (gt2X : fw2X[0]? = some (.int (nI 0))) (hP : va_P D CL [(h0, .inr (11, [.ref r_cwords, .ref r_creader, .ref r_cchecker, .ref r_cfinder, .ref r_cwriter, .ref r_cmachines, .ref r_ctape, .int (nI 0), .int (-2), .int (nI 60000), .ref r_cstock, .ref r_csizes, .ref r_cmet, .ref r_cfound, .int (nI 0), .ref r_cdraft, .int (nI 0), .int (nI 0), .ref r_cfewestFor, .ref r_cfewestNext])), (r_cmachines, .inl (g 4, 4, .inr (.inr (.inr (.inr (va_up (va_up (va_up (va_up (fun _ => none) 0 (some mm0)) 1 (some mm1)) 2 (some mm2)) 3 (some mm3))))))), (mm0, .inr (4, [.ref ww0, .ref r_m0heap, .ref r_m0runs, .ref r_m0counts, .ref r_m0traceRow, .int f_m0traceCount, .ref r_m0startedList, .int f_m0startedCount, .int f_m0present, .int f_m0quantum, .int f_m0stepsDone, .int f_m0turnSteps, .int f_m0turnMost, .int f_m0turnOver, .ref r_m0finder, .ref r_m0names, .int f_m0fault, .int f_m0wanted, .int f_m0thrown])), (mm1, .inr (4, [.ref ww1, .ref r_m1heap, .ref r_m1runs, .ref r_m1counts, .ref r_m1traceRow, .int f_m1traceCount, .ref r_m1startedList, .int f_m1startedCount, .int f_m1present, .int f_m1quantum, .int f_m1stepsDone, .int f_m1turnSteps, .int f_m1turnMost, .int f_m1turnOver, .ref r_m1finder, .ref r_m1names, .int f_m1fault, .int f_m1wanted, .int f_m1thrown])), (mm2, .inr (4, [.ref ww2, .ref r_m2heap, .ref r_m2runs, .ref r_m2counts, .ref r_m2traceRow, .int f_m2traceCount, .ref r_m2startedList, .int f_m2startedCount, .int f_m2present, .int f_m2quantum, .int f_m2stepsDone, .int f_m2turnSteps, .int f_m2turnMost, .int f_m2turnOver, .ref r_m2finder, .ref r_m2names, .int f_m2fault, .int f_m2wanted, .int f_m2thrown])), (ww0, .inr (9, [.ref r_w0names, .int (nI 0), .int (nI 21), .int f_w0wrongClass, .int f_w0wrongMethod, .int f_w0wrongAt, .ref r_w0rows, .ref r_w0above, .ref r_w0fields, .ref r_w0methods, .ref r_w0codes, .ref r_w0handlers, .ref r_w0extra, .ref r_w0orders, .ref r_w0classNamed, .int f_w0breaks, .ref r_w0marks])), (ww1, .inr (9, [.ref r_w1names, .int (nI 0), .int (nI 21), .int f_w1wrongClass, .int f_w1wrongMethod, .int f_w1wrongAt, .ref r_w1rows, .ref r_w1above, .ref r_w1fields, .ref r_w1methods, .ref r_w1codes, .ref r_w1handlers, .ref r_w1extra, .ref r_w1orders, .ref r_w1classNamed, .int f_w1breaks, .ref r_w1marks])), (ww2, .inr (9, [.ref r_w2names, .int (nI 0), .int (nI 21), .int f_w2wrongClass, .int f_w2wrongMethod, .int f_w2wrongAt, .ref r_w2rows, .ref r_w2above, .ref r_w2fields, .ref r_w2methods, .ref r_w2codes, .ref r_w2handlers, .ref r_w2extra, .ref r_w2orders, .ref r_w2classNamed, .int f_w2breaks, .ref r_w2marks])), (h0X, .inr (14, fsX)), (owX, .inl (g 6, 4, .inr (.inr (.inr (.inr (va_up (va_up (va_up (va_up (fun _ => none) 0 (some v0X)) 1 (some v1X)) 2 (some v2X)) 3 (some v3X))))))), (v0X, .inr (13, fw0X)), (v1X, .inr (13, fw1X)), (v2X, .inr (13, fw2X))] H) (hD : va_D A [(h0, .inr (11, [.ref r_cwords, .ref r_creader, .ref r_cchecker, .ref r_cfinder, .ref r_cwriter, .ref r_cmachines, .ref r_ctape, .int (nI 0), .int (-2), .int (nI 60000), .ref r_cstock, .ref r_csizes, .ref r_cmet, .ref r_cfound, .int (nI 0), .ref r_cdraft, .int (nI 0), .int (nI 0), .ref r_cfewestFor, .ref r_cfewestNext])), (r_cmachines, .inl (g 4, 4, .inr (.inr (.inr (.inr (va_up (va_up (va_up (va_up (fun _ => none) 0 (some mm0)) 1 (some mm1)) 2 (some mm2)) 3 (some mm3))))))), (mm0, .inr (4, [.ref ww0, .ref r_m0heap, .ref r_m0runs, .ref r_m0counts, .ref r_m0traceRow, .int f_m0traceCount, .ref r_m0startedList, .int f_m0startedCount, .int f_m0present, .int f_m0quantum, .int f_m0stepsDone, .int f_m0turnSteps, .int f_m0turnMost, .int f_m0turnOver, .ref r_m0finder, .ref r_m0names, .int f_m0fault, .int f_m0wanted, .int f_m0thrown])), (mm1, .inr (4, [.ref ww1, .ref r_m1heap, .ref r_m1runs, .ref r_m1counts, .ref r_m1traceRow, .int f_m1traceCount, .ref r_m1startedList, .int f_m1startedCount, .int f_m1present, .int f_m1quantum, .int f_m1stepsDone, .int f_m1turnSteps, .int f_m1turnMost, .int f_m1turnOver, .ref r_m1finder, .ref r_m1names, .int f_m1fault, .int f_m1wanted, .int f_m1thrown])), (mm2, .inr (4, [.ref ww2, .ref r_m2heap, .ref r_m2runs, .ref r_m2counts, .ref r_m2traceRow, .int f_m2traceCount, .ref r_m2startedList, .int f_m2startedCount, .int f_m2present, .int f_m2quantum, .int f_m2stepsDone, .int f_m2turnSteps, .int f_m2turnMost, .int f_m2turnOver, .ref r_m2finder, .ref r_m2names, .int f_m2fault, .int f_m2wanted, .int f_m2thrown])), (ww0, .inr (9, [.ref r_w0names, .int (nI 0), .int (nI 21), .int f_w0wrongClass, .int f_w0wrongMethod, .int f_w0wrongAt, .ref r_w0rows, .ref r_w0above, .ref r_w0fields, .ref r_w0methods, .ref r_w0codes, .ref r_w0handlers, .ref r_w0extra, .ref r_w0orders, .ref r_w0classNamed, .int f_w0breaks, .ref r_w0marks])), (ww1, .inr (9, [.ref r_w1names, .int (nI 0), .int (nI 21), .int f_w1wrongClass, .int f_w1wrongMethod, .int f_w1wrongAt, .ref r_w1rows, .ref r_w1above, .ref r_w1fields, .ref r_w1methods, .ref r_w1codes, .ref r_w1handlers, .ref r_w1extra, .ref r_w1orders, .ref r_w1classNamed, .int f_w1breaks, .ref r_w1marks])), (ww2, .inr (9, [.ref r_w2names, .int (nI 0), .int (nI 21), .int f_w2wrongClass, .int f_w2wrongMethod, .int f_w2wrongAt, .ref r_w2rows, .ref r_w2above, .ref r_w2fields, .ref r_w2methods, .ref r_w2codes, .ref r_w2handlers, .ref r_w2extra, .ref r_w2orders, .ref r_w2classNamed, .int f_w2breaks, .ref r_w2marks])), (h0X, .inr (14, fsX)), (owX, .inl (g 6, 4, .inr (.inr (.inr (.inr (va_up (va_up (va_up (va_up (fun _ => none) 0 (some v0X)) 1 (some v1X)) 2 (some v2X)) 3 (some v3X))))))), (v0X, .inr (13, fw0X)), (v1X, .inr (13, fw1X)), (v2X, .inr (13, fw2X))]) (hS : va_S A s.heap H locs) (hl : lv_has ls 4 [(0, .ref b), (1, .ref h0), (2, .ref h0X), (3, .int (nI 0))]) : W p l e room_1 s m #[Value.ref b] below meth c H locs 702 488194 (lw_Z below #[Value.ref b] s) (F0 m 333 ls []) := by
  refine lv_aload_n G.1 G.2.1 d_Law_333 rfl (lv_at hl 1 rfl) ?_
  refine lv_aload_n G.1 G.2.1 d_Law_334 rfl (lv_at hl 0 rfl) ?_
  refine lv_iload_n G.1 G.2.1 d_Law_335 rfl (lv_at hl 3 rfl) ?_
  refine lv_iconst (v := nI 1) G.1 G.2.1 d_Law_336 (by decide) ?_
  refine lv_iadd G.1 G.2.1 d_Law_337 ?_
  refine tpi (w := nI 1) (by decide) ?_
  refine va_sld G.1 G.2.1 hX hbl hbA hS (nI_inn (n := 6) (a := 1) (by decide) (by decide)) d_Law_338 ?_
  refine tpi (w := (xs 1)) (by rw [nI_clamp (by decide)]) ?_
  refine kEi (wr := [(h0X, .inr (14, fsX)), (owX, .inl (g 6, 4, .inr (.inr (.inr (.inr (va_up (va_up (va_up (va_up (fun _ => none) 0 (some v0X)) 1 (some v1X)) 2 (some v2X)) 3 (some v3X))))))), (v0X, .inr (13, fw0X)), (v1X, .inr (13, fw1X)), (v2X, .inr (13, fw2X))]) G (kV (As := [.int (xs 1)]) (rest := []) G hP hD hS [0, 1, 2, 3, 4, 5, 6, 7] rfl rfl (c_Cw_drop l D g h0 (xs 1) r_cwords r_creader r_cchecker r_cfinder r_cwriter r_cmachines r_ctape r_cstock r_csizes r_cmet r_cfound r_cdraft r_cfewestFor r_cfewestNext mm0 mm1 mm2 mm3 ww0 r_m0heap r_m0runs r_m0counts r_m0traceRow f_m0traceCount r_m0startedList f_m0startedCount f_m0present f_m0quantum f_m0stepsDone f_m0turnSteps f_m0turnMost f_m0turnOver r_m0finder r_m0names f_m0fault f_m0wanted f_m0thrown ww1 r_m1heap r_m1runs r_m1counts r_m1traceRow f_m1traceCount r_m1startedList f_m1startedCount f_m1present f_m1quantum f_m1stepsDone f_m1turnSteps f_m1turnMost f_m1turnOver r_m1finder r_m1names f_m1fault f_m1wanted f_m1thrown ww2 r_m2heap r_m2runs r_m2counts r_m2traceRow f_m2traceCount r_m2startedList f_m2startedCount f_m2present f_m2quantum f_m2stepsDone f_m2turnSteps f_m2turnMost f_m2turnOver r_m2finder r_m2names f_m2fault f_m2wanted f_m2thrown r_w0names f_w0wrongClass f_w0wrongMethod f_w0wrongAt r_w0rows r_w0above r_w0fields r_w0methods r_w0codes r_w0handlers r_w0extra r_w0orders r_w0classNamed f_w0breaks r_w0marks r_w1names f_w1wrongClass f_w1wrongMethod f_w1wrongAt r_w1rows r_w1above r_w1fields r_w1methods r_w1codes r_w1handlers r_w1extra r_w1orders r_w1classNamed f_w1breaks r_w1marks r_w2names f_w2wrongClass f_w2wrongMethod f_w2wrongAt r_w2rows r_w2above r_w2fields r_w2methods r_w2codes r_w2handlers r_w2extra r_w2orders r_w2classNamed f_w2breaks r_w2marks H.size ) w_Cw_drop q1240 rfl rfl ⟨Nat.le_of_ble_eq_true rfl, Nat.le_of_ble_eq_true rfl⟩ (fun _ h => absurd h List.not_mem_nil) 0 (ci := 11) rfl rfl rfl hl.1 rfl (Nat.le_of_ble_eq_true rfl) rfl ⟨Nat.le_of_ble_eq_true rfl, (Nat.le_of_ble_eq_true rfl)⟩ d_Law_339) hP hD hS [0, 1, 2, 3, 4, 5, 6, 7] [8, 9, 10, 11, 12] rfl rfl rfl rfl (fun r_1 u_2 H locs hw hP hD hS hzH => ?_)
  have hw : r_1 = (-1) := hw
  have hP : va_P D CL [(h0X, .inr (14, fsX)), (owX, .inl (g 6, 4, .inr (.inr (.inr (.inr (va_up (va_up (va_up (va_up (fun _ => none) 0 (some v0X)) 1 (some v1X)) 2 (some v2X)) 3 (some v3X))))))), (v0X, .inr (13, fw0X)), (v1X, .inr (13, fw1X)), (v2X, .inr (13, fw2X))] H := hP
  have hD : va_D A [(h0X, .inr (14, fsX)), (owX, .inl (g 6, 4, .inr (.inr (.inr (.inr (va_up (va_up (va_up (va_up (fun _ => none) 0 (some v0X)) 1 (some v1X)) 2 (some v2X)) 3 (some v3X))))))), (v0X, .inr (13, fw0X)), (v1X, .inr (13, fw1X)), (v2X, .inr (13, fw2X))] := hD
  subst hw
  refine tpst (w := [.int (-1)]) rfl ?_
  refine lv_aload_n G.1 G.2.1 d_Law_342 rfl (lv_at hl 2 rfl) ?_
  refine lv_aload_n G.1 G.2.1 d_Law_343 rfl (lv_at hl 0 rfl) ?_
  refine lv_iload_n G.1 G.2.1 d_Law_344 rfl (lv_at hl 3 rfl) ?_
  refine lv_iconst (v := nI 1) G.1 G.2.1 d_Law_345 (by decide) ?_
  refine W.eq (g2 := F0 m 346 ls [.int (nI 1), .int (nI 0), .ref b, .ref h0X, .int (-1)]) rfl ?_
  refine lv_iadd G.1 G.2.1 d_Law_346 ?_
  refine tpi (w := nI 1) (by decide) ?_
  refine va_sld G.1 G.2.1 hX hbl hbA hS (nI_inn (n := 6) (a := 1) (by decide) (by decide)) d_Law_347 ?_
  refine tpi (w := (xs 1)) (by rw [nI_clamp (by decide)]) ?_
  refine kEi (wr := []) G (kV (As := [.int (xs 1)]) (rest := [.int (-1)]) G hP hD hS [0, 1, 2, 3, 4] rfl rfl (c_Mo_drop l D g h0X (xs 1) fsX owX v0X v1X v2X v3X fw0X fw1X fw2X H.size glenX gk0X gw0X gt0X gw1X gt1X gw2X gt2X) w_Mo_drop q3478 rfl rfl ⟨Nat.le_of_ble_eq_true rfl, Nat.le_of_ble_eq_true rfl⟩ (fun _ h => absurd h List.not_mem_nil) 0 (ci := 14) rfl rfl rfl hl.1 rfl (Nat.le_of_ble_eq_true rfl) rfl ⟨Nat.le_of_ble_eq_true rfl, (Nat.le_of_ble_eq_true rfl)⟩ d_Law_348) hP hD hS [0, 1, 2, 3, 4] [] rfl rfl rfl rfl (fun r_3 u_4 H locs hw hP hD hS hzH => ?_)
  have hw : r_3 = (-1) := hw
  have hP : va_P D CL [] H := hP
  have hD : va_D A [] := hD
  subst hw
  refine tpst (w := [.int (-1), .int (-1)]) rfl ?_
  refine lv_icmp_eq (tgt := 1768) G.1 G.2.1 d_Law_351 (by decide) (fun c351 => ?_) (fun c351 => absurd c351 (fun h => h rfl))
  refine lv_iinc (v := nI 6) (lv' := [(3, .int (nI 6)), (0, .ref b), (1, .ref h0), (2, .ref h0X)]) G.1 G.2.1 d_Law_1768 hl (k := 3) rfl (show (nI 0) + Int32.ofInt 6 = nI 6 from by decide) (by decide) rfl (fun ls hl => ?_)
  refine lv_goto (tgt := 18) G.1 G.2.1 d_Law_1771 (by decide) ?_
  refine lv_iload_n G.1 G.2.1 d_Law_18 rfl (lv_at hl 0 rfl) ?_
  refine lv_aload_n G.1 G.2.1 d_Law_19 rfl (lv_at hl 1 rfl) ?_
  refine va_slen G.1 G.2.1 hX hbl hbA hS d_Law_20 ?_
  refine tpi (w := nI 6) rfl ?_
  refine lv_bipush (v := nI 6) G.1 G.2.1 d_Law_21 (by decide) ?_
  refine lv_isub G.1 G.2.1 d_Law_23 ?_
  refine tpi (w := nI 0) (by decide) ?_
  refine lv_icmp_gt (tgt := 1774) G.1 G.2.1 d_Law_24 (by decide) (fun c24 => ?_) (fun c24 => absurd c24 (by decide))
  refine W.eq (g2 := F0 m 1774 ls []) rfl ?_
  refine lv_iconst (v := nI 1) G.1 G.2.1 d_Law_1774 (by decide) ?_
  refine va_forget (fun q hq => hAA _ (hS.2.2 q hq)) ?_
  refine W.widen (k := 600002) (n := 7302232) (Nat.le_of_ble_eq_true rfl) (Nat.le_of_ble_eq_true rfl) ?_
  exact lw_ret G.1 G.2.1 G.2.2.2.1 G.2.2.2.2.1 d_Law_1775
theorem q1255 : Cond.code y_Cw_define b_Cw_define 4 (some .int) ∈ lw_ok := lw_okmem (List.mem_of_getElem? (i := 1255) (by decide +kernel)) rfl
theorem q1253 : Cond.instanceMethod y_Cw_define ∈ lw_ok := lw_okmem (List.mem_of_getElem? (i := 1253) (by decide +kernel)) rfl
theorem q1254 : Cond.selects y_Cw_define.cls y_Cw_define y_Cw_define ∈ lw_ok := lw_okmem (List.mem_of_getElem? (i := 1254) (by decide +kernel)) rfl
theorem w_Cw_define : CWv y_Cw_define b_Cw_define 4 (some .int) 1 ∧ Cond.instanceMethod y_Cw_define ∈ lw_ok ∧ Cond.selects y_Cw_define.cls y_Cw_define y_Cw_define ∈ lw_ok := ⟨⟨q1255, q329, by decide +kernel, by decide +kernel, by decide +kernel⟩, q1253, q1254⟩
theorem q1252 : Cond.methodLink "ClassWorksLaw" 31 y_Cw_define ∈ lw_ok := lw_okmem (List.mem_of_getElem? (i := 1252) (by decide +kernel)) rfl
theorem q3489 : Cond.code y_Mo_define b_Mo_define 3 (some .int) ∈ lw_ok := lw_okmem (List.mem_of_getElem? (i := 3489) (by decide +kernel)) rfl
theorem q3487 : Cond.instanceMethod y_Mo_define ∈ lw_ok := lw_okmem (List.mem_of_getElem? (i := 3487) (by decide +kernel)) rfl
theorem q3488 : Cond.selects y_Mo_define.cls y_Mo_define y_Mo_define ∈ lw_ok := lw_okmem (List.mem_of_getElem? (i := 3488) (by decide +kernel)) rfl
theorem w_Mo_define : CWv y_Mo_define b_Mo_define 3 (some .int) 1 ∧ Cond.instanceMethod y_Mo_define ∈ lw_ok ∧ Cond.selects y_Mo_define.cls y_Mo_define y_Mo_define ∈ lw_ok := ⟨⟨q3489, q348, by decide +kernel, by decide +kernel, by decide +kernel⟩, q3487, q3488⟩
theorem q3486 : Cond.methodLink "ClassWorksLaw" 34 y_Mo_define ∈ lw_ok := lw_okmem (List.mem_of_getElem? (i := 3486) (by decide +kernel)) rfl
theorem d_Law_356 : decode code 356 = .ok (.aload_n 1, 1) := by decide +kernel
theorem d_Law_357 : decode code 357 = .ok (.aload_n 0, 1) := by decide +kernel
theorem d_Law_358 : decode code 358 = .ok (.iload_n 3, 1) := by decide +kernel
theorem d_Law_359 : decode code 359 = .ok (.iconst 1, 1) := by decide +kernel
theorem d_Law_360 : decode code 360 = .ok (.iadd, 1) := by decide +kernel
theorem d_Law_361 : decode code 361 = .ok (.iaload, 1) := by decide +kernel
theorem d_Law_362 : decode code 362 = .ok (.invokevirtual 31, 3) := by decide +kernel
theorem d_Law_365 : decode code 365 = .ok (.aload_n 2, 1) := by decide +kernel
theorem d_Law_366 : decode code 366 = .ok (.aload_n 0, 1) := by decide +kernel
theorem d_Law_367 : decode code 367 = .ok (.iload_n 3, 1) := by decide +kernel
theorem d_Law_368 : decode code 368 = .ok (.iconst 1, 1) := by decide +kernel
theorem d_Law_369 : decode code 369 = .ok (.iadd, 1) := by decide +kernel
theorem d_Law_370 : decode code 370 = .ok (.iaload, 1) := by decide +kernel
theorem d_Law_371 : decode code 371 = .ok (.invokevirtual 34, 3) := by decide +kernel
theorem d_Law_374 : decode code 374 = .ok (.if_icmp .eq 1394, 3) := by decide +kernel
set_option maxHeartbeats 4000000 in
set_option maxRecDepth 100000 in
theorem law_define {p : Program} {e : Env} {s : State} {m : MethodId} {below : List Frame} {meth : Method} {c : Code} {l : Launch} {D : va_G} {g : Nat → ClassId} {sl : List SL} {b : Nat} {xs : Nat → Int32} {A : Nat → Prop} (h0 : Nat) (r_cwords : Nat) (r_creader : Nat) (r_cchecker : Nat) (r_cfinder : Nat) (r_cwriter : Nat) (r_cmachines : Nat) (r_ctape : Nat) (r_cstock : Nat) (r_csizes : Nat) (r_cmet : Nat) (r_cfound : Nat) (r_cdraft : Nat) (r_cfewestFor : Nat) (r_cfewestNext : Nat) (mm0 : Nat) (mm1 : Nat) (mm2 : Nat) (mm3 : Nat) (ww0 : Nat) (r_m0heap : Nat) (r_m0runs : Nat) (r_m0counts : Nat) (r_m0traceRow : Nat) (f_m0traceCount : Int32) (r_m0startedList : Nat) (f_m0startedCount : Int32) (f_m0present : Int32) (f_m0quantum : Int32) (f_m0stepsDone : Int32) (f_m0turnSteps : Int32) (f_m0turnMost : Int32) (f_m0turnOver : Int32) (r_m0finder : Nat) (r_m0names : Nat) (f_m0fault : Int32) (f_m0wanted : Int32) (f_m0thrown : Int32) (ww1 : Nat) (r_m1heap : Nat) (r_m1runs : Nat) (r_m1counts : Nat) (r_m1traceRow : Nat) (f_m1traceCount : Int32) (r_m1startedList : Nat) (f_m1startedCount : Int32) (f_m1present : Int32) (f_m1quantum : Int32) (f_m1stepsDone : Int32) (f_m1turnSteps : Int32) (f_m1turnMost : Int32) (f_m1turnOver : Int32) (r_m1finder : Nat) (r_m1names : Nat) (f_m1fault : Int32) (f_m1wanted : Int32) (f_m1thrown : Int32) (ww2 : Nat) (r_m2heap : Nat) (r_m2runs : Nat) (r_m2counts : Nat) (r_m2traceRow : Nat) (f_m2traceCount : Int32) (r_m2startedList : Nat) (f_m2startedCount : Int32) (f_m2present : Int32) (f_m2quantum : Int32) (f_m2stepsDone : Int32) (f_m2turnSteps : Int32) (f_m2turnMost : Int32) (f_m2turnOver : Int32) (r_m2finder : Nat) (r_m2names : Nat) (f_m2fault : Int32) (f_m2wanted : Int32) (f_m2thrown : Int32) (r_w0names : Nat) (f_w0wrongClass : Int32) (f_w0wrongMethod : Int32) (f_w0wrongAt : Int32) (r_w0rows : Nat) (r_w0above : Nat) (r_w0fields : Nat) (r_w0methods : Nat) (r_w0codes : Nat) (r_w0handlers : Nat) (r_w0extra : Nat) (r_w0orders : Nat) (r_w0classNamed : Nat) (f_w0breaks : Int32) (r_w0marks : Nat) (r_w1names : Nat) (f_w1wrongClass : Int32) (f_w1wrongMethod : Int32) (f_w1wrongAt : Int32) (r_w1rows : Nat) (r_w1above : Nat) (r_w1fields : Nat) (r_w1methods : Nat) (r_w1codes : Nat) (r_w1handlers : Nat) (r_w1extra : Nat) (r_w1orders : Nat) (r_w1classNamed : Nat) (f_w1breaks : Int32) (r_w1marks : Nat) (r_w2names : Nat) (f_w2wrongClass : Int32) (f_w2wrongMethod : Int32) (f_w2wrongAt : Int32) (r_w2rows : Nat) (r_w2above : Nat) (r_w2fields : Nat) (r_w2methods : Nat) (r_w2codes : Nat) (r_w2handlers : Nat) (r_w2extra : Nat) (r_w2orders : Nat) (r_w2classNamed : Nat) (f_w2breaks : Int32) (r_w2marks : Nat) (h0X : Nat) (fsX : List Value) (owX : Nat) (v0X : Nat) (v1X : Nat) (v2X : Nat) (v3X : Nat) (fw0X : List Value) (fw1X : List Value) (fw2X : List Value) (G : GV l p s m #[Value.ref b] meth c (⟨"ClassWorksLaw", meth.name, ""⟩ : MethodName) code 4 ret g D sl A) (hX : va_X b 6 xs s s.heap) (hbl : b < s.heap.size) (hbA : ¬ A b) (hAA : ∀ q, A q → s.heap.size ≤ q) {H : Heap} {locs : List Loc} {ls : Array Slot} (glenX : fsX.length = 131) (gk0X : fsX[44]? = some (.ref owX)) (gw0X : fw0X.length = 72) (gt0X : fw0X[0]? = some (.int (nI 0))) (gw1X : fw1X.length = 72) (gt1X : fw1X[0]? = some (.int (nI 0))) (gw2X : fw2X.length = 72) (gt2X : fw2X[0]? = some (.int (nI 0))) (hP : va_P D CL [(h0, .inr (11, [.ref r_cwords, .ref r_creader, .ref r_cchecker, .ref r_cfinder, .ref r_cwriter, .ref r_cmachines, .ref r_ctape, .int (nI 0), .int (-2), .int (nI 60000), .ref r_cstock, .ref r_csizes, .ref r_cmet, .ref r_cfound, .int (nI 0), .ref r_cdraft, .int (nI 0), .int (nI 0), .ref r_cfewestFor, .ref r_cfewestNext])), (r_cmachines, .inl (g 4, 4, .inr (.inr (.inr (.inr (va_up (va_up (va_up (va_up (fun _ => none) 0 (some mm0)) 1 (some mm1)) 2 (some mm2)) 3 (some mm3))))))), (mm0, .inr (4, [.ref ww0, .ref r_m0heap, .ref r_m0runs, .ref r_m0counts, .ref r_m0traceRow, .int f_m0traceCount, .ref r_m0startedList, .int f_m0startedCount, .int f_m0present, .int f_m0quantum, .int f_m0stepsDone, .int f_m0turnSteps, .int f_m0turnMost, .int f_m0turnOver, .ref r_m0finder, .ref r_m0names, .int f_m0fault, .int f_m0wanted, .int f_m0thrown])), (mm1, .inr (4, [.ref ww1, .ref r_m1heap, .ref r_m1runs, .ref r_m1counts, .ref r_m1traceRow, .int f_m1traceCount, .ref r_m1startedList, .int f_m1startedCount, .int f_m1present, .int f_m1quantum, .int f_m1stepsDone, .int f_m1turnSteps, .int f_m1turnMost, .int f_m1turnOver, .ref r_m1finder, .ref r_m1names, .int f_m1fault, .int f_m1wanted, .int f_m1thrown])), (mm2, .inr (4, [.ref ww2, .ref r_m2heap, .ref r_m2runs, .ref r_m2counts, .ref r_m2traceRow, .int f_m2traceCount, .ref r_m2startedList, .int f_m2startedCount, .int f_m2present, .int f_m2quantum, .int f_m2stepsDone, .int f_m2turnSteps, .int f_m2turnMost, .int f_m2turnOver, .ref r_m2finder, .ref r_m2names, .int f_m2fault, .int f_m2wanted, .int f_m2thrown])), (ww0, .inr (9, [.ref r_w0names, .int (nI 0), .int (nI 21), .int f_w0wrongClass, .int f_w0wrongMethod, .int f_w0wrongAt, .ref r_w0rows, .ref r_w0above, .ref r_w0fields, .ref r_w0methods, .ref r_w0codes, .ref r_w0handlers, .ref r_w0extra, .ref r_w0orders, .ref r_w0classNamed, .int f_w0breaks, .ref r_w0marks])), (ww1, .inr (9, [.ref r_w1names, .int (nI 0), .int (nI 21), .int f_w1wrongClass, .int f_w1wrongMethod, .int f_w1wrongAt, .ref r_w1rows, .ref r_w1above, .ref r_w1fields, .ref r_w1methods, .ref r_w1codes, .ref r_w1handlers, .ref r_w1extra, .ref r_w1orders, .ref r_w1classNamed, .int f_w1breaks, .ref r_w1marks])), (ww2, .inr (9, [.ref r_w2names, .int (nI 0), .int (nI 21), .int f_w2wrongClass, .int f_w2wrongMethod, .int f_w2wrongAt, .ref r_w2rows, .ref r_w2above, .ref r_w2fields, .ref r_w2methods, .ref r_w2codes, .ref r_w2handlers, .ref r_w2extra, .ref r_w2orders, .ref r_w2classNamed, .int f_w2breaks, .ref r_w2marks])), (h0X, .inr (14, fsX)), (owX, .inl (g 6, 4, .inr (.inr (.inr (.inr (va_up (va_up (va_up (va_up (fun _ => none) 0 (some v0X)) 1 (some v1X)) 2 (some v2X)) 3 (some v3X))))))), (v0X, .inr (13, fw0X)), (v1X, .inr (13, fw1X)), (v2X, .inr (13, fw2X))] H) (hD : va_D A [(h0, .inr (11, [.ref r_cwords, .ref r_creader, .ref r_cchecker, .ref r_cfinder, .ref r_cwriter, .ref r_cmachines, .ref r_ctape, .int (nI 0), .int (-2), .int (nI 60000), .ref r_cstock, .ref r_csizes, .ref r_cmet, .ref r_cfound, .int (nI 0), .ref r_cdraft, .int (nI 0), .int (nI 0), .ref r_cfewestFor, .ref r_cfewestNext])), (r_cmachines, .inl (g 4, 4, .inr (.inr (.inr (.inr (va_up (va_up (va_up (va_up (fun _ => none) 0 (some mm0)) 1 (some mm1)) 2 (some mm2)) 3 (some mm3))))))), (mm0, .inr (4, [.ref ww0, .ref r_m0heap, .ref r_m0runs, .ref r_m0counts, .ref r_m0traceRow, .int f_m0traceCount, .ref r_m0startedList, .int f_m0startedCount, .int f_m0present, .int f_m0quantum, .int f_m0stepsDone, .int f_m0turnSteps, .int f_m0turnMost, .int f_m0turnOver, .ref r_m0finder, .ref r_m0names, .int f_m0fault, .int f_m0wanted, .int f_m0thrown])), (mm1, .inr (4, [.ref ww1, .ref r_m1heap, .ref r_m1runs, .ref r_m1counts, .ref r_m1traceRow, .int f_m1traceCount, .ref r_m1startedList, .int f_m1startedCount, .int f_m1present, .int f_m1quantum, .int f_m1stepsDone, .int f_m1turnSteps, .int f_m1turnMost, .int f_m1turnOver, .ref r_m1finder, .ref r_m1names, .int f_m1fault, .int f_m1wanted, .int f_m1thrown])), (mm2, .inr (4, [.ref ww2, .ref r_m2heap, .ref r_m2runs, .ref r_m2counts, .ref r_m2traceRow, .int f_m2traceCount, .ref r_m2startedList, .int f_m2startedCount, .int f_m2present, .int f_m2quantum, .int f_m2stepsDone, .int f_m2turnSteps, .int f_m2turnMost, .int f_m2turnOver, .ref r_m2finder, .ref r_m2names, .int f_m2fault, .int f_m2wanted, .int f_m2thrown])), (ww0, .inr (9, [.ref r_w0names, .int (nI 0), .int (nI 21), .int f_w0wrongClass, .int f_w0wrongMethod, .int f_w0wrongAt, .ref r_w0rows, .ref r_w0above, .ref r_w0fields, .ref r_w0methods, .ref r_w0codes, .ref r_w0handlers, .ref r_w0extra, .ref r_w0orders, .ref r_w0classNamed, .int f_w0breaks, .ref r_w0marks])), (ww1, .inr (9, [.ref r_w1names, .int (nI 0), .int (nI 21), .int f_w1wrongClass, .int f_w1wrongMethod, .int f_w1wrongAt, .ref r_w1rows, .ref r_w1above, .ref r_w1fields, .ref r_w1methods, .ref r_w1codes, .ref r_w1handlers, .ref r_w1extra, .ref r_w1orders, .ref r_w1classNamed, .int f_w1breaks, .ref r_w1marks])), (ww2, .inr (9, [.ref r_w2names, .int (nI 0), .int (nI 21), .int f_w2wrongClass, .int f_w2wrongMethod, .int f_w2wrongAt, .ref r_w2rows, .ref r_w2above, .ref r_w2fields, .ref r_w2methods, .ref r_w2codes, .ref r_w2handlers, .ref r_w2extra, .ref r_w2orders, .ref r_w2classNamed, .int f_w2breaks, .ref r_w2marks])), (h0X, .inr (14, fsX)), (owX, .inl (g 6, 4, .inr (.inr (.inr (.inr (va_up (va_up (va_up (va_up (fun _ => none) 0 (some v0X)) 1 (some v1X)) 2 (some v2X)) 3 (some v3X))))))), (v0X, .inr (13, fw0X)), (v1X, .inr (13, fw1X)), (v2X, .inr (13, fw2X))]) (hS : va_S A s.heap H locs) (hl : lv_has ls 4 [(0, .ref b), (1, .ref h0), (2, .ref h0X), (3, .int (nI 0))]) : W p l e room_1 s m #[Value.ref b] below meth c H locs 702 488194 (lw_Z below #[Value.ref b] s) (F0 m 356 ls []) := by
  refine lv_aload_n G.1 G.2.1 d_Law_356 rfl (lv_at hl 1 rfl) ?_
  refine lv_aload_n G.1 G.2.1 d_Law_357 rfl (lv_at hl 0 rfl) ?_
  refine lv_iload_n G.1 G.2.1 d_Law_358 rfl (lv_at hl 3 rfl) ?_
  refine lv_iconst (v := nI 1) G.1 G.2.1 d_Law_359 (by decide) ?_
  refine lv_iadd G.1 G.2.1 d_Law_360 ?_
  refine tpi (w := nI 1) (by decide) ?_
  refine va_sld G.1 G.2.1 hX hbl hbA hS (nI_inn (n := 6) (a := 1) (by decide) (by decide)) d_Law_361 ?_
  refine tpi (w := (xs 1)) (by rw [nI_clamp (by decide)]) ?_
  refine kEi (wr := [(h0X, .inr (14, fsX)), (owX, .inl (g 6, 4, .inr (.inr (.inr (.inr (va_up (va_up (va_up (va_up (fun _ => none) 0 (some v0X)) 1 (some v1X)) 2 (some v2X)) 3 (some v3X))))))), (v0X, .inr (13, fw0X)), (v1X, .inr (13, fw1X)), (v2X, .inr (13, fw2X))]) G (kV (As := [.int (xs 1)]) (rest := []) G hP hD hS [0, 1, 2, 3, 4, 5, 6, 7] rfl rfl (c_Cw_define l D g h0 (xs 1) r_cwords r_creader r_cchecker r_cfinder r_cwriter r_cmachines r_ctape r_cstock r_csizes r_cmet r_cfound r_cdraft r_cfewestFor r_cfewestNext mm0 mm1 mm2 mm3 ww0 r_m0heap r_m0runs r_m0counts r_m0traceRow f_m0traceCount r_m0startedList f_m0startedCount f_m0present f_m0quantum f_m0stepsDone f_m0turnSteps f_m0turnMost f_m0turnOver r_m0finder r_m0names f_m0fault f_m0wanted f_m0thrown ww1 r_m1heap r_m1runs r_m1counts r_m1traceRow f_m1traceCount r_m1startedList f_m1startedCount f_m1present f_m1quantum f_m1stepsDone f_m1turnSteps f_m1turnMost f_m1turnOver r_m1finder r_m1names f_m1fault f_m1wanted f_m1thrown ww2 r_m2heap r_m2runs r_m2counts r_m2traceRow f_m2traceCount r_m2startedList f_m2startedCount f_m2present f_m2quantum f_m2stepsDone f_m2turnSteps f_m2turnMost f_m2turnOver r_m2finder r_m2names f_m2fault f_m2wanted f_m2thrown r_w0names f_w0wrongClass f_w0wrongMethod f_w0wrongAt r_w0rows r_w0above r_w0fields r_w0methods r_w0codes r_w0handlers r_w0extra r_w0orders r_w0classNamed f_w0breaks r_w0marks r_w1names f_w1wrongClass f_w1wrongMethod f_w1wrongAt r_w1rows r_w1above r_w1fields r_w1methods r_w1codes r_w1handlers r_w1extra r_w1orders r_w1classNamed f_w1breaks r_w1marks r_w2names f_w2wrongClass f_w2wrongMethod f_w2wrongAt r_w2rows r_w2above r_w2fields r_w2methods r_w2codes r_w2handlers r_w2extra r_w2orders r_w2classNamed f_w2breaks r_w2marks H.size ) w_Cw_define q1252 rfl rfl ⟨Nat.le_of_ble_eq_true rfl, Nat.le_of_ble_eq_true rfl⟩ (fun _ h => absurd h List.not_mem_nil) 0 (ci := 11) rfl rfl rfl hl.1 rfl (Nat.le_of_ble_eq_true rfl) rfl ⟨Nat.le_of_ble_eq_true rfl, (Nat.le_of_ble_eq_true rfl)⟩ d_Law_362) hP hD hS [0, 1, 2, 3, 4, 5, 6, 7] [8, 9, 10, 11, 12] rfl rfl rfl rfl (fun r_1 u_2 H locs hw hP hD hS hzH => ?_)
  have hw : r_1 = (-1) := hw
  have hP : va_P D CL [(h0X, .inr (14, fsX)), (owX, .inl (g 6, 4, .inr (.inr (.inr (.inr (va_up (va_up (va_up (va_up (fun _ => none) 0 (some v0X)) 1 (some v1X)) 2 (some v2X)) 3 (some v3X))))))), (v0X, .inr (13, fw0X)), (v1X, .inr (13, fw1X)), (v2X, .inr (13, fw2X))] H := hP
  have hD : va_D A [(h0X, .inr (14, fsX)), (owX, .inl (g 6, 4, .inr (.inr (.inr (.inr (va_up (va_up (va_up (va_up (fun _ => none) 0 (some v0X)) 1 (some v1X)) 2 (some v2X)) 3 (some v3X))))))), (v0X, .inr (13, fw0X)), (v1X, .inr (13, fw1X)), (v2X, .inr (13, fw2X))] := hD
  subst hw
  refine tpst (w := [.int (-1)]) rfl ?_
  refine lv_aload_n G.1 G.2.1 d_Law_365 rfl (lv_at hl 2 rfl) ?_
  refine lv_aload_n G.1 G.2.1 d_Law_366 rfl (lv_at hl 0 rfl) ?_
  refine lv_iload_n G.1 G.2.1 d_Law_367 rfl (lv_at hl 3 rfl) ?_
  refine lv_iconst (v := nI 1) G.1 G.2.1 d_Law_368 (by decide) ?_
  refine W.eq (g2 := F0 m 369 ls [.int (nI 1), .int (nI 0), .ref b, .ref h0X, .int (-1)]) rfl ?_
  refine lv_iadd G.1 G.2.1 d_Law_369 ?_
  refine tpi (w := nI 1) (by decide) ?_
  refine va_sld G.1 G.2.1 hX hbl hbA hS (nI_inn (n := 6) (a := 1) (by decide) (by decide)) d_Law_370 ?_
  refine tpi (w := (xs 1)) (by rw [nI_clamp (by decide)]) ?_
  refine kEi (wr := []) G (kV (As := [.int (xs 1)]) (rest := [.int (-1)]) G hP hD hS [0, 1, 2, 3, 4] rfl rfl (c_Mo_define l D g h0X (xs 1) fsX owX v0X v1X v2X v3X fw0X fw1X fw2X H.size glenX gk0X gw0X gt0X gw1X gt1X gw2X gt2X) w_Mo_define q3486 rfl rfl ⟨Nat.le_of_ble_eq_true rfl, Nat.le_of_ble_eq_true rfl⟩ (fun _ h => absurd h List.not_mem_nil) 0 (ci := 14) rfl rfl rfl hl.1 rfl (Nat.le_of_ble_eq_true rfl) rfl ⟨Nat.le_of_ble_eq_true rfl, (Nat.le_of_ble_eq_true rfl)⟩ d_Law_371) hP hD hS [0, 1, 2, 3, 4] [] rfl rfl rfl rfl (fun r_3 u_4 H locs hw hP hD hS hzH => ?_)
  have hw : r_3 = (-1) := hw
  have hP : va_P D CL [] H := hP
  have hD : va_D A [] := hD
  subst hw
  refine tpst (w := [.int (-1), .int (-1)]) rfl ?_
  refine lv_icmp_eq (tgt := 1768) G.1 G.2.1 d_Law_374 (by decide) (fun c374 => ?_) (fun c374 => absurd c374 (fun h => h rfl))
  refine lv_iinc (v := nI 6) (lv' := [(3, .int (nI 6)), (0, .ref b), (1, .ref h0), (2, .ref h0X)]) G.1 G.2.1 d_Law_1768 hl (k := 3) rfl (show (nI 0) + Int32.ofInt 6 = nI 6 from by decide) (by decide) rfl (fun ls hl => ?_)
  refine lv_goto (tgt := 18) G.1 G.2.1 d_Law_1771 (by decide) ?_
  refine lv_iload_n G.1 G.2.1 d_Law_18 rfl (lv_at hl 0 rfl) ?_
  refine lv_aload_n G.1 G.2.1 d_Law_19 rfl (lv_at hl 1 rfl) ?_
  refine va_slen G.1 G.2.1 hX hbl hbA hS d_Law_20 ?_
  refine tpi (w := nI 6) rfl ?_
  refine lv_bipush (v := nI 6) G.1 G.2.1 d_Law_21 (by decide) ?_
  refine lv_isub G.1 G.2.1 d_Law_23 ?_
  refine tpi (w := nI 0) (by decide) ?_
  refine lv_icmp_gt (tgt := 1774) G.1 G.2.1 d_Law_24 (by decide) (fun c24 => ?_) (fun c24 => absurd c24 (by decide))
  refine W.eq (g2 := F0 m 1774 ls []) rfl ?_
  refine lv_iconst (v := nI 1) G.1 G.2.1 d_Law_1774 (by decide) ?_
  refine va_forget (fun q hq => hAA _ (hS.2.2 q hq)) ?_
  refine W.widen (k := 600002) (n := 7302232) (Nat.le_of_ble_eq_true rfl) (Nat.le_of_ble_eq_true rfl) ?_
  exact lw_ret G.1 G.2.1 G.2.2.2.1 G.2.2.2.2.1 d_Law_1775
theorem q1472 : Cond.code y_Cw_place b_Cw_place 1 (some .int) ∈ lw_ok := lw_okmem (List.mem_of_getElem? (i := 1472) (by decide +kernel)) rfl
theorem q1470 : Cond.instanceMethod y_Cw_place ∈ lw_ok := lw_okmem (List.mem_of_getElem? (i := 1470) (by decide +kernel)) rfl
theorem q1471 : Cond.selects y_Cw_place.cls y_Cw_place y_Cw_place ∈ lw_ok := lw_okmem (List.mem_of_getElem? (i := 1471) (by decide +kernel)) rfl
theorem w_Cw_place : CWv y_Cw_place b_Cw_place 1 (some .int) 0 ∧ Cond.instanceMethod y_Cw_place ∈ lw_ok ∧ Cond.selects y_Cw_place.cls y_Cw_place y_Cw_place ∈ lw_ok := ⟨⟨q1472, q329, by decide +kernel, by decide +kernel, by decide +kernel⟩, q1470, q1471⟩
theorem q1469 : Cond.methodLink "ClassWorksLaw" 35 y_Cw_place ∈ lw_ok := lw_okmem (List.mem_of_getElem? (i := 1469) (by decide +kernel)) rfl
theorem q3652 : Cond.code y_Mo_place b_Mo_place 1 (some .int) ∈ lw_ok := lw_okmem (List.mem_of_getElem? (i := 3652) (by decide +kernel)) rfl
theorem q3650 : Cond.instanceMethod y_Mo_place ∈ lw_ok := lw_okmem (List.mem_of_getElem? (i := 3650) (by decide +kernel)) rfl
theorem q3651 : Cond.selects y_Mo_place.cls y_Mo_place y_Mo_place ∈ lw_ok := lw_okmem (List.mem_of_getElem? (i := 3651) (by decide +kernel)) rfl
theorem w_Mo_place : CWv y_Mo_place b_Mo_place 1 (some .int) 0 ∧ Cond.instanceMethod y_Mo_place ∈ lw_ok ∧ Cond.selects y_Mo_place.cls y_Mo_place y_Mo_place ∈ lw_ok := ⟨⟨q3652, q348, by decide +kernel, by decide +kernel, by decide +kernel⟩, q3650, q3651⟩
theorem q3649 : Cond.methodLink "ClassWorksLaw" 39 y_Mo_place ∈ lw_ok := lw_okmem (List.mem_of_getElem? (i := 3649) (by decide +kernel)) rfl
theorem d_Law_379 : decode code 379 = .ok (.aload_n 1, 1) := by decide +kernel
theorem d_Law_380 : decode code 380 = .ok (.invokevirtual 35, 3) := by decide +kernel
theorem d_Law_383 : decode code 383 = .ok (.aload_n 2, 1) := by decide +kernel
theorem d_Law_384 : decode code 384 = .ok (.invokevirtual 39, 3) := by decide +kernel
theorem d_Law_387 : decode code 387 = .ok (.if_icmp .eq 1381, 3) := by decide +kernel
set_option maxHeartbeats 4000000 in
set_option maxRecDepth 100000 in
theorem law_place {p : Program} {e : Env} {s : State} {m : MethodId} {below : List Frame} {meth : Method} {c : Code} {l : Launch} {D : va_G} {g : Nat → ClassId} {sl : List SL} {b : Nat} {xs : Nat → Int32} {A : Nat → Prop} (h0 : Nat) (r_cwords : Nat) (r_creader : Nat) (r_cchecker : Nat) (r_cfinder : Nat) (r_cwriter : Nat) (r_cmachines : Nat) (r_ctape : Nat) (r_cstock : Nat) (r_csizes : Nat) (r_cmet : Nat) (r_cfound : Nat) (r_cdraft : Nat) (r_cfewestFor : Nat) (r_cfewestNext : Nat) (h0X : Nat) (fsX : List Value) (G : GV l p s m #[Value.ref b] meth c (⟨"ClassWorksLaw", meth.name, ""⟩ : MethodName) code 4 ret g D sl A) (hX : va_X b 6 xs s s.heap) (hbl : b < s.heap.size) (hbA : ¬ A b) (hAA : ∀ q, A q → s.heap.size ≤ q) {H : Heap} {locs : List Loc} {ls : Array Slot} (glenX : fsX.length = 131) (gk0X : fsX[86]? = some (.int (-2))) (hP : va_P D CL [(h0, .inr (11, [.ref r_cwords, .ref r_creader, .ref r_cchecker, .ref r_cfinder, .ref r_cwriter, .ref r_cmachines, .ref r_ctape, .int (nI 0), .int (-2), .int (nI 60000), .ref r_cstock, .ref r_csizes, .ref r_cmet, .ref r_cfound, .int (nI 0), .ref r_cdraft, .int (nI 0), .int (nI 0), .ref r_cfewestFor, .ref r_cfewestNext])), (h0X, .inr (14, fsX))] H) (hD : va_D A [(h0, .inr (11, [.ref r_cwords, .ref r_creader, .ref r_cchecker, .ref r_cfinder, .ref r_cwriter, .ref r_cmachines, .ref r_ctape, .int (nI 0), .int (-2), .int (nI 60000), .ref r_cstock, .ref r_csizes, .ref r_cmet, .ref r_cfound, .int (nI 0), .ref r_cdraft, .int (nI 0), .int (nI 0), .ref r_cfewestFor, .ref r_cfewestNext])), (h0X, .inr (14, fsX))]) (hS : va_S A s.heap H locs) (hl : lv_has ls 4 [(0, .ref b), (1, .ref h0), (2, .ref h0X), (3, .int (nI 0))]) : W p l e room_1 s m #[Value.ref b] below meth c H locs 702 488194 (lw_Z below #[Value.ref b] s) (F0 m 379 ls []) := by
  refine lv_aload_n G.1 G.2.1 d_Law_379 rfl (lv_at hl 1 rfl) ?_
  refine kEi (wr := [(h0X, .inr (14, fsX))]) G (kV (As := []) (rest := []) G hP hD hS [0] rfl rfl (c_Cw_place l D g h0 r_cwords r_creader r_cchecker r_cfinder r_cwriter r_cmachines r_ctape r_cstock r_csizes r_cmet r_cfound r_cdraft r_cfewestFor r_cfewestNext H.size ) w_Cw_place q1469 rfl rfl ⟨Nat.le_of_ble_eq_true rfl, Nat.le_of_ble_eq_true rfl⟩ (fun _ h => absurd h List.not_mem_nil) 0 (ci := 11) rfl rfl rfl hl.1 rfl (Nat.le_of_ble_eq_true rfl) rfl ⟨Nat.le_of_ble_eq_true rfl, (Nat.le_of_ble_eq_true rfl)⟩ d_Law_380) hP hD hS [0] [1] rfl rfl rfl rfl (fun r_1 u_2 H locs hw hP hD hS hzH => ?_)
  have hw : r_1 = (-2) := hw
  have hP : va_P D CL [(h0X, .inr (14, fsX))] H := hP
  have hD : va_D A [(h0X, .inr (14, fsX))] := hD
  subst hw
  refine tpst (w := [.int (-2)]) rfl ?_
  refine lv_aload_n G.1 G.2.1 d_Law_383 rfl (lv_at hl 2 rfl) ?_
  refine kEi (wr := []) G (kV (As := []) (rest := [.int (-2)]) G hP hD hS [0] rfl rfl (c_Mo_place l D g h0X fsX H.size glenX gk0X) w_Mo_place q3649 rfl rfl ⟨Nat.le_of_ble_eq_true rfl, Nat.le_of_ble_eq_true rfl⟩ (fun _ h => absurd h List.not_mem_nil) 0 (ci := 14) rfl rfl rfl hl.1 rfl (Nat.le_of_ble_eq_true rfl) rfl ⟨Nat.le_of_ble_eq_true rfl, (Nat.le_of_ble_eq_true rfl)⟩ d_Law_384) hP hD hS [0] [] rfl rfl rfl rfl (fun r_3 u_4 H locs hw hP hD hS hzH => ?_)
  have hw : r_3 = (-2) := hw
  have hP : va_P D CL [] H := hP
  have hD : va_D A [] := hD
  subst hw
  refine tpst (w := [.int (-2), .int (-2)]) rfl ?_
  refine lv_icmp_eq (tgt := 1768) G.1 G.2.1 d_Law_387 (by decide) (fun c387 => ?_) (fun c387 => absurd c387 (fun h => h rfl))
  refine lv_iinc (v := nI 6) (lv' := [(3, .int (nI 6)), (0, .ref b), (1, .ref h0), (2, .ref h0X)]) G.1 G.2.1 d_Law_1768 hl (k := 3) rfl (show (nI 0) + Int32.ofInt 6 = nI 6 from by decide) (by decide) rfl (fun ls hl => ?_)
  refine lv_goto (tgt := 18) G.1 G.2.1 d_Law_1771 (by decide) ?_
  refine lv_iload_n G.1 G.2.1 d_Law_18 rfl (lv_at hl 0 rfl) ?_
  refine lv_aload_n G.1 G.2.1 d_Law_19 rfl (lv_at hl 1 rfl) ?_
  refine va_slen G.1 G.2.1 hX hbl hbA hS d_Law_20 ?_
  refine tpi (w := nI 6) rfl ?_
  refine lv_bipush (v := nI 6) G.1 G.2.1 d_Law_21 (by decide) ?_
  refine W.eq (g2 := F0 m 23 ls [.int (nI 6), .int (nI 6), .int (nI 6)]) rfl ?_
  refine lv_isub G.1 G.2.1 d_Law_23 ?_
  refine tpi (w := nI 0) (by decide) ?_
  refine lv_icmp_gt (tgt := 1774) G.1 G.2.1 d_Law_24 (by decide) (fun c24 => ?_) (fun c24 => absurd c24 (by decide))
  refine lv_iconst (v := nI 1) G.1 G.2.1 d_Law_1774 (by decide) ?_
  refine va_forget (fun q hq => hAA _ (hS.2.2 q hq)) ?_
  refine W.widen (k := 600002) (n := 7302232) (Nat.le_of_ble_eq_true rfl) (Nat.le_of_ble_eq_true rfl) ?_
  exact lw_ret G.1 G.2.1 G.2.2.2.1 G.2.2.2.2.1 d_Law_1775
theorem q1476 : Cond.code y_Cw_classes b_Cw_classes 3 (some .int) ∈ lw_ok := lw_okmem (List.mem_of_getElem? (i := 1476) (by decide +kernel)) rfl
theorem q1474 : Cond.instanceMethod y_Cw_classes ∈ lw_ok := lw_okmem (List.mem_of_getElem? (i := 1474) (by decide +kernel)) rfl
theorem q1475 : Cond.selects y_Cw_classes.cls y_Cw_classes y_Cw_classes ∈ lw_ok := lw_okmem (List.mem_of_getElem? (i := 1475) (by decide +kernel)) rfl
theorem w_Cw_classes : CWv y_Cw_classes b_Cw_classes 3 (some .int) 1 ∧ Cond.instanceMethod y_Cw_classes ∈ lw_ok ∧ Cond.selects y_Cw_classes.cls y_Cw_classes y_Cw_classes ∈ lw_ok := ⟨⟨q1476, q329, by decide +kernel, by decide +kernel, by decide +kernel⟩, q1474, q1475⟩
theorem q1473 : Cond.methodLink "ClassWorksLaw" 40 y_Cw_classes ∈ lw_ok := lw_okmem (List.mem_of_getElem? (i := 1473) (by decide +kernel)) rfl
theorem q3656 : Cond.code y_Mo_classes b_Mo_classes 2 (some .int) ∈ lw_ok := lw_okmem (List.mem_of_getElem? (i := 3656) (by decide +kernel)) rfl
theorem q3654 : Cond.instanceMethod y_Mo_classes ∈ lw_ok := lw_okmem (List.mem_of_getElem? (i := 3654) (by decide +kernel)) rfl
theorem q3655 : Cond.selects y_Mo_classes.cls y_Mo_classes y_Mo_classes ∈ lw_ok := lw_okmem (List.mem_of_getElem? (i := 3655) (by decide +kernel)) rfl
theorem w_Mo_classes : CWv y_Mo_classes b_Mo_classes 2 (some .int) 1 ∧ Cond.instanceMethod y_Mo_classes ∈ lw_ok ∧ Cond.selects y_Mo_classes.cls y_Mo_classes y_Mo_classes ∈ lw_ok := ⟨⟨q3656, q348, by decide +kernel, by decide +kernel, by decide +kernel⟩, q3654, q3655⟩
theorem q3653 : Cond.methodLink "ClassWorksLaw" 43 y_Mo_classes ∈ lw_ok := lw_okmem (List.mem_of_getElem? (i := 3653) (by decide +kernel)) rfl
theorem d_Law_392 : decode code 392 = .ok (.aload_n 1, 1) := by decide +kernel
theorem d_Law_393 : decode code 393 = .ok (.aload_n 0, 1) := by decide +kernel
theorem d_Law_394 : decode code 394 = .ok (.iload_n 3, 1) := by decide +kernel
theorem d_Law_395 : decode code 395 = .ok (.iconst 1, 1) := by decide +kernel
theorem d_Law_396 : decode code 396 = .ok (.iadd, 1) := by decide +kernel
theorem d_Law_397 : decode code 397 = .ok (.iaload, 1) := by decide +kernel
theorem d_Law_398 : decode code 398 = .ok (.invokevirtual 40, 3) := by decide +kernel
theorem d_Law_401 : decode code 401 = .ok (.aload_n 2, 1) := by decide +kernel
theorem d_Law_402 : decode code 402 = .ok (.aload_n 0, 1) := by decide +kernel
theorem d_Law_403 : decode code 403 = .ok (.iload_n 3, 1) := by decide +kernel
theorem d_Law_404 : decode code 404 = .ok (.iconst 1, 1) := by decide +kernel
theorem d_Law_405 : decode code 405 = .ok (.iadd, 1) := by decide +kernel
theorem d_Law_406 : decode code 406 = .ok (.iaload, 1) := by decide +kernel
theorem d_Law_407 : decode code 407 = .ok (.invokevirtual 43, 3) := by decide +kernel
theorem d_Law_410 : decode code 410 = .ok (.if_icmp .eq 1358, 3) := by decide +kernel
set_option maxHeartbeats 4000000 in
set_option maxRecDepth 100000 in
theorem law_classes {p : Program} {e : Env} {s : State} {m : MethodId} {below : List Frame} {meth : Method} {c : Code} {l : Launch} {D : va_G} {g : Nat → ClassId} {sl : List SL} {b : Nat} {xs : Nat → Int32} {A : Nat → Prop} (h0 : Nat) (r_cwords : Nat) (r_creader : Nat) (r_cchecker : Nat) (r_cfinder : Nat) (r_cwriter : Nat) (r_cmachines : Nat) (r_ctape : Nat) (r_cstock : Nat) (r_csizes : Nat) (r_cmet : Nat) (r_cfound : Nat) (r_cdraft : Nat) (r_cfewestFor : Nat) (r_cfewestNext : Nat) (mm0 : Nat) (mm1 : Nat) (mm2 : Nat) (mm3 : Nat) (ww0 : Nat) (r_m0heap : Nat) (r_m0runs : Nat) (r_m0counts : Nat) (r_m0traceRow : Nat) (f_m0traceCount : Int32) (r_m0startedList : Nat) (f_m0startedCount : Int32) (f_m0present : Int32) (f_m0quantum : Int32) (f_m0stepsDone : Int32) (f_m0turnSteps : Int32) (f_m0turnMost : Int32) (f_m0turnOver : Int32) (r_m0finder : Nat) (r_m0names : Nat) (f_m0fault : Int32) (f_m0wanted : Int32) (f_m0thrown : Int32) (ww1 : Nat) (r_m1heap : Nat) (r_m1runs : Nat) (r_m1counts : Nat) (r_m1traceRow : Nat) (f_m1traceCount : Int32) (r_m1startedList : Nat) (f_m1startedCount : Int32) (f_m1present : Int32) (f_m1quantum : Int32) (f_m1stepsDone : Int32) (f_m1turnSteps : Int32) (f_m1turnMost : Int32) (f_m1turnOver : Int32) (r_m1finder : Nat) (r_m1names : Nat) (f_m1fault : Int32) (f_m1wanted : Int32) (f_m1thrown : Int32) (ww2 : Nat) (r_m2heap : Nat) (r_m2runs : Nat) (r_m2counts : Nat) (r_m2traceRow : Nat) (f_m2traceCount : Int32) (r_m2startedList : Nat) (f_m2startedCount : Int32) (f_m2present : Int32) (f_m2quantum : Int32) (f_m2stepsDone : Int32) (f_m2turnSteps : Int32) (f_m2turnMost : Int32) (f_m2turnOver : Int32) (r_m2finder : Nat) (r_m2names : Nat) (f_m2fault : Int32) (f_m2wanted : Int32) (f_m2thrown : Int32) (r_w0names : Nat) (f_w0wrongClass : Int32) (f_w0wrongMethod : Int32) (f_w0wrongAt : Int32) (r_w0rows : Nat) (r_w0above : Nat) (r_w0fields : Nat) (r_w0methods : Nat) (r_w0codes : Nat) (r_w0handlers : Nat) (r_w0extra : Nat) (r_w0orders : Nat) (r_w0classNamed : Nat) (f_w0breaks : Int32) (r_w0marks : Nat) (r_w1names : Nat) (f_w1wrongClass : Int32) (f_w1wrongMethod : Int32) (f_w1wrongAt : Int32) (r_w1rows : Nat) (r_w1above : Nat) (r_w1fields : Nat) (r_w1methods : Nat) (r_w1codes : Nat) (r_w1handlers : Nat) (r_w1extra : Nat) (r_w1orders : Nat) (r_w1classNamed : Nat) (f_w1breaks : Int32) (r_w1marks : Nat) (r_w2names : Nat) (f_w2wrongClass : Int32) (f_w2wrongMethod : Int32) (f_w2wrongAt : Int32) (r_w2rows : Nat) (r_w2above : Nat) (r_w2fields : Nat) (r_w2methods : Nat) (r_w2codes : Nat) (r_w2handlers : Nat) (r_w2extra : Nat) (r_w2orders : Nat) (r_w2classNamed : Nat) (f_w2breaks : Int32) (r_w2marks : Nat) (h0X : Nat) (fsX : List Value) (owX : Nat) (v0X : Nat) (v1X : Nat) (v2X : Nat) (v3X : Nat) (fw0X : List Value) (fw1X : List Value) (fw2X : List Value) (G : GV l p s m #[Value.ref b] meth c (⟨"ClassWorksLaw", meth.name, ""⟩ : MethodName) code 4 ret g D sl A) (hX : va_X b 6 xs s s.heap) (hbl : b < s.heap.size) (hbA : ¬ A b) (hAA : ∀ q, A q → s.heap.size ≤ q) {H : Heap} {locs : List Loc} {ls : Array Slot} (glenX : fsX.length = 131) (gk0X : fsX[44]? = some (.ref owX)) (gw0X : fw0X.length = 72) (gt0X : fw0X[0]? = some (.int (nI 0))) (gw1X : fw1X.length = 72) (gt1X : fw1X[0]? = some (.int (nI 0))) (gw2X : fw2X.length = 72) (gt2X : fw2X[0]? = some (.int (nI 0))) (hP : va_P D CL [(h0, .inr (11, [.ref r_cwords, .ref r_creader, .ref r_cchecker, .ref r_cfinder, .ref r_cwriter, .ref r_cmachines, .ref r_ctape, .int (nI 0), .int (-2), .int (nI 60000), .ref r_cstock, .ref r_csizes, .ref r_cmet, .ref r_cfound, .int (nI 0), .ref r_cdraft, .int (nI 0), .int (nI 0), .ref r_cfewestFor, .ref r_cfewestNext])), (r_cmachines, .inl (g 4, 4, .inr (.inr (.inr (.inr (va_up (va_up (va_up (va_up (fun _ => none) 0 (some mm0)) 1 (some mm1)) 2 (some mm2)) 3 (some mm3))))))), (mm0, .inr (4, [.ref ww0, .ref r_m0heap, .ref r_m0runs, .ref r_m0counts, .ref r_m0traceRow, .int f_m0traceCount, .ref r_m0startedList, .int f_m0startedCount, .int f_m0present, .int f_m0quantum, .int f_m0stepsDone, .int f_m0turnSteps, .int f_m0turnMost, .int f_m0turnOver, .ref r_m0finder, .ref r_m0names, .int f_m0fault, .int f_m0wanted, .int f_m0thrown])), (mm1, .inr (4, [.ref ww1, .ref r_m1heap, .ref r_m1runs, .ref r_m1counts, .ref r_m1traceRow, .int f_m1traceCount, .ref r_m1startedList, .int f_m1startedCount, .int f_m1present, .int f_m1quantum, .int f_m1stepsDone, .int f_m1turnSteps, .int f_m1turnMost, .int f_m1turnOver, .ref r_m1finder, .ref r_m1names, .int f_m1fault, .int f_m1wanted, .int f_m1thrown])), (mm2, .inr (4, [.ref ww2, .ref r_m2heap, .ref r_m2runs, .ref r_m2counts, .ref r_m2traceRow, .int f_m2traceCount, .ref r_m2startedList, .int f_m2startedCount, .int f_m2present, .int f_m2quantum, .int f_m2stepsDone, .int f_m2turnSteps, .int f_m2turnMost, .int f_m2turnOver, .ref r_m2finder, .ref r_m2names, .int f_m2fault, .int f_m2wanted, .int f_m2thrown])), (ww0, .inr (9, [.ref r_w0names, .int (nI 0), .int (nI 21), .int f_w0wrongClass, .int f_w0wrongMethod, .int f_w0wrongAt, .ref r_w0rows, .ref r_w0above, .ref r_w0fields, .ref r_w0methods, .ref r_w0codes, .ref r_w0handlers, .ref r_w0extra, .ref r_w0orders, .ref r_w0classNamed, .int f_w0breaks, .ref r_w0marks])), (ww1, .inr (9, [.ref r_w1names, .int (nI 0), .int (nI 21), .int f_w1wrongClass, .int f_w1wrongMethod, .int f_w1wrongAt, .ref r_w1rows, .ref r_w1above, .ref r_w1fields, .ref r_w1methods, .ref r_w1codes, .ref r_w1handlers, .ref r_w1extra, .ref r_w1orders, .ref r_w1classNamed, .int f_w1breaks, .ref r_w1marks])), (ww2, .inr (9, [.ref r_w2names, .int (nI 0), .int (nI 21), .int f_w2wrongClass, .int f_w2wrongMethod, .int f_w2wrongAt, .ref r_w2rows, .ref r_w2above, .ref r_w2fields, .ref r_w2methods, .ref r_w2codes, .ref r_w2handlers, .ref r_w2extra, .ref r_w2orders, .ref r_w2classNamed, .int f_w2breaks, .ref r_w2marks])), (h0X, .inr (14, fsX)), (owX, .inl (g 6, 4, .inr (.inr (.inr (.inr (va_up (va_up (va_up (va_up (fun _ => none) 0 (some v0X)) 1 (some v1X)) 2 (some v2X)) 3 (some v3X))))))), (v0X, .inr (13, fw0X)), (v1X, .inr (13, fw1X)), (v2X, .inr (13, fw2X))] H) (hD : va_D A [(h0, .inr (11, [.ref r_cwords, .ref r_creader, .ref r_cchecker, .ref r_cfinder, .ref r_cwriter, .ref r_cmachines, .ref r_ctape, .int (nI 0), .int (-2), .int (nI 60000), .ref r_cstock, .ref r_csizes, .ref r_cmet, .ref r_cfound, .int (nI 0), .ref r_cdraft, .int (nI 0), .int (nI 0), .ref r_cfewestFor, .ref r_cfewestNext])), (r_cmachines, .inl (g 4, 4, .inr (.inr (.inr (.inr (va_up (va_up (va_up (va_up (fun _ => none) 0 (some mm0)) 1 (some mm1)) 2 (some mm2)) 3 (some mm3))))))), (mm0, .inr (4, [.ref ww0, .ref r_m0heap, .ref r_m0runs, .ref r_m0counts, .ref r_m0traceRow, .int f_m0traceCount, .ref r_m0startedList, .int f_m0startedCount, .int f_m0present, .int f_m0quantum, .int f_m0stepsDone, .int f_m0turnSteps, .int f_m0turnMost, .int f_m0turnOver, .ref r_m0finder, .ref r_m0names, .int f_m0fault, .int f_m0wanted, .int f_m0thrown])), (mm1, .inr (4, [.ref ww1, .ref r_m1heap, .ref r_m1runs, .ref r_m1counts, .ref r_m1traceRow, .int f_m1traceCount, .ref r_m1startedList, .int f_m1startedCount, .int f_m1present, .int f_m1quantum, .int f_m1stepsDone, .int f_m1turnSteps, .int f_m1turnMost, .int f_m1turnOver, .ref r_m1finder, .ref r_m1names, .int f_m1fault, .int f_m1wanted, .int f_m1thrown])), (mm2, .inr (4, [.ref ww2, .ref r_m2heap, .ref r_m2runs, .ref r_m2counts, .ref r_m2traceRow, .int f_m2traceCount, .ref r_m2startedList, .int f_m2startedCount, .int f_m2present, .int f_m2quantum, .int f_m2stepsDone, .int f_m2turnSteps, .int f_m2turnMost, .int f_m2turnOver, .ref r_m2finder, .ref r_m2names, .int f_m2fault, .int f_m2wanted, .int f_m2thrown])), (ww0, .inr (9, [.ref r_w0names, .int (nI 0), .int (nI 21), .int f_w0wrongClass, .int f_w0wrongMethod, .int f_w0wrongAt, .ref r_w0rows, .ref r_w0above, .ref r_w0fields, .ref r_w0methods, .ref r_w0codes, .ref r_w0handlers, .ref r_w0extra, .ref r_w0orders, .ref r_w0classNamed, .int f_w0breaks, .ref r_w0marks])), (ww1, .inr (9, [.ref r_w1names, .int (nI 0), .int (nI 21), .int f_w1wrongClass, .int f_w1wrongMethod, .int f_w1wrongAt, .ref r_w1rows, .ref r_w1above, .ref r_w1fields, .ref r_w1methods, .ref r_w1codes, .ref r_w1handlers, .ref r_w1extra, .ref r_w1orders, .ref r_w1classNamed, .int f_w1breaks, .ref r_w1marks])), (ww2, .inr (9, [.ref r_w2names, .int (nI 0), .int (nI 21), .int f_w2wrongClass, .int f_w2wrongMethod, .int f_w2wrongAt, .ref r_w2rows, .ref r_w2above, .ref r_w2fields, .ref r_w2methods, .ref r_w2codes, .ref r_w2handlers, .ref r_w2extra, .ref r_w2orders, .ref r_w2classNamed, .int f_w2breaks, .ref r_w2marks])), (h0X, .inr (14, fsX)), (owX, .inl (g 6, 4, .inr (.inr (.inr (.inr (va_up (va_up (va_up (va_up (fun _ => none) 0 (some v0X)) 1 (some v1X)) 2 (some v2X)) 3 (some v3X))))))), (v0X, .inr (13, fw0X)), (v1X, .inr (13, fw1X)), (v2X, .inr (13, fw2X))]) (hS : va_S A s.heap H locs) (hl : lv_has ls 4 [(0, .ref b), (1, .ref h0), (2, .ref h0X), (3, .int (nI 0))]) : W p l e room_1 s m #[Value.ref b] below meth c H locs 702 488194 (lw_Z below #[Value.ref b] s) (F0 m 392 ls []) := by
  refine lv_aload_n G.1 G.2.1 d_Law_392 rfl (lv_at hl 1 rfl) ?_
  refine lv_aload_n G.1 G.2.1 d_Law_393 rfl (lv_at hl 0 rfl) ?_
  refine lv_iload_n G.1 G.2.1 d_Law_394 rfl (lv_at hl 3 rfl) ?_
  refine lv_iconst (v := nI 1) G.1 G.2.1 d_Law_395 (by decide) ?_
  refine lv_iadd G.1 G.2.1 d_Law_396 ?_
  refine tpi (w := nI 1) (by decide) ?_
  refine va_sld G.1 G.2.1 hX hbl hbA hS (nI_inn (n := 6) (a := 1) (by decide) (by decide)) d_Law_397 ?_
  refine tpi (w := (xs 1)) (by rw [nI_clamp (by decide)]) ?_
  refine kEi (wr := [(h0X, .inr (14, fsX)), (owX, .inl (g 6, 4, .inr (.inr (.inr (.inr (va_up (va_up (va_up (va_up (fun _ => none) 0 (some v0X)) 1 (some v1X)) 2 (some v2X)) 3 (some v3X))))))), (v0X, .inr (13, fw0X)), (v1X, .inr (13, fw1X)), (v2X, .inr (13, fw2X))]) G (kV (As := [.int (xs 1)]) (rest := []) G hP hD hS [0, 1, 2, 3, 4, 5, 6, 7] rfl rfl (c_Cw_classes l D g h0 (xs 1) r_cwords r_creader r_cchecker r_cfinder r_cwriter r_cmachines r_ctape r_cstock r_csizes r_cmet r_cfound r_cdraft r_cfewestFor r_cfewestNext mm0 mm1 mm2 mm3 ww0 r_m0heap r_m0runs r_m0counts r_m0traceRow f_m0traceCount r_m0startedList f_m0startedCount f_m0present f_m0quantum f_m0stepsDone f_m0turnSteps f_m0turnMost f_m0turnOver r_m0finder r_m0names f_m0fault f_m0wanted f_m0thrown ww1 r_m1heap r_m1runs r_m1counts r_m1traceRow f_m1traceCount r_m1startedList f_m1startedCount f_m1present f_m1quantum f_m1stepsDone f_m1turnSteps f_m1turnMost f_m1turnOver r_m1finder r_m1names f_m1fault f_m1wanted f_m1thrown ww2 r_m2heap r_m2runs r_m2counts r_m2traceRow f_m2traceCount r_m2startedList f_m2startedCount f_m2present f_m2quantum f_m2stepsDone f_m2turnSteps f_m2turnMost f_m2turnOver r_m2finder r_m2names f_m2fault f_m2wanted f_m2thrown r_w0names f_w0wrongClass f_w0wrongMethod f_w0wrongAt r_w0rows r_w0above r_w0fields r_w0methods r_w0codes r_w0handlers r_w0extra r_w0orders r_w0classNamed f_w0breaks r_w0marks r_w1names f_w1wrongClass f_w1wrongMethod f_w1wrongAt r_w1rows r_w1above r_w1fields r_w1methods r_w1codes r_w1handlers r_w1extra r_w1orders r_w1classNamed f_w1breaks r_w1marks r_w2names f_w2wrongClass f_w2wrongMethod f_w2wrongAt r_w2rows r_w2above r_w2fields r_w2methods r_w2codes r_w2handlers r_w2extra r_w2orders r_w2classNamed f_w2breaks r_w2marks H.size ) w_Cw_classes q1473 rfl rfl ⟨Nat.le_of_ble_eq_true rfl, Nat.le_of_ble_eq_true rfl⟩ (fun _ h => absurd h List.not_mem_nil) 0 (ci := 11) rfl rfl rfl hl.1 rfl (Nat.le_of_ble_eq_true rfl) rfl ⟨Nat.le_of_ble_eq_true rfl, (Nat.le_of_ble_eq_true rfl)⟩ d_Law_398) hP hD hS [0, 1, 2, 3, 4, 5, 6, 7] [8, 9, 10, 11, 12] rfl rfl rfl rfl (fun r_1 u_2 H locs hw hP hD hS hzH => ?_)
  have hw : r_1 = (-1) := hw
  have hP : va_P D CL [(h0X, .inr (14, fsX)), (owX, .inl (g 6, 4, .inr (.inr (.inr (.inr (va_up (va_up (va_up (va_up (fun _ => none) 0 (some v0X)) 1 (some v1X)) 2 (some v2X)) 3 (some v3X))))))), (v0X, .inr (13, fw0X)), (v1X, .inr (13, fw1X)), (v2X, .inr (13, fw2X))] H := hP
  have hD : va_D A [(h0X, .inr (14, fsX)), (owX, .inl (g 6, 4, .inr (.inr (.inr (.inr (va_up (va_up (va_up (va_up (fun _ => none) 0 (some v0X)) 1 (some v1X)) 2 (some v2X)) 3 (some v3X))))))), (v0X, .inr (13, fw0X)), (v1X, .inr (13, fw1X)), (v2X, .inr (13, fw2X))] := hD
  subst hw
  refine tpst (w := [.int (-1)]) rfl ?_
  refine lv_aload_n G.1 G.2.1 d_Law_401 rfl (lv_at hl 2 rfl) ?_
  refine lv_aload_n G.1 G.2.1 d_Law_402 rfl (lv_at hl 0 rfl) ?_
  refine lv_iload_n G.1 G.2.1 d_Law_403 rfl (lv_at hl 3 rfl) ?_
  refine lv_iconst (v := nI 1) G.1 G.2.1 d_Law_404 (by decide) ?_
  refine W.eq (g2 := F0 m 405 ls [.int (nI 1), .int (nI 0), .ref b, .ref h0X, .int (-1)]) rfl ?_
  refine lv_iadd G.1 G.2.1 d_Law_405 ?_
  refine tpi (w := nI 1) (by decide) ?_
  refine va_sld G.1 G.2.1 hX hbl hbA hS (nI_inn (n := 6) (a := 1) (by decide) (by decide)) d_Law_406 ?_
  refine tpi (w := (xs 1)) (by rw [nI_clamp (by decide)]) ?_
  refine kEi (wr := []) G (kV (As := [.int (xs 1)]) (rest := [.int (-1)]) G hP hD hS [0, 1, 2, 3, 4] rfl rfl (c_Mo_classes l D g h0X (xs 1) fsX owX v0X v1X v2X v3X fw0X fw1X fw2X H.size glenX gk0X gw0X gt0X gw1X gt1X gw2X gt2X) w_Mo_classes q3653 rfl rfl ⟨Nat.le_of_ble_eq_true rfl, Nat.le_of_ble_eq_true rfl⟩ (fun _ h => absurd h List.not_mem_nil) 0 (ci := 14) rfl rfl rfl hl.1 rfl (Nat.le_of_ble_eq_true rfl) rfl ⟨Nat.le_of_ble_eq_true rfl, (Nat.le_of_ble_eq_true rfl)⟩ d_Law_407) hP hD hS [0, 1, 2, 3, 4] [] rfl rfl rfl rfl (fun r_3 u_4 H locs hw hP hD hS hzH => ?_)
  have hw : r_3 = (-1) := hw
  have hP : va_P D CL [] H := hP
  have hD : va_D A [] := hD
  subst hw
  refine tpst (w := [.int (-1), .int (-1)]) rfl ?_
  refine lv_icmp_eq (tgt := 1768) G.1 G.2.1 d_Law_410 (by decide) (fun c410 => ?_) (fun c410 => absurd c410 (fun h => h rfl))
  refine lv_iinc (v := nI 6) (lv' := [(3, .int (nI 6)), (0, .ref b), (1, .ref h0), (2, .ref h0X)]) G.1 G.2.1 d_Law_1768 hl (k := 3) rfl (show (nI 0) + Int32.ofInt 6 = nI 6 from by decide) (by decide) rfl (fun ls hl => ?_)
  refine lv_goto (tgt := 18) G.1 G.2.1 d_Law_1771 (by decide) ?_
  refine lv_iload_n G.1 G.2.1 d_Law_18 rfl (lv_at hl 0 rfl) ?_
  refine lv_aload_n G.1 G.2.1 d_Law_19 rfl (lv_at hl 1 rfl) ?_
  refine va_slen G.1 G.2.1 hX hbl hbA hS d_Law_20 ?_
  refine tpi (w := nI 6) rfl ?_
  refine lv_bipush (v := nI 6) G.1 G.2.1 d_Law_21 (by decide) ?_
  refine lv_isub G.1 G.2.1 d_Law_23 ?_
  refine tpi (w := nI 0) (by decide) ?_
  refine lv_icmp_gt (tgt := 1774) G.1 G.2.1 d_Law_24 (by decide) (fun c24 => ?_) (fun c24 => absurd c24 (by decide))
  refine W.eq (g2 := F0 m 1774 ls []) rfl ?_
  refine lv_iconst (v := nI 1) G.1 G.2.1 d_Law_1774 (by decide) ?_
  refine va_forget (fun q hq => hAA _ (hS.2.2 q hq)) ?_
  refine W.widen (k := 600002) (n := 7302232) (Nat.le_of_ble_eq_true rfl) (Nat.le_of_ble_eq_true rfl) ?_
  exact lw_ret G.1 G.2.1 G.2.2.2.1 G.2.2.2.2.1 d_Law_1775
theorem q1480 : Cond.code y_Cw_told b_Cw_told 5 (some .int) ∈ lw_ok := lw_okmem (List.mem_of_getElem? (i := 1480) (by decide +kernel)) rfl
theorem q1478 : Cond.instanceMethod y_Cw_told ∈ lw_ok := lw_okmem (List.mem_of_getElem? (i := 1478) (by decide +kernel)) rfl
theorem q1479 : Cond.selects y_Cw_told.cls y_Cw_told y_Cw_told ∈ lw_ok := lw_okmem (List.mem_of_getElem? (i := 1479) (by decide +kernel)) rfl
theorem w_Cw_told : CWv y_Cw_told b_Cw_told 5 (some .int) 3 ∧ Cond.instanceMethod y_Cw_told ∈ lw_ok ∧ Cond.selects y_Cw_told.cls y_Cw_told y_Cw_told ∈ lw_ok := ⟨⟨q1480, q329, by decide +kernel, by decide +kernel, by decide +kernel⟩, q1478, q1479⟩
theorem q1477 : Cond.methodLink "ClassWorksLaw" 44 y_Cw_told ∈ lw_ok := lw_okmem (List.mem_of_getElem? (i := 1477) (by decide +kernel)) rfl
theorem q3660 : Cond.code y_Mo_told b_Mo_told 4 (some .int) ∈ lw_ok := lw_okmem (List.mem_of_getElem? (i := 3660) (by decide +kernel)) rfl
theorem q3658 : Cond.instanceMethod y_Mo_told ∈ lw_ok := lw_okmem (List.mem_of_getElem? (i := 3658) (by decide +kernel)) rfl
theorem q3659 : Cond.selects y_Mo_told.cls y_Mo_told y_Mo_told ∈ lw_ok := lw_okmem (List.mem_of_getElem? (i := 3659) (by decide +kernel)) rfl
theorem w_Mo_told : CWv y_Mo_told b_Mo_told 4 (some .int) 3 ∧ Cond.instanceMethod y_Mo_told ∈ lw_ok ∧ Cond.selects y_Mo_told.cls y_Mo_told y_Mo_told ∈ lw_ok := ⟨⟨q3660, q348, by decide +kernel, by decide +kernel, by decide +kernel⟩, q3658, q3659⟩
theorem q3657 : Cond.methodLink "ClassWorksLaw" 48 y_Mo_told ∈ lw_ok := lw_okmem (List.mem_of_getElem? (i := 3657) (by decide +kernel)) rfl
theorem d_Law_415 : decode code 415 = .ok (.aload_n 1, 1) := by decide +kernel
theorem d_Law_416 : decode code 416 = .ok (.aload_n 0, 1) := by decide +kernel
theorem d_Law_417 : decode code 417 = .ok (.iload_n 3, 1) := by decide +kernel
theorem d_Law_418 : decode code 418 = .ok (.iconst 1, 1) := by decide +kernel
theorem d_Law_419 : decode code 419 = .ok (.iadd, 1) := by decide +kernel
theorem d_Law_420 : decode code 420 = .ok (.iaload, 1) := by decide +kernel
theorem d_Law_421 : decode code 421 = .ok (.aload_n 0, 1) := by decide +kernel
theorem d_Law_422 : decode code 422 = .ok (.iload_n 3, 1) := by decide +kernel
theorem d_Law_423 : decode code 423 = .ok (.iconst 2, 1) := by decide +kernel
theorem d_Law_424 : decode code 424 = .ok (.iadd, 1) := by decide +kernel
theorem d_Law_425 : decode code 425 = .ok (.iaload, 1) := by decide +kernel
theorem d_Law_426 : decode code 426 = .ok (.aload_n 0, 1) := by decide +kernel
theorem d_Law_427 : decode code 427 = .ok (.iload_n 3, 1) := by decide +kernel
theorem d_Law_428 : decode code 428 = .ok (.iconst 3, 1) := by decide +kernel
theorem d_Law_429 : decode code 429 = .ok (.iadd, 1) := by decide +kernel
theorem d_Law_430 : decode code 430 = .ok (.iaload, 1) := by decide +kernel
theorem d_Law_431 : decode code 431 = .ok (.invokevirtual 44, 3) := by decide +kernel
theorem d_Law_434 : decode code 434 = .ok (.aload_n 2, 1) := by decide +kernel
theorem d_Law_435 : decode code 435 = .ok (.aload_n 0, 1) := by decide +kernel
theorem d_Law_436 : decode code 436 = .ok (.iload_n 3, 1) := by decide +kernel
theorem d_Law_437 : decode code 437 = .ok (.iconst 1, 1) := by decide +kernel
theorem d_Law_438 : decode code 438 = .ok (.iadd, 1) := by decide +kernel
theorem d_Law_439 : decode code 439 = .ok (.iaload, 1) := by decide +kernel
theorem d_Law_440 : decode code 440 = .ok (.aload_n 0, 1) := by decide +kernel
theorem d_Law_441 : decode code 441 = .ok (.iload_n 3, 1) := by decide +kernel
theorem d_Law_442 : decode code 442 = .ok (.iconst 2, 1) := by decide +kernel
theorem d_Law_443 : decode code 443 = .ok (.iadd, 1) := by decide +kernel
theorem d_Law_444 : decode code 444 = .ok (.iaload, 1) := by decide +kernel
theorem d_Law_445 : decode code 445 = .ok (.aload_n 0, 1) := by decide +kernel
theorem d_Law_446 : decode code 446 = .ok (.iload_n 3, 1) := by decide +kernel
theorem d_Law_447 : decode code 447 = .ok (.iconst 3, 1) := by decide +kernel
theorem d_Law_448 : decode code 448 = .ok (.iadd, 1) := by decide +kernel
theorem d_Law_449 : decode code 449 = .ok (.iaload, 1) := by decide +kernel
theorem d_Law_450 : decode code 450 = .ok (.invokevirtual 48, 3) := by decide +kernel
theorem d_Law_453 : decode code 453 = .ok (.if_icmp .eq 1315, 3) := by decide +kernel
set_option maxHeartbeats 4000000 in
set_option maxRecDepth 100000 in
theorem law_told {p : Program} {e : Env} {s : State} {m : MethodId} {below : List Frame} {meth : Method} {c : Code} {l : Launch} {D : va_G} {g : Nat → ClassId} {sl : List SL} {b : Nat} {xs : Nat → Int32} {A : Nat → Prop} (h0 : Nat) (r_cwords : Nat) (r_creader : Nat) (r_cchecker : Nat) (r_cfinder : Nat) (r_cwriter : Nat) (r_cmachines : Nat) (r_ctape : Nat) (r_cstock : Nat) (r_csizes : Nat) (r_cmet : Nat) (r_cfound : Nat) (r_cdraft : Nat) (r_cfewestFor : Nat) (r_cfewestNext : Nat) (mm0 : Nat) (mm1 : Nat) (mm2 : Nat) (mm3 : Nat) (ww0 : Nat) (r_m0heap : Nat) (r_m0runs : Nat) (r_m0counts : Nat) (r_m0traceRow : Nat) (f_m0traceCount : Int32) (r_m0startedList : Nat) (f_m0startedCount : Int32) (f_m0present : Int32) (f_m0quantum : Int32) (f_m0stepsDone : Int32) (f_m0turnSteps : Int32) (f_m0turnMost : Int32) (f_m0turnOver : Int32) (r_m0finder : Nat) (r_m0names : Nat) (f_m0fault : Int32) (f_m0wanted : Int32) (f_m0thrown : Int32) (ww1 : Nat) (r_m1heap : Nat) (r_m1runs : Nat) (r_m1counts : Nat) (r_m1traceRow : Nat) (f_m1traceCount : Int32) (r_m1startedList : Nat) (f_m1startedCount : Int32) (f_m1present : Int32) (f_m1quantum : Int32) (f_m1stepsDone : Int32) (f_m1turnSteps : Int32) (f_m1turnMost : Int32) (f_m1turnOver : Int32) (r_m1finder : Nat) (r_m1names : Nat) (f_m1fault : Int32) (f_m1wanted : Int32) (f_m1thrown : Int32) (ww2 : Nat) (r_m2heap : Nat) (r_m2runs : Nat) (r_m2counts : Nat) (r_m2traceRow : Nat) (f_m2traceCount : Int32) (r_m2startedList : Nat) (f_m2startedCount : Int32) (f_m2present : Int32) (f_m2quantum : Int32) (f_m2stepsDone : Int32) (f_m2turnSteps : Int32) (f_m2turnMost : Int32) (f_m2turnOver : Int32) (r_m2finder : Nat) (r_m2names : Nat) (f_m2fault : Int32) (f_m2wanted : Int32) (f_m2thrown : Int32) (r_w0names : Nat) (f_w0wrongClass : Int32) (f_w0wrongMethod : Int32) (f_w0wrongAt : Int32) (r_w0rows : Nat) (r_w0above : Nat) (r_w0fields : Nat) (r_w0methods : Nat) (r_w0codes : Nat) (r_w0handlers : Nat) (r_w0extra : Nat) (r_w0orders : Nat) (r_w0classNamed : Nat) (f_w0breaks : Int32) (r_w0marks : Nat) (r_w1names : Nat) (f_w1wrongClass : Int32) (f_w1wrongMethod : Int32) (f_w1wrongAt : Int32) (r_w1rows : Nat) (r_w1above : Nat) (r_w1fields : Nat) (r_w1methods : Nat) (r_w1codes : Nat) (r_w1handlers : Nat) (r_w1extra : Nat) (r_w1orders : Nat) (r_w1classNamed : Nat) (f_w1breaks : Int32) (r_w1marks : Nat) (r_w2names : Nat) (f_w2wrongClass : Int32) (f_w2wrongMethod : Int32) (f_w2wrongAt : Int32) (r_w2rows : Nat) (r_w2above : Nat) (r_w2fields : Nat) (r_w2methods : Nat) (r_w2codes : Nat) (r_w2handlers : Nat) (r_w2extra : Nat) (r_w2orders : Nat) (r_w2classNamed : Nat) (f_w2breaks : Int32) (r_w2marks : Nat) (h0X : Nat) (fsX : List Value) (owX : Nat) (v0X : Nat) (v1X : Nat) (v2X : Nat) (v3X : Nat) (fw0X : List Value) (fw1X : List Value) (fw2X : List Value) (G : GV l p s m #[Value.ref b] meth c (⟨"ClassWorksLaw", meth.name, ""⟩ : MethodName) code 4 ret g D sl A) (hX : va_X b 6 xs s s.heap) (hbl : b < s.heap.size) (hbA : ¬ A b) (hAA : ∀ q, A q → s.heap.size ≤ q) {H : Heap} {locs : List Loc} {ls : Array Slot} (glenX : fsX.length = 131) (gk0X : fsX[44]? = some (.ref owX)) (gw0X : fw0X.length = 72) (gt0X : fw0X[0]? = some (.int (nI 0))) (gw1X : fw1X.length = 72) (gt1X : fw1X[0]? = some (.int (nI 0))) (gw2X : fw2X.length = 72) (gt2X : fw2X[0]? = some (.int (nI 0))) (hP : va_P D CL [(h0, .inr (11, [.ref r_cwords, .ref r_creader, .ref r_cchecker, .ref r_cfinder, .ref r_cwriter, .ref r_cmachines, .ref r_ctape, .int (nI 0), .int (-2), .int (nI 60000), .ref r_cstock, .ref r_csizes, .ref r_cmet, .ref r_cfound, .int (nI 0), .ref r_cdraft, .int (nI 0), .int (nI 0), .ref r_cfewestFor, .ref r_cfewestNext])), (r_cmachines, .inl (g 4, 4, .inr (.inr (.inr (.inr (va_up (va_up (va_up (va_up (fun _ => none) 0 (some mm0)) 1 (some mm1)) 2 (some mm2)) 3 (some mm3))))))), (mm0, .inr (4, [.ref ww0, .ref r_m0heap, .ref r_m0runs, .ref r_m0counts, .ref r_m0traceRow, .int f_m0traceCount, .ref r_m0startedList, .int f_m0startedCount, .int f_m0present, .int f_m0quantum, .int f_m0stepsDone, .int f_m0turnSteps, .int f_m0turnMost, .int f_m0turnOver, .ref r_m0finder, .ref r_m0names, .int f_m0fault, .int f_m0wanted, .int f_m0thrown])), (mm1, .inr (4, [.ref ww1, .ref r_m1heap, .ref r_m1runs, .ref r_m1counts, .ref r_m1traceRow, .int f_m1traceCount, .ref r_m1startedList, .int f_m1startedCount, .int f_m1present, .int f_m1quantum, .int f_m1stepsDone, .int f_m1turnSteps, .int f_m1turnMost, .int f_m1turnOver, .ref r_m1finder, .ref r_m1names, .int f_m1fault, .int f_m1wanted, .int f_m1thrown])), (mm2, .inr (4, [.ref ww2, .ref r_m2heap, .ref r_m2runs, .ref r_m2counts, .ref r_m2traceRow, .int f_m2traceCount, .ref r_m2startedList, .int f_m2startedCount, .int f_m2present, .int f_m2quantum, .int f_m2stepsDone, .int f_m2turnSteps, .int f_m2turnMost, .int f_m2turnOver, .ref r_m2finder, .ref r_m2names, .int f_m2fault, .int f_m2wanted, .int f_m2thrown])), (ww0, .inr (9, [.ref r_w0names, .int (nI 0), .int (nI 21), .int f_w0wrongClass, .int f_w0wrongMethod, .int f_w0wrongAt, .ref r_w0rows, .ref r_w0above, .ref r_w0fields, .ref r_w0methods, .ref r_w0codes, .ref r_w0handlers, .ref r_w0extra, .ref r_w0orders, .ref r_w0classNamed, .int f_w0breaks, .ref r_w0marks])), (ww1, .inr (9, [.ref r_w1names, .int (nI 0), .int (nI 21), .int f_w1wrongClass, .int f_w1wrongMethod, .int f_w1wrongAt, .ref r_w1rows, .ref r_w1above, .ref r_w1fields, .ref r_w1methods, .ref r_w1codes, .ref r_w1handlers, .ref r_w1extra, .ref r_w1orders, .ref r_w1classNamed, .int f_w1breaks, .ref r_w1marks])), (ww2, .inr (9, [.ref r_w2names, .int (nI 0), .int (nI 21), .int f_w2wrongClass, .int f_w2wrongMethod, .int f_w2wrongAt, .ref r_w2rows, .ref r_w2above, .ref r_w2fields, .ref r_w2methods, .ref r_w2codes, .ref r_w2handlers, .ref r_w2extra, .ref r_w2orders, .ref r_w2classNamed, .int f_w2breaks, .ref r_w2marks])), (h0X, .inr (14, fsX)), (owX, .inl (g 6, 4, .inr (.inr (.inr (.inr (va_up (va_up (va_up (va_up (fun _ => none) 0 (some v0X)) 1 (some v1X)) 2 (some v2X)) 3 (some v3X))))))), (v0X, .inr (13, fw0X)), (v1X, .inr (13, fw1X)), (v2X, .inr (13, fw2X))] H) (hD : va_D A [(h0, .inr (11, [.ref r_cwords, .ref r_creader, .ref r_cchecker, .ref r_cfinder, .ref r_cwriter, .ref r_cmachines, .ref r_ctape, .int (nI 0), .int (-2), .int (nI 60000), .ref r_cstock, .ref r_csizes, .ref r_cmet, .ref r_cfound, .int (nI 0), .ref r_cdraft, .int (nI 0), .int (nI 0), .ref r_cfewestFor, .ref r_cfewestNext])), (r_cmachines, .inl (g 4, 4, .inr (.inr (.inr (.inr (va_up (va_up (va_up (va_up (fun _ => none) 0 (some mm0)) 1 (some mm1)) 2 (some mm2)) 3 (some mm3))))))), (mm0, .inr (4, [.ref ww0, .ref r_m0heap, .ref r_m0runs, .ref r_m0counts, .ref r_m0traceRow, .int f_m0traceCount, .ref r_m0startedList, .int f_m0startedCount, .int f_m0present, .int f_m0quantum, .int f_m0stepsDone, .int f_m0turnSteps, .int f_m0turnMost, .int f_m0turnOver, .ref r_m0finder, .ref r_m0names, .int f_m0fault, .int f_m0wanted, .int f_m0thrown])), (mm1, .inr (4, [.ref ww1, .ref r_m1heap, .ref r_m1runs, .ref r_m1counts, .ref r_m1traceRow, .int f_m1traceCount, .ref r_m1startedList, .int f_m1startedCount, .int f_m1present, .int f_m1quantum, .int f_m1stepsDone, .int f_m1turnSteps, .int f_m1turnMost, .int f_m1turnOver, .ref r_m1finder, .ref r_m1names, .int f_m1fault, .int f_m1wanted, .int f_m1thrown])), (mm2, .inr (4, [.ref ww2, .ref r_m2heap, .ref r_m2runs, .ref r_m2counts, .ref r_m2traceRow, .int f_m2traceCount, .ref r_m2startedList, .int f_m2startedCount, .int f_m2present, .int f_m2quantum, .int f_m2stepsDone, .int f_m2turnSteps, .int f_m2turnMost, .int f_m2turnOver, .ref r_m2finder, .ref r_m2names, .int f_m2fault, .int f_m2wanted, .int f_m2thrown])), (ww0, .inr (9, [.ref r_w0names, .int (nI 0), .int (nI 21), .int f_w0wrongClass, .int f_w0wrongMethod, .int f_w0wrongAt, .ref r_w0rows, .ref r_w0above, .ref r_w0fields, .ref r_w0methods, .ref r_w0codes, .ref r_w0handlers, .ref r_w0extra, .ref r_w0orders, .ref r_w0classNamed, .int f_w0breaks, .ref r_w0marks])), (ww1, .inr (9, [.ref r_w1names, .int (nI 0), .int (nI 21), .int f_w1wrongClass, .int f_w1wrongMethod, .int f_w1wrongAt, .ref r_w1rows, .ref r_w1above, .ref r_w1fields, .ref r_w1methods, .ref r_w1codes, .ref r_w1handlers, .ref r_w1extra, .ref r_w1orders, .ref r_w1classNamed, .int f_w1breaks, .ref r_w1marks])), (ww2, .inr (9, [.ref r_w2names, .int (nI 0), .int (nI 21), .int f_w2wrongClass, .int f_w2wrongMethod, .int f_w2wrongAt, .ref r_w2rows, .ref r_w2above, .ref r_w2fields, .ref r_w2methods, .ref r_w2codes, .ref r_w2handlers, .ref r_w2extra, .ref r_w2orders, .ref r_w2classNamed, .int f_w2breaks, .ref r_w2marks])), (h0X, .inr (14, fsX)), (owX, .inl (g 6, 4, .inr (.inr (.inr (.inr (va_up (va_up (va_up (va_up (fun _ => none) 0 (some v0X)) 1 (some v1X)) 2 (some v2X)) 3 (some v3X))))))), (v0X, .inr (13, fw0X)), (v1X, .inr (13, fw1X)), (v2X, .inr (13, fw2X))]) (hS : va_S A s.heap H locs) (hl : lv_has ls 4 [(0, .ref b), (1, .ref h0), (2, .ref h0X), (3, .int (nI 0))]) : W p l e room_1 s m #[Value.ref b] below meth c H locs 702 488194 (lw_Z below #[Value.ref b] s) (F0 m 415 ls []) := by
  refine lv_aload_n G.1 G.2.1 d_Law_415 rfl (lv_at hl 1 rfl) ?_
  refine lv_aload_n G.1 G.2.1 d_Law_416 rfl (lv_at hl 0 rfl) ?_
  refine lv_iload_n G.1 G.2.1 d_Law_417 rfl (lv_at hl 3 rfl) ?_
  refine lv_iconst (v := nI 1) G.1 G.2.1 d_Law_418 (by decide) ?_
  refine lv_iadd G.1 G.2.1 d_Law_419 ?_
  refine tpi (w := nI 1) (by decide) ?_
  refine va_sld G.1 G.2.1 hX hbl hbA hS (nI_inn (n := 6) (a := 1) (by decide) (by decide)) d_Law_420 ?_
  refine tpi (w := (xs 1)) (by rw [nI_clamp (by decide)]) ?_
  refine lv_aload_n G.1 G.2.1 d_Law_421 rfl (lv_at hl 0 rfl) ?_
  refine lv_iload_n G.1 G.2.1 d_Law_422 rfl (lv_at hl 3 rfl) ?_
  refine lv_iconst (v := nI 2) G.1 G.2.1 d_Law_423 (by decide) ?_
  refine lv_iadd G.1 G.2.1 d_Law_424 ?_
  refine tpi (w := nI 2) (by decide) ?_
  refine va_sld G.1 G.2.1 hX hbl hbA hS (nI_inn (n := 6) (a := 2) (by decide) (by decide)) d_Law_425 ?_
  refine tpi (w := (xs 2)) (by rw [nI_clamp (by decide)]) ?_
  refine W.eq (g2 := F0 m 426 ls [.int (xs 2), .int (xs 1), .ref h0]) rfl ?_
  refine lv_aload_n G.1 G.2.1 d_Law_426 rfl (lv_at hl 0 rfl) ?_
  refine lv_iload_n G.1 G.2.1 d_Law_427 rfl (lv_at hl 3 rfl) ?_
  refine lv_iconst (v := nI 3) G.1 G.2.1 d_Law_428 (by decide) ?_
  refine lv_iadd G.1 G.2.1 d_Law_429 ?_
  refine tpi (w := nI 3) (by decide) ?_
  refine va_sld G.1 G.2.1 hX hbl hbA hS (nI_inn (n := 6) (a := 3) (by decide) (by decide)) d_Law_430 ?_
  refine tpi (w := (xs 3)) (by rw [nI_clamp (by decide)]) ?_
  refine kEi (wr := [(h0X, .inr (14, fsX)), (owX, .inl (g 6, 4, .inr (.inr (.inr (.inr (va_up (va_up (va_up (va_up (fun _ => none) 0 (some v0X)) 1 (some v1X)) 2 (some v2X)) 3 (some v3X))))))), (v0X, .inr (13, fw0X)), (v1X, .inr (13, fw1X)), (v2X, .inr (13, fw2X))]) G (kV (As := [.int (xs 1), .int (xs 2), .int (xs 3)]) (rest := []) G hP hD hS [0, 1, 2, 3, 4, 5, 6, 7] rfl rfl (c_Cw_told l D g h0 (xs 1) (xs 2) (xs 3) r_cwords r_creader r_cchecker r_cfinder r_cwriter r_cmachines r_ctape r_cstock r_csizes r_cmet r_cfound r_cdraft r_cfewestFor r_cfewestNext mm0 mm1 mm2 mm3 ww0 r_m0heap r_m0runs r_m0counts r_m0traceRow f_m0traceCount r_m0startedList f_m0startedCount f_m0present f_m0quantum f_m0stepsDone f_m0turnSteps f_m0turnMost f_m0turnOver r_m0finder r_m0names f_m0fault f_m0wanted f_m0thrown ww1 r_m1heap r_m1runs r_m1counts r_m1traceRow f_m1traceCount r_m1startedList f_m1startedCount f_m1present f_m1quantum f_m1stepsDone f_m1turnSteps f_m1turnMost f_m1turnOver r_m1finder r_m1names f_m1fault f_m1wanted f_m1thrown ww2 r_m2heap r_m2runs r_m2counts r_m2traceRow f_m2traceCount r_m2startedList f_m2startedCount f_m2present f_m2quantum f_m2stepsDone f_m2turnSteps f_m2turnMost f_m2turnOver r_m2finder r_m2names f_m2fault f_m2wanted f_m2thrown r_w0names f_w0wrongClass f_w0wrongMethod f_w0wrongAt r_w0rows r_w0above r_w0fields r_w0methods r_w0codes r_w0handlers r_w0extra r_w0orders r_w0classNamed f_w0breaks r_w0marks r_w1names f_w1wrongClass f_w1wrongMethod f_w1wrongAt r_w1rows r_w1above r_w1fields r_w1methods r_w1codes r_w1handlers r_w1extra r_w1orders r_w1classNamed f_w1breaks r_w1marks r_w2names f_w2wrongClass f_w2wrongMethod f_w2wrongAt r_w2rows r_w2above r_w2fields r_w2methods r_w2codes r_w2handlers r_w2extra r_w2orders r_w2classNamed f_w2breaks r_w2marks H.size ) w_Cw_told q1477 rfl rfl ⟨Nat.le_of_ble_eq_true rfl, Nat.le_of_ble_eq_true rfl⟩ (fun _ h => absurd h List.not_mem_nil) 0 (ci := 11) rfl rfl rfl hl.1 rfl (Nat.le_of_ble_eq_true rfl) rfl ⟨Nat.le_of_ble_eq_true rfl, (Nat.le_of_ble_eq_true rfl)⟩ d_Law_431) hP hD hS [0, 1, 2, 3, 4, 5, 6, 7] [8, 9, 10, 11, 12] rfl rfl rfl rfl (fun r_1 u_2 H locs hw hP hD hS hzH => ?_)
  have hw : r_1 = (-1) := hw
  have hP : va_P D CL [(h0X, .inr (14, fsX)), (owX, .inl (g 6, 4, .inr (.inr (.inr (.inr (va_up (va_up (va_up (va_up (fun _ => none) 0 (some v0X)) 1 (some v1X)) 2 (some v2X)) 3 (some v3X))))))), (v0X, .inr (13, fw0X)), (v1X, .inr (13, fw1X)), (v2X, .inr (13, fw2X))] H := hP
  have hD : va_D A [(h0X, .inr (14, fsX)), (owX, .inl (g 6, 4, .inr (.inr (.inr (.inr (va_up (va_up (va_up (va_up (fun _ => none) 0 (some v0X)) 1 (some v1X)) 2 (some v2X)) 3 (some v3X))))))), (v0X, .inr (13, fw0X)), (v1X, .inr (13, fw1X)), (v2X, .inr (13, fw2X))] := hD
  subst hw
  refine tpst (w := [.int (-1)]) rfl ?_
  refine lv_aload_n G.1 G.2.1 d_Law_434 rfl (lv_at hl 2 rfl) ?_
  refine lv_aload_n G.1 G.2.1 d_Law_435 rfl (lv_at hl 0 rfl) ?_
  refine lv_iload_n G.1 G.2.1 d_Law_436 rfl (lv_at hl 3 rfl) ?_
  refine lv_iconst (v := nI 1) G.1 G.2.1 d_Law_437 (by decide) ?_
  refine lv_iadd G.1 G.2.1 d_Law_438 ?_
  refine tpi (w := nI 1) (by decide) ?_
  refine va_sld G.1 G.2.1 hX hbl hbA hS (nI_inn (n := 6) (a := 1) (by decide) (by decide)) d_Law_439 ?_
  refine tpi (w := (xs 1)) (by rw [nI_clamp (by decide)]) ?_
  refine W.eq (g2 := F0 m 440 ls [.int (xs 1), .ref h0X, .int (-1)]) rfl ?_
  refine lv_aload_n G.1 G.2.1 d_Law_440 rfl (lv_at hl 0 rfl) ?_
  refine lv_iload_n G.1 G.2.1 d_Law_441 rfl (lv_at hl 3 rfl) ?_
  refine lv_iconst (v := nI 2) G.1 G.2.1 d_Law_442 (by decide) ?_
  refine lv_iadd G.1 G.2.1 d_Law_443 ?_
  refine tpi (w := nI 2) (by decide) ?_
  refine va_sld G.1 G.2.1 hX hbl hbA hS (nI_inn (n := 6) (a := 2) (by decide) (by decide)) d_Law_444 ?_
  refine tpi (w := (xs 2)) (by rw [nI_clamp (by decide)]) ?_
  refine lv_aload_n G.1 G.2.1 d_Law_445 rfl (lv_at hl 0 rfl) ?_
  refine lv_iload_n G.1 G.2.1 d_Law_446 rfl (lv_at hl 3 rfl) ?_
  refine lv_iconst (v := nI 3) G.1 G.2.1 d_Law_447 (by decide) ?_
  refine lv_iadd G.1 G.2.1 d_Law_448 ?_
  refine tpi (w := nI 3) (by decide) ?_
  refine va_sld G.1 G.2.1 hX hbl hbA hS (nI_inn (n := 6) (a := 3) (by decide) (by decide)) d_Law_449 ?_
  refine tpi (w := (xs 3)) (by rw [nI_clamp (by decide)]) ?_
  refine kEi (wr := []) G (kV (As := [.int (xs 1), .int (xs 2), .int (xs 3)]) (rest := [.int (-1)]) G hP hD hS [0, 1, 2, 3, 4] rfl rfl (c_Mo_told l D g h0X (xs 1) (xs 2) (xs 3) fsX owX v0X v1X v2X v3X fw0X fw1X fw2X H.size glenX gk0X gw0X gt0X gw1X gt1X gw2X gt2X) w_Mo_told q3657 rfl rfl ⟨Nat.le_of_ble_eq_true rfl, Nat.le_of_ble_eq_true rfl⟩ (fun _ h => absurd h List.not_mem_nil) 0 (ci := 14) rfl rfl rfl hl.1 rfl (Nat.le_of_ble_eq_true rfl) rfl ⟨Nat.le_of_ble_eq_true rfl, (Nat.le_of_ble_eq_true rfl)⟩ d_Law_450) hP hD hS [0, 1, 2, 3, 4] [] rfl rfl rfl rfl (fun r_3 u_4 H locs hw hP hD hS hzH => ?_)
  have hw : r_3 = (-1) := hw
  have hP : va_P D CL [] H := hP
  have hD : va_D A [] := hD
  subst hw
  refine tpst (w := [.int (-1), .int (-1)]) rfl ?_
  refine lv_icmp_eq (tgt := 1768) G.1 G.2.1 d_Law_453 (by decide) (fun c453 => ?_) (fun c453 => absurd c453 (fun h => h rfl))
  refine W.eq (g2 := F0 m 1768 ls []) rfl ?_
  refine lv_iinc (v := nI 6) (lv' := [(3, .int (nI 6)), (0, .ref b), (1, .ref h0), (2, .ref h0X)]) G.1 G.2.1 d_Law_1768 hl (k := 3) rfl (show (nI 0) + Int32.ofInt 6 = nI 6 from by decide) (by decide) rfl (fun ls hl => ?_)
  refine lv_goto (tgt := 18) G.1 G.2.1 d_Law_1771 (by decide) ?_
  refine lv_iload_n G.1 G.2.1 d_Law_18 rfl (lv_at hl 0 rfl) ?_
  refine lv_aload_n G.1 G.2.1 d_Law_19 rfl (lv_at hl 1 rfl) ?_
  refine va_slen G.1 G.2.1 hX hbl hbA hS d_Law_20 ?_
  refine tpi (w := nI 6) rfl ?_
  refine lv_bipush (v := nI 6) G.1 G.2.1 d_Law_21 (by decide) ?_
  refine lv_isub G.1 G.2.1 d_Law_23 ?_
  refine tpi (w := nI 0) (by decide) ?_
  refine lv_icmp_gt (tgt := 1774) G.1 G.2.1 d_Law_24 (by decide) (fun c24 => ?_) (fun c24 => absurd c24 (by decide))
  refine lv_iconst (v := nI 1) G.1 G.2.1 d_Law_1774 (by decide) ?_
  refine va_forget (fun q hq => hAA _ (hS.2.2 q hq)) ?_
  refine W.widen (k := 600002) (n := 7302232) (Nat.le_of_ble_eq_true rfl) (Nat.le_of_ble_eq_true rfl) ?_
  exact lw_ret G.1 G.2.1 G.2.2.2.1 G.2.2.2.2.1 d_Law_1775
theorem q1497 : Cond.code y_Cw_name b_Cw_name 7 (some .int) ∈ lw_ok := lw_okmem (List.mem_of_getElem? (i := 1497) (by decide +kernel)) rfl
theorem q1495 : Cond.instanceMethod y_Cw_name ∈ lw_ok := lw_okmem (List.mem_of_getElem? (i := 1495) (by decide +kernel)) rfl
theorem q1496 : Cond.selects y_Cw_name.cls y_Cw_name y_Cw_name ∈ lw_ok := lw_okmem (List.mem_of_getElem? (i := 1496) (by decide +kernel)) rfl
theorem w_Cw_name : CWv y_Cw_name b_Cw_name 7 (some .int) 5 ∧ Cond.instanceMethod y_Cw_name ∈ lw_ok ∧ Cond.selects y_Cw_name.cls y_Cw_name y_Cw_name ∈ lw_ok := ⟨⟨q1497, q329, by decide +kernel, by decide +kernel, by decide +kernel⟩, q1495, q1496⟩
theorem q1494 : Cond.methodLink "ClassWorksLaw" 49 y_Cw_name ∈ lw_ok := lw_okmem (List.mem_of_getElem? (i := 1494) (by decide +kernel)) rfl
theorem q3668 : Cond.code y_Mo_name b_Mo_name 8 (some .int) ∈ lw_ok := lw_okmem (List.mem_of_getElem? (i := 3668) (by decide +kernel)) rfl
theorem q3666 : Cond.instanceMethod y_Mo_name ∈ lw_ok := lw_okmem (List.mem_of_getElem? (i := 3666) (by decide +kernel)) rfl
theorem q3667 : Cond.selects y_Mo_name.cls y_Mo_name y_Mo_name ∈ lw_ok := lw_okmem (List.mem_of_getElem? (i := 3667) (by decide +kernel)) rfl
theorem w_Mo_name : CWv y_Mo_name b_Mo_name 8 (some .int) 5 ∧ Cond.instanceMethod y_Mo_name ∈ lw_ok ∧ Cond.selects y_Mo_name.cls y_Mo_name y_Mo_name ∈ lw_ok := ⟨⟨q3668, q348, by decide +kernel, by decide +kernel, by decide +kernel⟩, q3666, q3667⟩
theorem q3665 : Cond.methodLink "ClassWorksLaw" 52 y_Mo_name ∈ lw_ok := lw_okmem (List.mem_of_getElem? (i := 3665) (by decide +kernel)) rfl
theorem d_Law_458 : decode code 458 = .ok (.aload_n 1, 1) := by decide +kernel
theorem d_Law_459 : decode code 459 = .ok (.aload_n 0, 1) := by decide +kernel
theorem d_Law_460 : decode code 460 = .ok (.iload_n 3, 1) := by decide +kernel
theorem d_Law_461 : decode code 461 = .ok (.iconst 1, 1) := by decide +kernel
theorem d_Law_462 : decode code 462 = .ok (.iadd, 1) := by decide +kernel
theorem d_Law_463 : decode code 463 = .ok (.iaload, 1) := by decide +kernel
theorem d_Law_464 : decode code 464 = .ok (.aload_n 0, 1) := by decide +kernel
theorem d_Law_465 : decode code 465 = .ok (.iload_n 3, 1) := by decide +kernel
theorem d_Law_466 : decode code 466 = .ok (.iconst 2, 1) := by decide +kernel
theorem d_Law_467 : decode code 467 = .ok (.iadd, 1) := by decide +kernel
theorem d_Law_468 : decode code 468 = .ok (.iaload, 1) := by decide +kernel
theorem d_Law_469 : decode code 469 = .ok (.aload_n 0, 1) := by decide +kernel
theorem d_Law_470 : decode code 470 = .ok (.iload_n 3, 1) := by decide +kernel
theorem d_Law_471 : decode code 471 = .ok (.iconst 3, 1) := by decide +kernel
theorem d_Law_472 : decode code 472 = .ok (.iadd, 1) := by decide +kernel
theorem d_Law_473 : decode code 473 = .ok (.iaload, 1) := by decide +kernel
theorem d_Law_474 : decode code 474 = .ok (.aload_n 0, 1) := by decide +kernel
theorem d_Law_475 : decode code 475 = .ok (.iload_n 3, 1) := by decide +kernel
theorem d_Law_476 : decode code 476 = .ok (.iconst 4, 1) := by decide +kernel
theorem d_Law_477 : decode code 477 = .ok (.iadd, 1) := by decide +kernel
theorem d_Law_478 : decode code 478 = .ok (.iaload, 1) := by decide +kernel
theorem d_Law_479 : decode code 479 = .ok (.aload_n 0, 1) := by decide +kernel
theorem d_Law_480 : decode code 480 = .ok (.iload_n 3, 1) := by decide +kernel
theorem d_Law_481 : decode code 481 = .ok (.iconst 5, 1) := by decide +kernel
theorem d_Law_482 : decode code 482 = .ok (.iadd, 1) := by decide +kernel
theorem d_Law_483 : decode code 483 = .ok (.iaload, 1) := by decide +kernel
theorem d_Law_484 : decode code 484 = .ok (.invokevirtual 49, 3) := by decide +kernel
theorem d_Law_487 : decode code 487 = .ok (.aload_n 2, 1) := by decide +kernel
theorem d_Law_488 : decode code 488 = .ok (.aload_n 0, 1) := by decide +kernel
theorem d_Law_489 : decode code 489 = .ok (.iload_n 3, 1) := by decide +kernel
theorem d_Law_490 : decode code 490 = .ok (.iconst 1, 1) := by decide +kernel
theorem d_Law_491 : decode code 491 = .ok (.iadd, 1) := by decide +kernel
theorem d_Law_492 : decode code 492 = .ok (.iaload, 1) := by decide +kernel
theorem d_Law_493 : decode code 493 = .ok (.aload_n 0, 1) := by decide +kernel
theorem d_Law_494 : decode code 494 = .ok (.iload_n 3, 1) := by decide +kernel
theorem d_Law_495 : decode code 495 = .ok (.iconst 2, 1) := by decide +kernel
theorem d_Law_496 : decode code 496 = .ok (.iadd, 1) := by decide +kernel
theorem d_Law_497 : decode code 497 = .ok (.iaload, 1) := by decide +kernel
theorem d_Law_498 : decode code 498 = .ok (.aload_n 0, 1) := by decide +kernel
theorem d_Law_499 : decode code 499 = .ok (.iload_n 3, 1) := by decide +kernel
theorem d_Law_500 : decode code 500 = .ok (.iconst 3, 1) := by decide +kernel
theorem d_Law_501 : decode code 501 = .ok (.iadd, 1) := by decide +kernel
theorem d_Law_502 : decode code 502 = .ok (.iaload, 1) := by decide +kernel
theorem d_Law_503 : decode code 503 = .ok (.aload_n 0, 1) := by decide +kernel
theorem d_Law_504 : decode code 504 = .ok (.iload_n 3, 1) := by decide +kernel
theorem d_Law_505 : decode code 505 = .ok (.iconst 4, 1) := by decide +kernel
theorem d_Law_506 : decode code 506 = .ok (.iadd, 1) := by decide +kernel
theorem d_Law_507 : decode code 507 = .ok (.iaload, 1) := by decide +kernel
theorem d_Law_508 : decode code 508 = .ok (.aload_n 0, 1) := by decide +kernel
theorem d_Law_509 : decode code 509 = .ok (.iload_n 3, 1) := by decide +kernel
theorem d_Law_510 : decode code 510 = .ok (.iconst 5, 1) := by decide +kernel
theorem d_Law_511 : decode code 511 = .ok (.iadd, 1) := by decide +kernel
theorem d_Law_512 : decode code 512 = .ok (.iaload, 1) := by decide +kernel
theorem d_Law_513 : decode code 513 = .ok (.invokevirtual 52, 3) := by decide +kernel
theorem d_Law_516 : decode code 516 = .ok (.if_icmp .eq 1252, 3) := by decide +kernel
set_option maxHeartbeats 4000000 in
set_option maxRecDepth 100000 in
theorem law_name {p : Program} {e : Env} {s : State} {m : MethodId} {below : List Frame} {meth : Method} {c : Code} {l : Launch} {D : va_G} {g : Nat → ClassId} {sl : List SL} {b : Nat} {xs : Nat → Int32} {A : Nat → Prop} (h0 : Nat) (r_cwords : Nat) (r_creader : Nat) (r_cchecker : Nat) (r_cfinder : Nat) (r_cwriter : Nat) (r_cmachines : Nat) (r_ctape : Nat) (r_cstock : Nat) (r_csizes : Nat) (r_cmet : Nat) (r_cfound : Nat) (r_cdraft : Nat) (r_cfewestFor : Nat) (r_cfewestNext : Nat) (mm0 : Nat) (mm1 : Nat) (mm2 : Nat) (mm3 : Nat) (ww0 : Nat) (r_m0heap : Nat) (r_m0runs : Nat) (r_m0counts : Nat) (r_m0traceRow : Nat) (f_m0traceCount : Int32) (r_m0startedList : Nat) (f_m0startedCount : Int32) (f_m0present : Int32) (f_m0quantum : Int32) (f_m0stepsDone : Int32) (f_m0turnSteps : Int32) (f_m0turnMost : Int32) (f_m0turnOver : Int32) (r_m0finder : Nat) (r_m0names : Nat) (f_m0fault : Int32) (f_m0wanted : Int32) (f_m0thrown : Int32) (ww1 : Nat) (r_m1heap : Nat) (r_m1runs : Nat) (r_m1counts : Nat) (r_m1traceRow : Nat) (f_m1traceCount : Int32) (r_m1startedList : Nat) (f_m1startedCount : Int32) (f_m1present : Int32) (f_m1quantum : Int32) (f_m1stepsDone : Int32) (f_m1turnSteps : Int32) (f_m1turnMost : Int32) (f_m1turnOver : Int32) (r_m1finder : Nat) (r_m1names : Nat) (f_m1fault : Int32) (f_m1wanted : Int32) (f_m1thrown : Int32) (ww2 : Nat) (r_m2heap : Nat) (r_m2runs : Nat) (r_m2counts : Nat) (r_m2traceRow : Nat) (f_m2traceCount : Int32) (r_m2startedList : Nat) (f_m2startedCount : Int32) (f_m2present : Int32) (f_m2quantum : Int32) (f_m2stepsDone : Int32) (f_m2turnSteps : Int32) (f_m2turnMost : Int32) (f_m2turnOver : Int32) (r_m2finder : Nat) (r_m2names : Nat) (f_m2fault : Int32) (f_m2wanted : Int32) (f_m2thrown : Int32) (r_w0names : Nat) (f_w0wrongClass : Int32) (f_w0wrongMethod : Int32) (f_w0wrongAt : Int32) (r_w0rows : Nat) (r_w0above : Nat) (r_w0fields : Nat) (r_w0methods : Nat) (r_w0codes : Nat) (r_w0handlers : Nat) (r_w0extra : Nat) (r_w0orders : Nat) (r_w0classNamed : Nat) (f_w0breaks : Int32) (r_w0marks : Nat) (r_w1names : Nat) (f_w1wrongClass : Int32) (f_w1wrongMethod : Int32) (f_w1wrongAt : Int32) (r_w1rows : Nat) (r_w1above : Nat) (r_w1fields : Nat) (r_w1methods : Nat) (r_w1codes : Nat) (r_w1handlers : Nat) (r_w1extra : Nat) (r_w1orders : Nat) (r_w1classNamed : Nat) (f_w1breaks : Int32) (r_w1marks : Nat) (r_w2names : Nat) (f_w2wrongClass : Int32) (f_w2wrongMethod : Int32) (f_w2wrongAt : Int32) (r_w2rows : Nat) (r_w2above : Nat) (r_w2fields : Nat) (r_w2methods : Nat) (r_w2codes : Nat) (r_w2handlers : Nat) (r_w2extra : Nat) (r_w2orders : Nat) (r_w2classNamed : Nat) (f_w2breaks : Int32) (r_w2marks : Nat) (h0X : Nat) (fsX : List Value) (owX : Nat) (v0X : Nat) (v1X : Nat) (v2X : Nat) (v3X : Nat) (fw0X : List Value) (fw1X : List Value) (fw2X : List Value) (G : GV l p s m #[Value.ref b] meth c (⟨"ClassWorksLaw", meth.name, ""⟩ : MethodName) code 4 ret g D sl A) (hX : va_X b 6 xs s s.heap) (hbl : b < s.heap.size) (hbA : ¬ A b) (hAA : ∀ q, A q → s.heap.size ≤ q) {H : Heap} {locs : List Loc} {ls : Array Slot} (glenX : fsX.length = 131) (gk0X : fsX[44]? = some (.ref owX)) (gw0X : fw0X.length = 72) (gt0X : fw0X[0]? = some (.int (nI 0))) (gw1X : fw1X.length = 72) (gt1X : fw1X[0]? = some (.int (nI 0))) (gw2X : fw2X.length = 72) (gt2X : fw2X[0]? = some (.int (nI 0))) (hP : va_P D CL [(h0, .inr (11, [.ref r_cwords, .ref r_creader, .ref r_cchecker, .ref r_cfinder, .ref r_cwriter, .ref r_cmachines, .ref r_ctape, .int (nI 0), .int (-2), .int (nI 60000), .ref r_cstock, .ref r_csizes, .ref r_cmet, .ref r_cfound, .int (nI 0), .ref r_cdraft, .int (nI 0), .int (nI 0), .ref r_cfewestFor, .ref r_cfewestNext])), (r_cmachines, .inl (g 4, 4, .inr (.inr (.inr (.inr (va_up (va_up (va_up (va_up (fun _ => none) 0 (some mm0)) 1 (some mm1)) 2 (some mm2)) 3 (some mm3))))))), (mm0, .inr (4, [.ref ww0, .ref r_m0heap, .ref r_m0runs, .ref r_m0counts, .ref r_m0traceRow, .int f_m0traceCount, .ref r_m0startedList, .int f_m0startedCount, .int f_m0present, .int f_m0quantum, .int f_m0stepsDone, .int f_m0turnSteps, .int f_m0turnMost, .int f_m0turnOver, .ref r_m0finder, .ref r_m0names, .int f_m0fault, .int f_m0wanted, .int f_m0thrown])), (mm1, .inr (4, [.ref ww1, .ref r_m1heap, .ref r_m1runs, .ref r_m1counts, .ref r_m1traceRow, .int f_m1traceCount, .ref r_m1startedList, .int f_m1startedCount, .int f_m1present, .int f_m1quantum, .int f_m1stepsDone, .int f_m1turnSteps, .int f_m1turnMost, .int f_m1turnOver, .ref r_m1finder, .ref r_m1names, .int f_m1fault, .int f_m1wanted, .int f_m1thrown])), (mm2, .inr (4, [.ref ww2, .ref r_m2heap, .ref r_m2runs, .ref r_m2counts, .ref r_m2traceRow, .int f_m2traceCount, .ref r_m2startedList, .int f_m2startedCount, .int f_m2present, .int f_m2quantum, .int f_m2stepsDone, .int f_m2turnSteps, .int f_m2turnMost, .int f_m2turnOver, .ref r_m2finder, .ref r_m2names, .int f_m2fault, .int f_m2wanted, .int f_m2thrown])), (ww0, .inr (9, [.ref r_w0names, .int (nI 0), .int (nI 21), .int f_w0wrongClass, .int f_w0wrongMethod, .int f_w0wrongAt, .ref r_w0rows, .ref r_w0above, .ref r_w0fields, .ref r_w0methods, .ref r_w0codes, .ref r_w0handlers, .ref r_w0extra, .ref r_w0orders, .ref r_w0classNamed, .int f_w0breaks, .ref r_w0marks])), (ww1, .inr (9, [.ref r_w1names, .int (nI 0), .int (nI 21), .int f_w1wrongClass, .int f_w1wrongMethod, .int f_w1wrongAt, .ref r_w1rows, .ref r_w1above, .ref r_w1fields, .ref r_w1methods, .ref r_w1codes, .ref r_w1handlers, .ref r_w1extra, .ref r_w1orders, .ref r_w1classNamed, .int f_w1breaks, .ref r_w1marks])), (ww2, .inr (9, [.ref r_w2names, .int (nI 0), .int (nI 21), .int f_w2wrongClass, .int f_w2wrongMethod, .int f_w2wrongAt, .ref r_w2rows, .ref r_w2above, .ref r_w2fields, .ref r_w2methods, .ref r_w2codes, .ref r_w2handlers, .ref r_w2extra, .ref r_w2orders, .ref r_w2classNamed, .int f_w2breaks, .ref r_w2marks])), (h0X, .inr (14, fsX)), (owX, .inl (g 6, 4, .inr (.inr (.inr (.inr (va_up (va_up (va_up (va_up (fun _ => none) 0 (some v0X)) 1 (some v1X)) 2 (some v2X)) 3 (some v3X))))))), (v0X, .inr (13, fw0X)), (v1X, .inr (13, fw1X)), (v2X, .inr (13, fw2X))] H) (hD : va_D A [(h0, .inr (11, [.ref r_cwords, .ref r_creader, .ref r_cchecker, .ref r_cfinder, .ref r_cwriter, .ref r_cmachines, .ref r_ctape, .int (nI 0), .int (-2), .int (nI 60000), .ref r_cstock, .ref r_csizes, .ref r_cmet, .ref r_cfound, .int (nI 0), .ref r_cdraft, .int (nI 0), .int (nI 0), .ref r_cfewestFor, .ref r_cfewestNext])), (r_cmachines, .inl (g 4, 4, .inr (.inr (.inr (.inr (va_up (va_up (va_up (va_up (fun _ => none) 0 (some mm0)) 1 (some mm1)) 2 (some mm2)) 3 (some mm3))))))), (mm0, .inr (4, [.ref ww0, .ref r_m0heap, .ref r_m0runs, .ref r_m0counts, .ref r_m0traceRow, .int f_m0traceCount, .ref r_m0startedList, .int f_m0startedCount, .int f_m0present, .int f_m0quantum, .int f_m0stepsDone, .int f_m0turnSteps, .int f_m0turnMost, .int f_m0turnOver, .ref r_m0finder, .ref r_m0names, .int f_m0fault, .int f_m0wanted, .int f_m0thrown])), (mm1, .inr (4, [.ref ww1, .ref r_m1heap, .ref r_m1runs, .ref r_m1counts, .ref r_m1traceRow, .int f_m1traceCount, .ref r_m1startedList, .int f_m1startedCount, .int f_m1present, .int f_m1quantum, .int f_m1stepsDone, .int f_m1turnSteps, .int f_m1turnMost, .int f_m1turnOver, .ref r_m1finder, .ref r_m1names, .int f_m1fault, .int f_m1wanted, .int f_m1thrown])), (mm2, .inr (4, [.ref ww2, .ref r_m2heap, .ref r_m2runs, .ref r_m2counts, .ref r_m2traceRow, .int f_m2traceCount, .ref r_m2startedList, .int f_m2startedCount, .int f_m2present, .int f_m2quantum, .int f_m2stepsDone, .int f_m2turnSteps, .int f_m2turnMost, .int f_m2turnOver, .ref r_m2finder, .ref r_m2names, .int f_m2fault, .int f_m2wanted, .int f_m2thrown])), (ww0, .inr (9, [.ref r_w0names, .int (nI 0), .int (nI 21), .int f_w0wrongClass, .int f_w0wrongMethod, .int f_w0wrongAt, .ref r_w0rows, .ref r_w0above, .ref r_w0fields, .ref r_w0methods, .ref r_w0codes, .ref r_w0handlers, .ref r_w0extra, .ref r_w0orders, .ref r_w0classNamed, .int f_w0breaks, .ref r_w0marks])), (ww1, .inr (9, [.ref r_w1names, .int (nI 0), .int (nI 21), .int f_w1wrongClass, .int f_w1wrongMethod, .int f_w1wrongAt, .ref r_w1rows, .ref r_w1above, .ref r_w1fields, .ref r_w1methods, .ref r_w1codes, .ref r_w1handlers, .ref r_w1extra, .ref r_w1orders, .ref r_w1classNamed, .int f_w1breaks, .ref r_w1marks])), (ww2, .inr (9, [.ref r_w2names, .int (nI 0), .int (nI 21), .int f_w2wrongClass, .int f_w2wrongMethod, .int f_w2wrongAt, .ref r_w2rows, .ref r_w2above, .ref r_w2fields, .ref r_w2methods, .ref r_w2codes, .ref r_w2handlers, .ref r_w2extra, .ref r_w2orders, .ref r_w2classNamed, .int f_w2breaks, .ref r_w2marks])), (h0X, .inr (14, fsX)), (owX, .inl (g 6, 4, .inr (.inr (.inr (.inr (va_up (va_up (va_up (va_up (fun _ => none) 0 (some v0X)) 1 (some v1X)) 2 (some v2X)) 3 (some v3X))))))), (v0X, .inr (13, fw0X)), (v1X, .inr (13, fw1X)), (v2X, .inr (13, fw2X))]) (hS : va_S A s.heap H locs) (hl : lv_has ls 4 [(0, .ref b), (1, .ref h0), (2, .ref h0X), (3, .int (nI 0))]) : W p l e room_1 s m #[Value.ref b] below meth c H locs 702 488194 (lw_Z below #[Value.ref b] s) (F0 m 458 ls []) := by
  refine lv_aload_n G.1 G.2.1 d_Law_458 rfl (lv_at hl 1 rfl) ?_
  refine lv_aload_n G.1 G.2.1 d_Law_459 rfl (lv_at hl 0 rfl) ?_
  refine lv_iload_n G.1 G.2.1 d_Law_460 rfl (lv_at hl 3 rfl) ?_
  refine lv_iconst (v := nI 1) G.1 G.2.1 d_Law_461 (by decide) ?_
  refine lv_iadd G.1 G.2.1 d_Law_462 ?_
  refine tpi (w := nI 1) (by decide) ?_
  refine va_sld G.1 G.2.1 hX hbl hbA hS (nI_inn (n := 6) (a := 1) (by decide) (by decide)) d_Law_463 ?_
  refine tpi (w := (xs 1)) (by rw [nI_clamp (by decide)]) ?_
  refine lv_aload_n G.1 G.2.1 d_Law_464 rfl (lv_at hl 0 rfl) ?_
  refine lv_iload_n G.1 G.2.1 d_Law_465 rfl (lv_at hl 3 rfl) ?_
  refine lv_iconst (v := nI 2) G.1 G.2.1 d_Law_466 (by decide) ?_
  refine lv_iadd G.1 G.2.1 d_Law_467 ?_
  refine tpi (w := nI 2) (by decide) ?_
  refine va_sld G.1 G.2.1 hX hbl hbA hS (nI_inn (n := 6) (a := 2) (by decide) (by decide)) d_Law_468 ?_
  refine tpi (w := (xs 2)) (by rw [nI_clamp (by decide)]) ?_
  refine W.eq (g2 := F0 m 469 ls [.int (xs 2), .int (xs 1), .ref h0]) rfl ?_
  refine lv_aload_n G.1 G.2.1 d_Law_469 rfl (lv_at hl 0 rfl) ?_
  refine lv_iload_n G.1 G.2.1 d_Law_470 rfl (lv_at hl 3 rfl) ?_
  refine lv_iconst (v := nI 3) G.1 G.2.1 d_Law_471 (by decide) ?_
  refine lv_iadd G.1 G.2.1 d_Law_472 ?_
  refine tpi (w := nI 3) (by decide) ?_
  refine va_sld G.1 G.2.1 hX hbl hbA hS (nI_inn (n := 6) (a := 3) (by decide) (by decide)) d_Law_473 ?_
  refine tpi (w := (xs 3)) (by rw [nI_clamp (by decide)]) ?_
  refine lv_aload_n G.1 G.2.1 d_Law_474 rfl (lv_at hl 0 rfl) ?_
  refine lv_iload_n G.1 G.2.1 d_Law_475 rfl (lv_at hl 3 rfl) ?_
  refine lv_iconst (v := nI 4) G.1 G.2.1 d_Law_476 (by decide) ?_
  refine lv_iadd G.1 G.2.1 d_Law_477 ?_
  refine tpi (w := nI 4) (by decide) ?_
  refine va_sld G.1 G.2.1 hX hbl hbA hS (nI_inn (n := 6) (a := 4) (by decide) (by decide)) d_Law_478 ?_
  refine tpi (w := (xs 4)) (by rw [nI_clamp (by decide)]) ?_
  refine lv_aload_n G.1 G.2.1 d_Law_479 rfl (lv_at hl 0 rfl) ?_
  refine lv_iload_n G.1 G.2.1 d_Law_480 rfl (lv_at hl 3 rfl) ?_
  refine W.eq (g2 := F0 m 481 ls [.int (nI 0), .ref b, .int (xs 4), .int (xs 3), .int (xs 2), .int (xs 1), .ref h0]) rfl ?_
  refine lv_iconst (v := nI 5) G.1 G.2.1 d_Law_481 (by decide) ?_
  refine lv_iadd G.1 G.2.1 d_Law_482 ?_
  refine tpi (w := nI 5) (by decide) ?_
  refine va_sld G.1 G.2.1 hX hbl hbA hS (nI_inn (n := 6) (a := 5) (by decide) (by decide)) d_Law_483 ?_
  refine tpi (w := (xs 5)) (by rw [nI_clamp (by decide)]) ?_
  refine kEi (wr := [(h0X, .inr (14, fsX)), (owX, .inl (g 6, 4, .inr (.inr (.inr (.inr (va_up (va_up (va_up (va_up (fun _ => none) 0 (some v0X)) 1 (some v1X)) 2 (some v2X)) 3 (some v3X))))))), (v0X, .inr (13, fw0X)), (v1X, .inr (13, fw1X)), (v2X, .inr (13, fw2X))]) G (kV (As := [.int (xs 1), .int (xs 2), .int (xs 3), .int (xs 4), .int (xs 5)]) (rest := []) G hP hD hS [0, 1, 2, 3, 4, 5, 6, 7] rfl rfl (c_Cw_name l D g h0 (xs 1) (xs 2) (xs 3) (xs 4) (xs 5) r_cwords r_creader r_cchecker r_cfinder r_cwriter r_cmachines r_ctape r_cstock r_csizes r_cmet r_cfound r_cdraft r_cfewestFor r_cfewestNext mm0 mm1 mm2 mm3 ww0 r_m0heap r_m0runs r_m0counts r_m0traceRow f_m0traceCount r_m0startedList f_m0startedCount f_m0present f_m0quantum f_m0stepsDone f_m0turnSteps f_m0turnMost f_m0turnOver r_m0finder r_m0names f_m0fault f_m0wanted f_m0thrown ww1 r_m1heap r_m1runs r_m1counts r_m1traceRow f_m1traceCount r_m1startedList f_m1startedCount f_m1present f_m1quantum f_m1stepsDone f_m1turnSteps f_m1turnMost f_m1turnOver r_m1finder r_m1names f_m1fault f_m1wanted f_m1thrown ww2 r_m2heap r_m2runs r_m2counts r_m2traceRow f_m2traceCount r_m2startedList f_m2startedCount f_m2present f_m2quantum f_m2stepsDone f_m2turnSteps f_m2turnMost f_m2turnOver r_m2finder r_m2names f_m2fault f_m2wanted f_m2thrown r_w0names f_w0wrongClass f_w0wrongMethod f_w0wrongAt r_w0rows r_w0above r_w0fields r_w0methods r_w0codes r_w0handlers r_w0extra r_w0orders r_w0classNamed f_w0breaks r_w0marks r_w1names f_w1wrongClass f_w1wrongMethod f_w1wrongAt r_w1rows r_w1above r_w1fields r_w1methods r_w1codes r_w1handlers r_w1extra r_w1orders r_w1classNamed f_w1breaks r_w1marks r_w2names f_w2wrongClass f_w2wrongMethod f_w2wrongAt r_w2rows r_w2above r_w2fields r_w2methods r_w2codes r_w2handlers r_w2extra r_w2orders r_w2classNamed f_w2breaks r_w2marks H.size ) w_Cw_name q1494 rfl rfl ⟨Nat.le_of_ble_eq_true rfl, Nat.le_of_ble_eq_true rfl⟩ (fun _ h => absurd h List.not_mem_nil) 0 (ci := 11) rfl rfl rfl hl.1 rfl (Nat.le_of_ble_eq_true rfl) rfl ⟨Nat.le_of_ble_eq_true rfl, (Nat.le_of_ble_eq_true rfl)⟩ d_Law_484) hP hD hS [0, 1, 2, 3, 4, 5, 6, 7] [8, 9, 10, 11, 12] rfl rfl rfl rfl (fun r_1 u_2 H locs hw hP hD hS hzH => ?_)
  have hw : r_1 = (-1) := hw
  have hP : va_P D CL [(h0X, .inr (14, fsX)), (owX, .inl (g 6, 4, .inr (.inr (.inr (.inr (va_up (va_up (va_up (va_up (fun _ => none) 0 (some v0X)) 1 (some v1X)) 2 (some v2X)) 3 (some v3X))))))), (v0X, .inr (13, fw0X)), (v1X, .inr (13, fw1X)), (v2X, .inr (13, fw2X))] H := hP
  have hD : va_D A [(h0X, .inr (14, fsX)), (owX, .inl (g 6, 4, .inr (.inr (.inr (.inr (va_up (va_up (va_up (va_up (fun _ => none) 0 (some v0X)) 1 (some v1X)) 2 (some v2X)) 3 (some v3X))))))), (v0X, .inr (13, fw0X)), (v1X, .inr (13, fw1X)), (v2X, .inr (13, fw2X))] := hD
  subst hw
  refine tpst (w := [.int (-1)]) rfl ?_
  refine lv_aload_n G.1 G.2.1 d_Law_487 rfl (lv_at hl 2 rfl) ?_
  refine lv_aload_n G.1 G.2.1 d_Law_488 rfl (lv_at hl 0 rfl) ?_
  refine lv_iload_n G.1 G.2.1 d_Law_489 rfl (lv_at hl 3 rfl) ?_
  refine lv_iconst (v := nI 1) G.1 G.2.1 d_Law_490 (by decide) ?_
  refine lv_iadd G.1 G.2.1 d_Law_491 ?_
  refine tpi (w := nI 1) (by decide) ?_
  refine va_sld G.1 G.2.1 hX hbl hbA hS (nI_inn (n := 6) (a := 1) (by decide) (by decide)) d_Law_492 ?_
  refine tpi (w := (xs 1)) (by rw [nI_clamp (by decide)]) ?_
  refine lv_aload_n G.1 G.2.1 d_Law_493 rfl (lv_at hl 0 rfl) ?_
  refine lv_iload_n G.1 G.2.1 d_Law_494 rfl (lv_at hl 3 rfl) ?_
  refine W.eq (g2 := F0 m 495 ls [.int (nI 0), .ref b, .int (xs 1), .ref h0X, .int (-1)]) rfl ?_
  refine lv_iconst (v := nI 2) G.1 G.2.1 d_Law_495 (by decide) ?_
  refine lv_iadd G.1 G.2.1 d_Law_496 ?_
  refine tpi (w := nI 2) (by decide) ?_
  refine va_sld G.1 G.2.1 hX hbl hbA hS (nI_inn (n := 6) (a := 2) (by decide) (by decide)) d_Law_497 ?_
  refine tpi (w := (xs 2)) (by rw [nI_clamp (by decide)]) ?_
  refine lv_aload_n G.1 G.2.1 d_Law_498 rfl (lv_at hl 0 rfl) ?_
  refine lv_iload_n G.1 G.2.1 d_Law_499 rfl (lv_at hl 3 rfl) ?_
  refine lv_iconst (v := nI 3) G.1 G.2.1 d_Law_500 (by decide) ?_
  refine lv_iadd G.1 G.2.1 d_Law_501 ?_
  refine tpi (w := nI 3) (by decide) ?_
  refine va_sld G.1 G.2.1 hX hbl hbA hS (nI_inn (n := 6) (a := 3) (by decide) (by decide)) d_Law_502 ?_
  refine tpi (w := (xs 3)) (by rw [nI_clamp (by decide)]) ?_
  refine lv_aload_n G.1 G.2.1 d_Law_503 rfl (lv_at hl 0 rfl) ?_
  refine lv_iload_n G.1 G.2.1 d_Law_504 rfl (lv_at hl 3 rfl) ?_
  refine lv_iconst (v := nI 4) G.1 G.2.1 d_Law_505 (by decide) ?_
  refine lv_iadd G.1 G.2.1 d_Law_506 ?_
  refine tpi (w := nI 4) (by decide) ?_
  refine W.eq (g2 := F0 m 507 ls [.int (nI 4), .ref b, .int (xs 3), .int (xs 2), .int (xs 1), .ref h0X, .int (-1)]) rfl ?_
  refine va_sld G.1 G.2.1 hX hbl hbA hS (nI_inn (n := 6) (a := 4) (by decide) (by decide)) d_Law_507 ?_
  refine tpi (w := (xs 4)) (by rw [nI_clamp (by decide)]) ?_
  refine lv_aload_n G.1 G.2.1 d_Law_508 rfl (lv_at hl 0 rfl) ?_
  refine lv_iload_n G.1 G.2.1 d_Law_509 rfl (lv_at hl 3 rfl) ?_
  refine lv_iconst (v := nI 5) G.1 G.2.1 d_Law_510 (by decide) ?_
  refine lv_iadd G.1 G.2.1 d_Law_511 ?_
  refine tpi (w := nI 5) (by decide) ?_
  refine va_sld G.1 G.2.1 hX hbl hbA hS (nI_inn (n := 6) (a := 5) (by decide) (by decide)) d_Law_512 ?_
  refine tpi (w := (xs 5)) (by rw [nI_clamp (by decide)]) ?_
  refine kEi (wr := []) G (kV (As := [.int (xs 1), .int (xs 2), .int (xs 3), .int (xs 4), .int (xs 5)]) (rest := [.int (-1)]) G hP hD hS [0, 1, 2, 3, 4] rfl rfl (c_Mo_name l D g h0X (xs 1) (xs 2) (xs 3) (xs 4) (xs 5) fsX owX v0X v1X v2X v3X fw0X fw1X fw2X H.size glenX gk0X gw0X gt0X gw1X gt1X gw2X gt2X) w_Mo_name q3665 rfl rfl ⟨Nat.le_of_ble_eq_true rfl, Nat.le_of_ble_eq_true rfl⟩ (fun _ h => absurd h List.not_mem_nil) 0 (ci := 14) rfl rfl rfl hl.1 rfl (Nat.le_of_ble_eq_true rfl) rfl ⟨Nat.le_of_ble_eq_true rfl, (Nat.le_of_ble_eq_true rfl)⟩ d_Law_513) hP hD hS [0, 1, 2, 3, 4] [] rfl rfl rfl rfl (fun r_3 u_4 H locs hw hP hD hS hzH => ?_)
  have hw : r_3 = (-1) := hw
  have hP : va_P D CL [] H := hP
  have hD : va_D A [] := hD
  subst hw
  refine tpst (w := [.int (-1), .int (-1)]) rfl ?_
  refine lv_icmp_eq (tgt := 1768) G.1 G.2.1 d_Law_516 (by decide) (fun c516 => ?_) (fun c516 => absurd c516 (fun h => h rfl))
  refine lv_iinc (v := nI 6) (lv' := [(3, .int (nI 6)), (0, .ref b), (1, .ref h0), (2, .ref h0X)]) G.1 G.2.1 d_Law_1768 hl (k := 3) rfl (show (nI 0) + Int32.ofInt 6 = nI 6 from by decide) (by decide) rfl (fun ls hl => ?_)
  refine lv_goto (tgt := 18) G.1 G.2.1 d_Law_1771 (by decide) ?_
  refine lv_iload_n G.1 G.2.1 d_Law_18 rfl (lv_at hl 0 rfl) ?_
  refine lv_aload_n G.1 G.2.1 d_Law_19 rfl (lv_at hl 1 rfl) ?_
  refine W.eq (g2 := F0 m 20 ls [.ref b, .int (nI 6)]) rfl ?_
  refine va_slen G.1 G.2.1 hX hbl hbA hS d_Law_20 ?_
  refine tpi (w := nI 6) rfl ?_
  refine lv_bipush (v := nI 6) G.1 G.2.1 d_Law_21 (by decide) ?_
  refine lv_isub G.1 G.2.1 d_Law_23 ?_
  refine tpi (w := nI 0) (by decide) ?_
  refine lv_icmp_gt (tgt := 1774) G.1 G.2.1 d_Law_24 (by decide) (fun c24 => ?_) (fun c24 => absurd c24 (by decide))
  refine lv_iconst (v := nI 1) G.1 G.2.1 d_Law_1774 (by decide) ?_
  refine va_forget (fun q hq => hAA _ (hS.2.2 q hq)) ?_
  refine W.widen (k := 600002) (n := 7302232) (Nat.le_of_ble_eq_true rfl) (Nat.le_of_ble_eq_true rfl) ?_
  exact lw_ret G.1 G.2.1 G.2.2.2.1 G.2.2.2.2.1 d_Law_1775
theorem q1521 : Cond.code y_Cw_member b_Cw_member 6 (some .int) ∈ lw_ok := lw_okmem (List.mem_of_getElem? (i := 1521) (by decide +kernel)) rfl
theorem q1519 : Cond.instanceMethod y_Cw_member ∈ lw_ok := lw_okmem (List.mem_of_getElem? (i := 1519) (by decide +kernel)) rfl
theorem q1520 : Cond.selects y_Cw_member.cls y_Cw_member y_Cw_member ∈ lw_ok := lw_okmem (List.mem_of_getElem? (i := 1520) (by decide +kernel)) rfl
theorem w_Cw_member : CWv y_Cw_member b_Cw_member 6 (some .int) 4 ∧ Cond.instanceMethod y_Cw_member ∈ lw_ok ∧ Cond.selects y_Cw_member.cls y_Cw_member y_Cw_member ∈ lw_ok := ⟨⟨q1521, q329, by decide +kernel, by decide +kernel, by decide +kernel⟩, q1519, q1520⟩
theorem q1518 : Cond.methodLink "ClassWorksLaw" 53 y_Cw_member ∈ lw_ok := lw_okmem (List.mem_of_getElem? (i := 1518) (by decide +kernel)) rfl
theorem q3672 : Cond.code y_Mo_member b_Mo_member 8 (some .int) ∈ lw_ok := lw_okmem (List.mem_of_getElem? (i := 3672) (by decide +kernel)) rfl
theorem q3670 : Cond.instanceMethod y_Mo_member ∈ lw_ok := lw_okmem (List.mem_of_getElem? (i := 3670) (by decide +kernel)) rfl
theorem q3671 : Cond.selects y_Mo_member.cls y_Mo_member y_Mo_member ∈ lw_ok := lw_okmem (List.mem_of_getElem? (i := 3671) (by decide +kernel)) rfl
theorem w_Mo_member : CWv y_Mo_member b_Mo_member 8 (some .int) 4 ∧ Cond.instanceMethod y_Mo_member ∈ lw_ok ∧ Cond.selects y_Mo_member.cls y_Mo_member y_Mo_member ∈ lw_ok := ⟨⟨q3672, q348, by decide +kernel, by decide +kernel, by decide +kernel⟩, q3670, q3671⟩
theorem q3669 : Cond.methodLink "ClassWorksLaw" 57 y_Mo_member ∈ lw_ok := lw_okmem (List.mem_of_getElem? (i := 3669) (by decide +kernel)) rfl
theorem d_Law_521 : decode code 521 = .ok (.aload_n 1, 1) := by decide +kernel
theorem d_Law_522 : decode code 522 = .ok (.aload_n 0, 1) := by decide +kernel
theorem d_Law_523 : decode code 523 = .ok (.iload_n 3, 1) := by decide +kernel
theorem d_Law_524 : decode code 524 = .ok (.iconst 1, 1) := by decide +kernel
theorem d_Law_525 : decode code 525 = .ok (.iadd, 1) := by decide +kernel
theorem d_Law_526 : decode code 526 = .ok (.iaload, 1) := by decide +kernel
theorem d_Law_527 : decode code 527 = .ok (.aload_n 0, 1) := by decide +kernel
theorem d_Law_528 : decode code 528 = .ok (.iload_n 3, 1) := by decide +kernel
theorem d_Law_529 : decode code 529 = .ok (.iconst 2, 1) := by decide +kernel
theorem d_Law_530 : decode code 530 = .ok (.iadd, 1) := by decide +kernel
theorem d_Law_531 : decode code 531 = .ok (.iaload, 1) := by decide +kernel
theorem d_Law_532 : decode code 532 = .ok (.aload_n 0, 1) := by decide +kernel
theorem d_Law_533 : decode code 533 = .ok (.iload_n 3, 1) := by decide +kernel
theorem d_Law_534 : decode code 534 = .ok (.iconst 3, 1) := by decide +kernel
theorem d_Law_535 : decode code 535 = .ok (.iadd, 1) := by decide +kernel
theorem d_Law_536 : decode code 536 = .ok (.iaload, 1) := by decide +kernel
theorem d_Law_537 : decode code 537 = .ok (.aload_n 0, 1) := by decide +kernel
theorem d_Law_538 : decode code 538 = .ok (.iload_n 3, 1) := by decide +kernel
theorem d_Law_539 : decode code 539 = .ok (.iconst 4, 1) := by decide +kernel
theorem d_Law_540 : decode code 540 = .ok (.iadd, 1) := by decide +kernel
theorem d_Law_541 : decode code 541 = .ok (.iaload, 1) := by decide +kernel
theorem d_Law_542 : decode code 542 = .ok (.invokevirtual 53, 3) := by decide +kernel
theorem d_Law_545 : decode code 545 = .ok (.aload_n 2, 1) := by decide +kernel
theorem d_Law_546 : decode code 546 = .ok (.aload_n 0, 1) := by decide +kernel
theorem d_Law_547 : decode code 547 = .ok (.iload_n 3, 1) := by decide +kernel
theorem d_Law_548 : decode code 548 = .ok (.iconst 1, 1) := by decide +kernel
theorem d_Law_549 : decode code 549 = .ok (.iadd, 1) := by decide +kernel
theorem d_Law_550 : decode code 550 = .ok (.iaload, 1) := by decide +kernel
theorem d_Law_551 : decode code 551 = .ok (.aload_n 0, 1) := by decide +kernel
theorem d_Law_552 : decode code 552 = .ok (.iload_n 3, 1) := by decide +kernel
theorem d_Law_553 : decode code 553 = .ok (.iconst 2, 1) := by decide +kernel
theorem d_Law_554 : decode code 554 = .ok (.iadd, 1) := by decide +kernel
theorem d_Law_555 : decode code 555 = .ok (.iaload, 1) := by decide +kernel
theorem d_Law_556 : decode code 556 = .ok (.aload_n 0, 1) := by decide +kernel
theorem d_Law_557 : decode code 557 = .ok (.iload_n 3, 1) := by decide +kernel
theorem d_Law_558 : decode code 558 = .ok (.iconst 3, 1) := by decide +kernel
theorem d_Law_559 : decode code 559 = .ok (.iadd, 1) := by decide +kernel
theorem d_Law_560 : decode code 560 = .ok (.iaload, 1) := by decide +kernel
theorem d_Law_561 : decode code 561 = .ok (.aload_n 0, 1) := by decide +kernel
theorem d_Law_562 : decode code 562 = .ok (.iload_n 3, 1) := by decide +kernel
theorem d_Law_563 : decode code 563 = .ok (.iconst 4, 1) := by decide +kernel
theorem d_Law_564 : decode code 564 = .ok (.iadd, 1) := by decide +kernel
theorem d_Law_565 : decode code 565 = .ok (.iaload, 1) := by decide +kernel
theorem d_Law_566 : decode code 566 = .ok (.invokevirtual 57, 3) := by decide +kernel
theorem d_Law_569 : decode code 569 = .ok (.if_icmp .eq 1199, 3) := by decide +kernel
set_option maxHeartbeats 4000000 in
set_option maxRecDepth 100000 in
theorem law_member {p : Program} {e : Env} {s : State} {m : MethodId} {below : List Frame} {meth : Method} {c : Code} {l : Launch} {D : va_G} {g : Nat → ClassId} {sl : List SL} {b : Nat} {xs : Nat → Int32} {A : Nat → Prop} (h0 : Nat) (r_cwords : Nat) (r_creader : Nat) (r_cchecker : Nat) (r_cfinder : Nat) (r_cwriter : Nat) (r_cmachines : Nat) (r_ctape : Nat) (r_cstock : Nat) (r_csizes : Nat) (r_cmet : Nat) (r_cfound : Nat) (r_cdraft : Nat) (r_cfewestFor : Nat) (r_cfewestNext : Nat) (mm0 : Nat) (mm1 : Nat) (mm2 : Nat) (mm3 : Nat) (ww0 : Nat) (r_m0heap : Nat) (r_m0runs : Nat) (r_m0counts : Nat) (r_m0traceRow : Nat) (f_m0traceCount : Int32) (r_m0startedList : Nat) (f_m0startedCount : Int32) (f_m0present : Int32) (f_m0quantum : Int32) (f_m0stepsDone : Int32) (f_m0turnSteps : Int32) (f_m0turnMost : Int32) (f_m0turnOver : Int32) (r_m0finder : Nat) (r_m0names : Nat) (f_m0fault : Int32) (f_m0wanted : Int32) (f_m0thrown : Int32) (ww1 : Nat) (r_m1heap : Nat) (r_m1runs : Nat) (r_m1counts : Nat) (r_m1traceRow : Nat) (f_m1traceCount : Int32) (r_m1startedList : Nat) (f_m1startedCount : Int32) (f_m1present : Int32) (f_m1quantum : Int32) (f_m1stepsDone : Int32) (f_m1turnSteps : Int32) (f_m1turnMost : Int32) (f_m1turnOver : Int32) (r_m1finder : Nat) (r_m1names : Nat) (f_m1fault : Int32) (f_m1wanted : Int32) (f_m1thrown : Int32) (ww2 : Nat) (r_m2heap : Nat) (r_m2runs : Nat) (r_m2counts : Nat) (r_m2traceRow : Nat) (f_m2traceCount : Int32) (r_m2startedList : Nat) (f_m2startedCount : Int32) (f_m2present : Int32) (f_m2quantum : Int32) (f_m2stepsDone : Int32) (f_m2turnSteps : Int32) (f_m2turnMost : Int32) (f_m2turnOver : Int32) (r_m2finder : Nat) (r_m2names : Nat) (f_m2fault : Int32) (f_m2wanted : Int32) (f_m2thrown : Int32) (r_w0names : Nat) (f_w0wrongClass : Int32) (f_w0wrongMethod : Int32) (f_w0wrongAt : Int32) (r_w0rows : Nat) (r_w0above : Nat) (r_w0fields : Nat) (r_w0methods : Nat) (r_w0codes : Nat) (r_w0handlers : Nat) (r_w0extra : Nat) (r_w0orders : Nat) (r_w0classNamed : Nat) (f_w0breaks : Int32) (r_w0marks : Nat) (r_w1names : Nat) (f_w1wrongClass : Int32) (f_w1wrongMethod : Int32) (f_w1wrongAt : Int32) (r_w1rows : Nat) (r_w1above : Nat) (r_w1fields : Nat) (r_w1methods : Nat) (r_w1codes : Nat) (r_w1handlers : Nat) (r_w1extra : Nat) (r_w1orders : Nat) (r_w1classNamed : Nat) (f_w1breaks : Int32) (r_w1marks : Nat) (r_w2names : Nat) (f_w2wrongClass : Int32) (f_w2wrongMethod : Int32) (f_w2wrongAt : Int32) (r_w2rows : Nat) (r_w2above : Nat) (r_w2fields : Nat) (r_w2methods : Nat) (r_w2codes : Nat) (r_w2handlers : Nat) (r_w2extra : Nat) (r_w2orders : Nat) (r_w2classNamed : Nat) (f_w2breaks : Int32) (r_w2marks : Nat) (h0X : Nat) (fsX : List Value) (owX : Nat) (v0X : Nat) (v1X : Nat) (v2X : Nat) (v3X : Nat) (fw0X : List Value) (fw1X : List Value) (fw2X : List Value) (G : GV l p s m #[Value.ref b] meth c (⟨"ClassWorksLaw", meth.name, ""⟩ : MethodName) code 4 ret g D sl A) (hX : va_X b 6 xs s s.heap) (hbl : b < s.heap.size) (hbA : ¬ A b) (hAA : ∀ q, A q → s.heap.size ≤ q) {H : Heap} {locs : List Loc} {ls : Array Slot} (glenX : fsX.length = 131) (gk0X : fsX[44]? = some (.ref owX)) (gw0X : fw0X.length = 72) (gt0X : fw0X[0]? = some (.int (nI 0))) (gw1X : fw1X.length = 72) (gt1X : fw1X[0]? = some (.int (nI 0))) (gw2X : fw2X.length = 72) (gt2X : fw2X[0]? = some (.int (nI 0))) (hP : va_P D CL [(h0, .inr (11, [.ref r_cwords, .ref r_creader, .ref r_cchecker, .ref r_cfinder, .ref r_cwriter, .ref r_cmachines, .ref r_ctape, .int (nI 0), .int (-2), .int (nI 60000), .ref r_cstock, .ref r_csizes, .ref r_cmet, .ref r_cfound, .int (nI 0), .ref r_cdraft, .int (nI 0), .int (nI 0), .ref r_cfewestFor, .ref r_cfewestNext])), (r_cmachines, .inl (g 4, 4, .inr (.inr (.inr (.inr (va_up (va_up (va_up (va_up (fun _ => none) 0 (some mm0)) 1 (some mm1)) 2 (some mm2)) 3 (some mm3))))))), (mm0, .inr (4, [.ref ww0, .ref r_m0heap, .ref r_m0runs, .ref r_m0counts, .ref r_m0traceRow, .int f_m0traceCount, .ref r_m0startedList, .int f_m0startedCount, .int f_m0present, .int f_m0quantum, .int f_m0stepsDone, .int f_m0turnSteps, .int f_m0turnMost, .int f_m0turnOver, .ref r_m0finder, .ref r_m0names, .int f_m0fault, .int f_m0wanted, .int f_m0thrown])), (mm1, .inr (4, [.ref ww1, .ref r_m1heap, .ref r_m1runs, .ref r_m1counts, .ref r_m1traceRow, .int f_m1traceCount, .ref r_m1startedList, .int f_m1startedCount, .int f_m1present, .int f_m1quantum, .int f_m1stepsDone, .int f_m1turnSteps, .int f_m1turnMost, .int f_m1turnOver, .ref r_m1finder, .ref r_m1names, .int f_m1fault, .int f_m1wanted, .int f_m1thrown])), (mm2, .inr (4, [.ref ww2, .ref r_m2heap, .ref r_m2runs, .ref r_m2counts, .ref r_m2traceRow, .int f_m2traceCount, .ref r_m2startedList, .int f_m2startedCount, .int f_m2present, .int f_m2quantum, .int f_m2stepsDone, .int f_m2turnSteps, .int f_m2turnMost, .int f_m2turnOver, .ref r_m2finder, .ref r_m2names, .int f_m2fault, .int f_m2wanted, .int f_m2thrown])), (ww0, .inr (9, [.ref r_w0names, .int (nI 0), .int (nI 21), .int f_w0wrongClass, .int f_w0wrongMethod, .int f_w0wrongAt, .ref r_w0rows, .ref r_w0above, .ref r_w0fields, .ref r_w0methods, .ref r_w0codes, .ref r_w0handlers, .ref r_w0extra, .ref r_w0orders, .ref r_w0classNamed, .int f_w0breaks, .ref r_w0marks])), (ww1, .inr (9, [.ref r_w1names, .int (nI 0), .int (nI 21), .int f_w1wrongClass, .int f_w1wrongMethod, .int f_w1wrongAt, .ref r_w1rows, .ref r_w1above, .ref r_w1fields, .ref r_w1methods, .ref r_w1codes, .ref r_w1handlers, .ref r_w1extra, .ref r_w1orders, .ref r_w1classNamed, .int f_w1breaks, .ref r_w1marks])), (ww2, .inr (9, [.ref r_w2names, .int (nI 0), .int (nI 21), .int f_w2wrongClass, .int f_w2wrongMethod, .int f_w2wrongAt, .ref r_w2rows, .ref r_w2above, .ref r_w2fields, .ref r_w2methods, .ref r_w2codes, .ref r_w2handlers, .ref r_w2extra, .ref r_w2orders, .ref r_w2classNamed, .int f_w2breaks, .ref r_w2marks])), (h0X, .inr (14, fsX)), (owX, .inl (g 6, 4, .inr (.inr (.inr (.inr (va_up (va_up (va_up (va_up (fun _ => none) 0 (some v0X)) 1 (some v1X)) 2 (some v2X)) 3 (some v3X))))))), (v0X, .inr (13, fw0X)), (v1X, .inr (13, fw1X)), (v2X, .inr (13, fw2X))] H) (hD : va_D A [(h0, .inr (11, [.ref r_cwords, .ref r_creader, .ref r_cchecker, .ref r_cfinder, .ref r_cwriter, .ref r_cmachines, .ref r_ctape, .int (nI 0), .int (-2), .int (nI 60000), .ref r_cstock, .ref r_csizes, .ref r_cmet, .ref r_cfound, .int (nI 0), .ref r_cdraft, .int (nI 0), .int (nI 0), .ref r_cfewestFor, .ref r_cfewestNext])), (r_cmachines, .inl (g 4, 4, .inr (.inr (.inr (.inr (va_up (va_up (va_up (va_up (fun _ => none) 0 (some mm0)) 1 (some mm1)) 2 (some mm2)) 3 (some mm3))))))), (mm0, .inr (4, [.ref ww0, .ref r_m0heap, .ref r_m0runs, .ref r_m0counts, .ref r_m0traceRow, .int f_m0traceCount, .ref r_m0startedList, .int f_m0startedCount, .int f_m0present, .int f_m0quantum, .int f_m0stepsDone, .int f_m0turnSteps, .int f_m0turnMost, .int f_m0turnOver, .ref r_m0finder, .ref r_m0names, .int f_m0fault, .int f_m0wanted, .int f_m0thrown])), (mm1, .inr (4, [.ref ww1, .ref r_m1heap, .ref r_m1runs, .ref r_m1counts, .ref r_m1traceRow, .int f_m1traceCount, .ref r_m1startedList, .int f_m1startedCount, .int f_m1present, .int f_m1quantum, .int f_m1stepsDone, .int f_m1turnSteps, .int f_m1turnMost, .int f_m1turnOver, .ref r_m1finder, .ref r_m1names, .int f_m1fault, .int f_m1wanted, .int f_m1thrown])), (mm2, .inr (4, [.ref ww2, .ref r_m2heap, .ref r_m2runs, .ref r_m2counts, .ref r_m2traceRow, .int f_m2traceCount, .ref r_m2startedList, .int f_m2startedCount, .int f_m2present, .int f_m2quantum, .int f_m2stepsDone, .int f_m2turnSteps, .int f_m2turnMost, .int f_m2turnOver, .ref r_m2finder, .ref r_m2names, .int f_m2fault, .int f_m2wanted, .int f_m2thrown])), (ww0, .inr (9, [.ref r_w0names, .int (nI 0), .int (nI 21), .int f_w0wrongClass, .int f_w0wrongMethod, .int f_w0wrongAt, .ref r_w0rows, .ref r_w0above, .ref r_w0fields, .ref r_w0methods, .ref r_w0codes, .ref r_w0handlers, .ref r_w0extra, .ref r_w0orders, .ref r_w0classNamed, .int f_w0breaks, .ref r_w0marks])), (ww1, .inr (9, [.ref r_w1names, .int (nI 0), .int (nI 21), .int f_w1wrongClass, .int f_w1wrongMethod, .int f_w1wrongAt, .ref r_w1rows, .ref r_w1above, .ref r_w1fields, .ref r_w1methods, .ref r_w1codes, .ref r_w1handlers, .ref r_w1extra, .ref r_w1orders, .ref r_w1classNamed, .int f_w1breaks, .ref r_w1marks])), (ww2, .inr (9, [.ref r_w2names, .int (nI 0), .int (nI 21), .int f_w2wrongClass, .int f_w2wrongMethod, .int f_w2wrongAt, .ref r_w2rows, .ref r_w2above, .ref r_w2fields, .ref r_w2methods, .ref r_w2codes, .ref r_w2handlers, .ref r_w2extra, .ref r_w2orders, .ref r_w2classNamed, .int f_w2breaks, .ref r_w2marks])), (h0X, .inr (14, fsX)), (owX, .inl (g 6, 4, .inr (.inr (.inr (.inr (va_up (va_up (va_up (va_up (fun _ => none) 0 (some v0X)) 1 (some v1X)) 2 (some v2X)) 3 (some v3X))))))), (v0X, .inr (13, fw0X)), (v1X, .inr (13, fw1X)), (v2X, .inr (13, fw2X))]) (hS : va_S A s.heap H locs) (hl : lv_has ls 4 [(0, .ref b), (1, .ref h0), (2, .ref h0X), (3, .int (nI 0))]) : W p l e room_1 s m #[Value.ref b] below meth c H locs 702 488194 (lw_Z below #[Value.ref b] s) (F0 m 521 ls []) := by
  refine lv_aload_n G.1 G.2.1 d_Law_521 rfl (lv_at hl 1 rfl) ?_
  refine lv_aload_n G.1 G.2.1 d_Law_522 rfl (lv_at hl 0 rfl) ?_
  refine lv_iload_n G.1 G.2.1 d_Law_523 rfl (lv_at hl 3 rfl) ?_
  refine lv_iconst (v := nI 1) G.1 G.2.1 d_Law_524 (by decide) ?_
  refine lv_iadd G.1 G.2.1 d_Law_525 ?_
  refine tpi (w := nI 1) (by decide) ?_
  refine va_sld G.1 G.2.1 hX hbl hbA hS (nI_inn (n := 6) (a := 1) (by decide) (by decide)) d_Law_526 ?_
  refine tpi (w := (xs 1)) (by rw [nI_clamp (by decide)]) ?_
  refine lv_aload_n G.1 G.2.1 d_Law_527 rfl (lv_at hl 0 rfl) ?_
  refine lv_iload_n G.1 G.2.1 d_Law_528 rfl (lv_at hl 3 rfl) ?_
  refine lv_iconst (v := nI 2) G.1 G.2.1 d_Law_529 (by decide) ?_
  refine lv_iadd G.1 G.2.1 d_Law_530 ?_
  refine tpi (w := nI 2) (by decide) ?_
  refine va_sld G.1 G.2.1 hX hbl hbA hS (nI_inn (n := 6) (a := 2) (by decide) (by decide)) d_Law_531 ?_
  refine tpi (w := (xs 2)) (by rw [nI_clamp (by decide)]) ?_
  refine W.eq (g2 := F0 m 532 ls [.int (xs 2), .int (xs 1), .ref h0]) rfl ?_
  refine lv_aload_n G.1 G.2.1 d_Law_532 rfl (lv_at hl 0 rfl) ?_
  refine lv_iload_n G.1 G.2.1 d_Law_533 rfl (lv_at hl 3 rfl) ?_
  refine lv_iconst (v := nI 3) G.1 G.2.1 d_Law_534 (by decide) ?_
  refine lv_iadd G.1 G.2.1 d_Law_535 ?_
  refine tpi (w := nI 3) (by decide) ?_
  refine va_sld G.1 G.2.1 hX hbl hbA hS (nI_inn (n := 6) (a := 3) (by decide) (by decide)) d_Law_536 ?_
  refine tpi (w := (xs 3)) (by rw [nI_clamp (by decide)]) ?_
  refine lv_aload_n G.1 G.2.1 d_Law_537 rfl (lv_at hl 0 rfl) ?_
  refine lv_iload_n G.1 G.2.1 d_Law_538 rfl (lv_at hl 3 rfl) ?_
  refine lv_iconst (v := nI 4) G.1 G.2.1 d_Law_539 (by decide) ?_
  refine lv_iadd G.1 G.2.1 d_Law_540 ?_
  refine tpi (w := nI 4) (by decide) ?_
  refine va_sld G.1 G.2.1 hX hbl hbA hS (nI_inn (n := 6) (a := 4) (by decide) (by decide)) d_Law_541 ?_
  refine tpi (w := (xs 4)) (by rw [nI_clamp (by decide)]) ?_
  refine kEi (wr := [(h0X, .inr (14, fsX)), (owX, .inl (g 6, 4, .inr (.inr (.inr (.inr (va_up (va_up (va_up (va_up (fun _ => none) 0 (some v0X)) 1 (some v1X)) 2 (some v2X)) 3 (some v3X))))))), (v0X, .inr (13, fw0X)), (v1X, .inr (13, fw1X)), (v2X, .inr (13, fw2X))]) G (kV (As := [.int (xs 1), .int (xs 2), .int (xs 3), .int (xs 4)]) (rest := []) G hP hD hS [0, 1, 2, 3, 4, 5, 6, 7] rfl rfl (c_Cw_member l D g h0 (xs 1) (xs 2) (xs 3) (xs 4) r_cwords r_creader r_cchecker r_cfinder r_cwriter r_cmachines r_ctape r_cstock r_csizes r_cmet r_cfound r_cdraft r_cfewestFor r_cfewestNext mm0 mm1 mm2 mm3 ww0 r_m0heap r_m0runs r_m0counts r_m0traceRow f_m0traceCount r_m0startedList f_m0startedCount f_m0present f_m0quantum f_m0stepsDone f_m0turnSteps f_m0turnMost f_m0turnOver r_m0finder r_m0names f_m0fault f_m0wanted f_m0thrown ww1 r_m1heap r_m1runs r_m1counts r_m1traceRow f_m1traceCount r_m1startedList f_m1startedCount f_m1present f_m1quantum f_m1stepsDone f_m1turnSteps f_m1turnMost f_m1turnOver r_m1finder r_m1names f_m1fault f_m1wanted f_m1thrown ww2 r_m2heap r_m2runs r_m2counts r_m2traceRow f_m2traceCount r_m2startedList f_m2startedCount f_m2present f_m2quantum f_m2stepsDone f_m2turnSteps f_m2turnMost f_m2turnOver r_m2finder r_m2names f_m2fault f_m2wanted f_m2thrown r_w0names f_w0wrongClass f_w0wrongMethod f_w0wrongAt r_w0rows r_w0above r_w0fields r_w0methods r_w0codes r_w0handlers r_w0extra r_w0orders r_w0classNamed f_w0breaks r_w0marks r_w1names f_w1wrongClass f_w1wrongMethod f_w1wrongAt r_w1rows r_w1above r_w1fields r_w1methods r_w1codes r_w1handlers r_w1extra r_w1orders r_w1classNamed f_w1breaks r_w1marks r_w2names f_w2wrongClass f_w2wrongMethod f_w2wrongAt r_w2rows r_w2above r_w2fields r_w2methods r_w2codes r_w2handlers r_w2extra r_w2orders r_w2classNamed f_w2breaks r_w2marks H.size ) w_Cw_member q1518 rfl rfl ⟨Nat.le_of_ble_eq_true rfl, Nat.le_of_ble_eq_true rfl⟩ (fun _ h => absurd h List.not_mem_nil) 0 (ci := 11) rfl rfl rfl hl.1 rfl (Nat.le_of_ble_eq_true rfl) rfl ⟨Nat.le_of_ble_eq_true rfl, (Nat.le_of_ble_eq_true rfl)⟩ d_Law_542) hP hD hS [0, 1, 2, 3, 4, 5, 6, 7] [8, 9, 10, 11, 12] rfl rfl rfl rfl (fun r_1 u_2 H locs hw hP hD hS hzH => ?_)
  have hw : r_1 = (-1) := hw
  have hP : va_P D CL [(h0X, .inr (14, fsX)), (owX, .inl (g 6, 4, .inr (.inr (.inr (.inr (va_up (va_up (va_up (va_up (fun _ => none) 0 (some v0X)) 1 (some v1X)) 2 (some v2X)) 3 (some v3X))))))), (v0X, .inr (13, fw0X)), (v1X, .inr (13, fw1X)), (v2X, .inr (13, fw2X))] H := hP
  have hD : va_D A [(h0X, .inr (14, fsX)), (owX, .inl (g 6, 4, .inr (.inr (.inr (.inr (va_up (va_up (va_up (va_up (fun _ => none) 0 (some v0X)) 1 (some v1X)) 2 (some v2X)) 3 (some v3X))))))), (v0X, .inr (13, fw0X)), (v1X, .inr (13, fw1X)), (v2X, .inr (13, fw2X))] := hD
  subst hw
  refine tpst (w := [.int (-1)]) rfl ?_
  refine lv_aload_n G.1 G.2.1 d_Law_545 rfl (lv_at hl 2 rfl) ?_
  refine W.eq (g2 := F0 m 546 ls [.ref h0X, .int (-1)]) rfl ?_
  refine lv_aload_n G.1 G.2.1 d_Law_546 rfl (lv_at hl 0 rfl) ?_
  refine lv_iload_n G.1 G.2.1 d_Law_547 rfl (lv_at hl 3 rfl) ?_
  refine lv_iconst (v := nI 1) G.1 G.2.1 d_Law_548 (by decide) ?_
  refine lv_iadd G.1 G.2.1 d_Law_549 ?_
  refine tpi (w := nI 1) (by decide) ?_
  refine va_sld G.1 G.2.1 hX hbl hbA hS (nI_inn (n := 6) (a := 1) (by decide) (by decide)) d_Law_550 ?_
  refine tpi (w := (xs 1)) (by rw [nI_clamp (by decide)]) ?_
  refine lv_aload_n G.1 G.2.1 d_Law_551 rfl (lv_at hl 0 rfl) ?_
  refine lv_iload_n G.1 G.2.1 d_Law_552 rfl (lv_at hl 3 rfl) ?_
  refine lv_iconst (v := nI 2) G.1 G.2.1 d_Law_553 (by decide) ?_
  refine lv_iadd G.1 G.2.1 d_Law_554 ?_
  refine tpi (w := nI 2) (by decide) ?_
  refine va_sld G.1 G.2.1 hX hbl hbA hS (nI_inn (n := 6) (a := 2) (by decide) (by decide)) d_Law_555 ?_
  refine tpi (w := (xs 2)) (by rw [nI_clamp (by decide)]) ?_
  refine lv_aload_n G.1 G.2.1 d_Law_556 rfl (lv_at hl 0 rfl) ?_
  refine lv_iload_n G.1 G.2.1 d_Law_557 rfl (lv_at hl 3 rfl) ?_
  refine W.eq (g2 := F0 m 558 ls [.int (nI 0), .ref b, .int (xs 2), .int (xs 1), .ref h0X, .int (-1)]) rfl ?_
  refine lv_iconst (v := nI 3) G.1 G.2.1 d_Law_558 (by decide) ?_
  refine lv_iadd G.1 G.2.1 d_Law_559 ?_
  refine tpi (w := nI 3) (by decide) ?_
  refine va_sld G.1 G.2.1 hX hbl hbA hS (nI_inn (n := 6) (a := 3) (by decide) (by decide)) d_Law_560 ?_
  refine tpi (w := (xs 3)) (by rw [nI_clamp (by decide)]) ?_
  refine lv_aload_n G.1 G.2.1 d_Law_561 rfl (lv_at hl 0 rfl) ?_
  refine lv_iload_n G.1 G.2.1 d_Law_562 rfl (lv_at hl 3 rfl) ?_
  refine lv_iconst (v := nI 4) G.1 G.2.1 d_Law_563 (by decide) ?_
  refine lv_iadd G.1 G.2.1 d_Law_564 ?_
  refine tpi (w := nI 4) (by decide) ?_
  refine va_sld G.1 G.2.1 hX hbl hbA hS (nI_inn (n := 6) (a := 4) (by decide) (by decide)) d_Law_565 ?_
  refine tpi (w := (xs 4)) (by rw [nI_clamp (by decide)]) ?_
  refine kEi (wr := []) G (kV (As := [.int (xs 1), .int (xs 2), .int (xs 3), .int (xs 4)]) (rest := [.int (-1)]) G hP hD hS [0, 1, 2, 3, 4] rfl rfl (c_Mo_member l D g h0X (xs 1) (xs 2) (xs 3) (xs 4) fsX owX v0X v1X v2X v3X fw0X fw1X fw2X H.size glenX gk0X gw0X gt0X gw1X gt1X gw2X gt2X) w_Mo_member q3669 rfl rfl ⟨Nat.le_of_ble_eq_true rfl, Nat.le_of_ble_eq_true rfl⟩ (fun _ h => absurd h List.not_mem_nil) 0 (ci := 14) rfl rfl rfl hl.1 rfl (Nat.le_of_ble_eq_true rfl) rfl ⟨Nat.le_of_ble_eq_true rfl, (Nat.le_of_ble_eq_true rfl)⟩ d_Law_566) hP hD hS [0, 1, 2, 3, 4] [] rfl rfl rfl rfl (fun r_3 u_4 H locs hw hP hD hS hzH => ?_)
  have hw : r_3 = (-1) := hw
  have hP : va_P D CL [] H := hP
  have hD : va_D A [] := hD
  subst hw
  refine tpst (w := [.int (-1), .int (-1)]) rfl ?_
  refine lv_icmp_eq (tgt := 1768) G.1 G.2.1 d_Law_569 (by decide) (fun c569 => ?_) (fun c569 => absurd c569 (fun h => h rfl))
  refine lv_iinc (v := nI 6) (lv' := [(3, .int (nI 6)), (0, .ref b), (1, .ref h0), (2, .ref h0X)]) G.1 G.2.1 d_Law_1768 hl (k := 3) rfl (show (nI 0) + Int32.ofInt 6 = nI 6 from by decide) (by decide) rfl (fun ls hl => ?_)
  refine lv_goto (tgt := 18) G.1 G.2.1 d_Law_1771 (by decide) ?_
  refine W.eq (g2 := F0 m 18 ls []) rfl ?_
  refine lv_iload_n G.1 G.2.1 d_Law_18 rfl (lv_at hl 0 rfl) ?_
  refine lv_aload_n G.1 G.2.1 d_Law_19 rfl (lv_at hl 1 rfl) ?_
  refine va_slen G.1 G.2.1 hX hbl hbA hS d_Law_20 ?_
  refine tpi (w := nI 6) rfl ?_
  refine lv_bipush (v := nI 6) G.1 G.2.1 d_Law_21 (by decide) ?_
  refine lv_isub G.1 G.2.1 d_Law_23 ?_
  refine tpi (w := nI 0) (by decide) ?_
  refine lv_icmp_gt (tgt := 1774) G.1 G.2.1 d_Law_24 (by decide) (fun c24 => ?_) (fun c24 => absurd c24 (by decide))
  refine lv_iconst (v := nI 1) G.1 G.2.1 d_Law_1774 (by decide) ?_
  refine va_forget (fun q hq => hAA _ (hS.2.2 q hq)) ?_
  refine W.widen (k := 600002) (n := 7302232) (Nat.le_of_ble_eq_true rfl) (Nat.le_of_ble_eq_true rfl) ?_
  exact lw_ret G.1 G.2.1 G.2.2.2.1 G.2.2.2.2.1 d_Law_1775
theorem q1527 : Cond.code y_Cw_link b_Cw_link 4 (some .int) ∈ lw_ok := lw_okmem (List.mem_of_getElem? (i := 1527) (by decide +kernel)) rfl
theorem q1525 : Cond.instanceMethod y_Cw_link ∈ lw_ok := lw_okmem (List.mem_of_getElem? (i := 1525) (by decide +kernel)) rfl
theorem q1526 : Cond.selects y_Cw_link.cls y_Cw_link y_Cw_link ∈ lw_ok := lw_okmem (List.mem_of_getElem? (i := 1526) (by decide +kernel)) rfl
theorem w_Cw_link : CWv y_Cw_link b_Cw_link 4 (some .int) 2 ∧ Cond.instanceMethod y_Cw_link ∈ lw_ok ∧ Cond.selects y_Cw_link.cls y_Cw_link y_Cw_link ∈ lw_ok := ⟨⟨q1527, q329, by decide +kernel, by decide +kernel, by decide +kernel⟩, q1525, q1526⟩
theorem q1524 : Cond.methodLink "ClassWorksLaw" 58 y_Cw_link ∈ lw_ok := lw_okmem (List.mem_of_getElem? (i := 1524) (by decide +kernel)) rfl
theorem q3676 : Cond.code y_Mo_link b_Mo_link 3 (some .int) ∈ lw_ok := lw_okmem (List.mem_of_getElem? (i := 3676) (by decide +kernel)) rfl
theorem q3674 : Cond.instanceMethod y_Mo_link ∈ lw_ok := lw_okmem (List.mem_of_getElem? (i := 3674) (by decide +kernel)) rfl
theorem q3675 : Cond.selects y_Mo_link.cls y_Mo_link y_Mo_link ∈ lw_ok := lw_okmem (List.mem_of_getElem? (i := 3675) (by decide +kernel)) rfl
theorem w_Mo_link : CWv y_Mo_link b_Mo_link 3 (some .int) 2 ∧ Cond.instanceMethod y_Mo_link ∈ lw_ok ∧ Cond.selects y_Mo_link.cls y_Mo_link y_Mo_link ∈ lw_ok := ⟨⟨q3676, q348, by decide +kernel, by decide +kernel, by decide +kernel⟩, q3674, q3675⟩
theorem q3673 : Cond.methodLink "ClassWorksLaw" 62 y_Mo_link ∈ lw_ok := lw_okmem (List.mem_of_getElem? (i := 3673) (by decide +kernel)) rfl
theorem d_Law_574 : decode code 574 = .ok (.aload_n 1, 1) := by decide +kernel
theorem d_Law_575 : decode code 575 = .ok (.aload_n 0, 1) := by decide +kernel
theorem d_Law_576 : decode code 576 = .ok (.iload_n 3, 1) := by decide +kernel
theorem d_Law_577 : decode code 577 = .ok (.iconst 1, 1) := by decide +kernel
theorem d_Law_578 : decode code 578 = .ok (.iadd, 1) := by decide +kernel
theorem d_Law_579 : decode code 579 = .ok (.iaload, 1) := by decide +kernel
theorem d_Law_580 : decode code 580 = .ok (.aload_n 0, 1) := by decide +kernel
theorem d_Law_581 : decode code 581 = .ok (.iload_n 3, 1) := by decide +kernel
theorem d_Law_582 : decode code 582 = .ok (.iconst 2, 1) := by decide +kernel
theorem d_Law_583 : decode code 583 = .ok (.iadd, 1) := by decide +kernel
theorem d_Law_584 : decode code 584 = .ok (.iaload, 1) := by decide +kernel
theorem d_Law_585 : decode code 585 = .ok (.invokevirtual 58, 3) := by decide +kernel
theorem d_Law_588 : decode code 588 = .ok (.aload_n 2, 1) := by decide +kernel
theorem d_Law_589 : decode code 589 = .ok (.aload_n 0, 1) := by decide +kernel
theorem d_Law_590 : decode code 590 = .ok (.iload_n 3, 1) := by decide +kernel
theorem d_Law_591 : decode code 591 = .ok (.iconst 1, 1) := by decide +kernel
theorem d_Law_592 : decode code 592 = .ok (.iadd, 1) := by decide +kernel
theorem d_Law_593 : decode code 593 = .ok (.iaload, 1) := by decide +kernel
theorem d_Law_594 : decode code 594 = .ok (.aload_n 0, 1) := by decide +kernel
theorem d_Law_595 : decode code 595 = .ok (.iload_n 3, 1) := by decide +kernel
theorem d_Law_596 : decode code 596 = .ok (.iconst 2, 1) := by decide +kernel
theorem d_Law_597 : decode code 597 = .ok (.iadd, 1) := by decide +kernel
theorem d_Law_598 : decode code 598 = .ok (.iaload, 1) := by decide +kernel
theorem d_Law_599 : decode code 599 = .ok (.invokevirtual 62, 3) := by decide +kernel
theorem d_Law_602 : decode code 602 = .ok (.if_icmp .eq 1166, 3) := by decide +kernel
set_option maxHeartbeats 4000000 in
set_option maxRecDepth 100000 in
theorem law_link {p : Program} {e : Env} {s : State} {m : MethodId} {below : List Frame} {meth : Method} {c : Code} {l : Launch} {D : va_G} {g : Nat → ClassId} {sl : List SL} {b : Nat} {xs : Nat → Int32} {A : Nat → Prop} (h0 : Nat) (r_cwords : Nat) (r_creader : Nat) (r_cchecker : Nat) (r_cfinder : Nat) (r_cwriter : Nat) (r_cmachines : Nat) (r_ctape : Nat) (r_cstock : Nat) (r_csizes : Nat) (r_cmet : Nat) (r_cfound : Nat) (r_cdraft : Nat) (r_cfewestFor : Nat) (r_cfewestNext : Nat) (mm0 : Nat) (mm1 : Nat) (mm2 : Nat) (mm3 : Nat) (ww0 : Nat) (r_m0heap : Nat) (r_m0runs : Nat) (r_m0counts : Nat) (r_m0traceRow : Nat) (f_m0traceCount : Int32) (r_m0startedList : Nat) (f_m0startedCount : Int32) (f_m0present : Int32) (f_m0quantum : Int32) (f_m0stepsDone : Int32) (f_m0turnSteps : Int32) (f_m0turnMost : Int32) (f_m0turnOver : Int32) (r_m0finder : Nat) (r_m0names : Nat) (f_m0fault : Int32) (f_m0wanted : Int32) (f_m0thrown : Int32) (ww1 : Nat) (r_m1heap : Nat) (r_m1runs : Nat) (r_m1counts : Nat) (r_m1traceRow : Nat) (f_m1traceCount : Int32) (r_m1startedList : Nat) (f_m1startedCount : Int32) (f_m1present : Int32) (f_m1quantum : Int32) (f_m1stepsDone : Int32) (f_m1turnSteps : Int32) (f_m1turnMost : Int32) (f_m1turnOver : Int32) (r_m1finder : Nat) (r_m1names : Nat) (f_m1fault : Int32) (f_m1wanted : Int32) (f_m1thrown : Int32) (ww2 : Nat) (r_m2heap : Nat) (r_m2runs : Nat) (r_m2counts : Nat) (r_m2traceRow : Nat) (f_m2traceCount : Int32) (r_m2startedList : Nat) (f_m2startedCount : Int32) (f_m2present : Int32) (f_m2quantum : Int32) (f_m2stepsDone : Int32) (f_m2turnSteps : Int32) (f_m2turnMost : Int32) (f_m2turnOver : Int32) (r_m2finder : Nat) (r_m2names : Nat) (f_m2fault : Int32) (f_m2wanted : Int32) (f_m2thrown : Int32) (r_w0names : Nat) (f_w0wrongClass : Int32) (f_w0wrongMethod : Int32) (f_w0wrongAt : Int32) (r_w0rows : Nat) (r_w0above : Nat) (r_w0fields : Nat) (r_w0methods : Nat) (r_w0codes : Nat) (r_w0handlers : Nat) (r_w0extra : Nat) (r_w0orders : Nat) (r_w0classNamed : Nat) (f_w0breaks : Int32) (r_w0marks : Nat) (r_w1names : Nat) (f_w1wrongClass : Int32) (f_w1wrongMethod : Int32) (f_w1wrongAt : Int32) (r_w1rows : Nat) (r_w1above : Nat) (r_w1fields : Nat) (r_w1methods : Nat) (r_w1codes : Nat) (r_w1handlers : Nat) (r_w1extra : Nat) (r_w1orders : Nat) (r_w1classNamed : Nat) (f_w1breaks : Int32) (r_w1marks : Nat) (r_w2names : Nat) (f_w2wrongClass : Int32) (f_w2wrongMethod : Int32) (f_w2wrongAt : Int32) (r_w2rows : Nat) (r_w2above : Nat) (r_w2fields : Nat) (r_w2methods : Nat) (r_w2codes : Nat) (r_w2handlers : Nat) (r_w2extra : Nat) (r_w2orders : Nat) (r_w2classNamed : Nat) (f_w2breaks : Int32) (r_w2marks : Nat) (h0X : Nat) (fsX : List Value) (owX : Nat) (v0X : Nat) (v1X : Nat) (v2X : Nat) (v3X : Nat) (fw0X : List Value) (fw1X : List Value) (fw2X : List Value) (G : GV l p s m #[Value.ref b] meth c (⟨"ClassWorksLaw", meth.name, ""⟩ : MethodName) code 4 ret g D sl A) (hX : va_X b 6 xs s s.heap) (hbl : b < s.heap.size) (hbA : ¬ A b) (hAA : ∀ q, A q → s.heap.size ≤ q) {H : Heap} {locs : List Loc} {ls : Array Slot} (glenX : fsX.length = 131) (gk0X : fsX[44]? = some (.ref owX)) (gw0X : fw0X.length = 72) (gt0X : fw0X[0]? = some (.int (nI 0))) (gw1X : fw1X.length = 72) (gt1X : fw1X[0]? = some (.int (nI 0))) (gw2X : fw2X.length = 72) (gt2X : fw2X[0]? = some (.int (nI 0))) (hP : va_P D CL [(h0, .inr (11, [.ref r_cwords, .ref r_creader, .ref r_cchecker, .ref r_cfinder, .ref r_cwriter, .ref r_cmachines, .ref r_ctape, .int (nI 0), .int (-2), .int (nI 60000), .ref r_cstock, .ref r_csizes, .ref r_cmet, .ref r_cfound, .int (nI 0), .ref r_cdraft, .int (nI 0), .int (nI 0), .ref r_cfewestFor, .ref r_cfewestNext])), (r_cmachines, .inl (g 4, 4, .inr (.inr (.inr (.inr (va_up (va_up (va_up (va_up (fun _ => none) 0 (some mm0)) 1 (some mm1)) 2 (some mm2)) 3 (some mm3))))))), (mm0, .inr (4, [.ref ww0, .ref r_m0heap, .ref r_m0runs, .ref r_m0counts, .ref r_m0traceRow, .int f_m0traceCount, .ref r_m0startedList, .int f_m0startedCount, .int f_m0present, .int f_m0quantum, .int f_m0stepsDone, .int f_m0turnSteps, .int f_m0turnMost, .int f_m0turnOver, .ref r_m0finder, .ref r_m0names, .int f_m0fault, .int f_m0wanted, .int f_m0thrown])), (mm1, .inr (4, [.ref ww1, .ref r_m1heap, .ref r_m1runs, .ref r_m1counts, .ref r_m1traceRow, .int f_m1traceCount, .ref r_m1startedList, .int f_m1startedCount, .int f_m1present, .int f_m1quantum, .int f_m1stepsDone, .int f_m1turnSteps, .int f_m1turnMost, .int f_m1turnOver, .ref r_m1finder, .ref r_m1names, .int f_m1fault, .int f_m1wanted, .int f_m1thrown])), (mm2, .inr (4, [.ref ww2, .ref r_m2heap, .ref r_m2runs, .ref r_m2counts, .ref r_m2traceRow, .int f_m2traceCount, .ref r_m2startedList, .int f_m2startedCount, .int f_m2present, .int f_m2quantum, .int f_m2stepsDone, .int f_m2turnSteps, .int f_m2turnMost, .int f_m2turnOver, .ref r_m2finder, .ref r_m2names, .int f_m2fault, .int f_m2wanted, .int f_m2thrown])), (ww0, .inr (9, [.ref r_w0names, .int (nI 0), .int (nI 21), .int f_w0wrongClass, .int f_w0wrongMethod, .int f_w0wrongAt, .ref r_w0rows, .ref r_w0above, .ref r_w0fields, .ref r_w0methods, .ref r_w0codes, .ref r_w0handlers, .ref r_w0extra, .ref r_w0orders, .ref r_w0classNamed, .int f_w0breaks, .ref r_w0marks])), (ww1, .inr (9, [.ref r_w1names, .int (nI 0), .int (nI 21), .int f_w1wrongClass, .int f_w1wrongMethod, .int f_w1wrongAt, .ref r_w1rows, .ref r_w1above, .ref r_w1fields, .ref r_w1methods, .ref r_w1codes, .ref r_w1handlers, .ref r_w1extra, .ref r_w1orders, .ref r_w1classNamed, .int f_w1breaks, .ref r_w1marks])), (ww2, .inr (9, [.ref r_w2names, .int (nI 0), .int (nI 21), .int f_w2wrongClass, .int f_w2wrongMethod, .int f_w2wrongAt, .ref r_w2rows, .ref r_w2above, .ref r_w2fields, .ref r_w2methods, .ref r_w2codes, .ref r_w2handlers, .ref r_w2extra, .ref r_w2orders, .ref r_w2classNamed, .int f_w2breaks, .ref r_w2marks])), (h0X, .inr (14, fsX)), (owX, .inl (g 6, 4, .inr (.inr (.inr (.inr (va_up (va_up (va_up (va_up (fun _ => none) 0 (some v0X)) 1 (some v1X)) 2 (some v2X)) 3 (some v3X))))))), (v0X, .inr (13, fw0X)), (v1X, .inr (13, fw1X)), (v2X, .inr (13, fw2X))] H) (hD : va_D A [(h0, .inr (11, [.ref r_cwords, .ref r_creader, .ref r_cchecker, .ref r_cfinder, .ref r_cwriter, .ref r_cmachines, .ref r_ctape, .int (nI 0), .int (-2), .int (nI 60000), .ref r_cstock, .ref r_csizes, .ref r_cmet, .ref r_cfound, .int (nI 0), .ref r_cdraft, .int (nI 0), .int (nI 0), .ref r_cfewestFor, .ref r_cfewestNext])), (r_cmachines, .inl (g 4, 4, .inr (.inr (.inr (.inr (va_up (va_up (va_up (va_up (fun _ => none) 0 (some mm0)) 1 (some mm1)) 2 (some mm2)) 3 (some mm3))))))), (mm0, .inr (4, [.ref ww0, .ref r_m0heap, .ref r_m0runs, .ref r_m0counts, .ref r_m0traceRow, .int f_m0traceCount, .ref r_m0startedList, .int f_m0startedCount, .int f_m0present, .int f_m0quantum, .int f_m0stepsDone, .int f_m0turnSteps, .int f_m0turnMost, .int f_m0turnOver, .ref r_m0finder, .ref r_m0names, .int f_m0fault, .int f_m0wanted, .int f_m0thrown])), (mm1, .inr (4, [.ref ww1, .ref r_m1heap, .ref r_m1runs, .ref r_m1counts, .ref r_m1traceRow, .int f_m1traceCount, .ref r_m1startedList, .int f_m1startedCount, .int f_m1present, .int f_m1quantum, .int f_m1stepsDone, .int f_m1turnSteps, .int f_m1turnMost, .int f_m1turnOver, .ref r_m1finder, .ref r_m1names, .int f_m1fault, .int f_m1wanted, .int f_m1thrown])), (mm2, .inr (4, [.ref ww2, .ref r_m2heap, .ref r_m2runs, .ref r_m2counts, .ref r_m2traceRow, .int f_m2traceCount, .ref r_m2startedList, .int f_m2startedCount, .int f_m2present, .int f_m2quantum, .int f_m2stepsDone, .int f_m2turnSteps, .int f_m2turnMost, .int f_m2turnOver, .ref r_m2finder, .ref r_m2names, .int f_m2fault, .int f_m2wanted, .int f_m2thrown])), (ww0, .inr (9, [.ref r_w0names, .int (nI 0), .int (nI 21), .int f_w0wrongClass, .int f_w0wrongMethod, .int f_w0wrongAt, .ref r_w0rows, .ref r_w0above, .ref r_w0fields, .ref r_w0methods, .ref r_w0codes, .ref r_w0handlers, .ref r_w0extra, .ref r_w0orders, .ref r_w0classNamed, .int f_w0breaks, .ref r_w0marks])), (ww1, .inr (9, [.ref r_w1names, .int (nI 0), .int (nI 21), .int f_w1wrongClass, .int f_w1wrongMethod, .int f_w1wrongAt, .ref r_w1rows, .ref r_w1above, .ref r_w1fields, .ref r_w1methods, .ref r_w1codes, .ref r_w1handlers, .ref r_w1extra, .ref r_w1orders, .ref r_w1classNamed, .int f_w1breaks, .ref r_w1marks])), (ww2, .inr (9, [.ref r_w2names, .int (nI 0), .int (nI 21), .int f_w2wrongClass, .int f_w2wrongMethod, .int f_w2wrongAt, .ref r_w2rows, .ref r_w2above, .ref r_w2fields, .ref r_w2methods, .ref r_w2codes, .ref r_w2handlers, .ref r_w2extra, .ref r_w2orders, .ref r_w2classNamed, .int f_w2breaks, .ref r_w2marks])), (h0X, .inr (14, fsX)), (owX, .inl (g 6, 4, .inr (.inr (.inr (.inr (va_up (va_up (va_up (va_up (fun _ => none) 0 (some v0X)) 1 (some v1X)) 2 (some v2X)) 3 (some v3X))))))), (v0X, .inr (13, fw0X)), (v1X, .inr (13, fw1X)), (v2X, .inr (13, fw2X))]) (hS : va_S A s.heap H locs) (hl : lv_has ls 4 [(0, .ref b), (1, .ref h0), (2, .ref h0X), (3, .int (nI 0))]) : W p l e room_1 s m #[Value.ref b] below meth c H locs 702 488194 (lw_Z below #[Value.ref b] s) (F0 m 574 ls []) := by
  refine lv_aload_n G.1 G.2.1 d_Law_574 rfl (lv_at hl 1 rfl) ?_
  refine lv_aload_n G.1 G.2.1 d_Law_575 rfl (lv_at hl 0 rfl) ?_
  refine lv_iload_n G.1 G.2.1 d_Law_576 rfl (lv_at hl 3 rfl) ?_
  refine lv_iconst (v := nI 1) G.1 G.2.1 d_Law_577 (by decide) ?_
  refine lv_iadd G.1 G.2.1 d_Law_578 ?_
  refine tpi (w := nI 1) (by decide) ?_
  refine va_sld G.1 G.2.1 hX hbl hbA hS (nI_inn (n := 6) (a := 1) (by decide) (by decide)) d_Law_579 ?_
  refine tpi (w := (xs 1)) (by rw [nI_clamp (by decide)]) ?_
  refine lv_aload_n G.1 G.2.1 d_Law_580 rfl (lv_at hl 0 rfl) ?_
  refine lv_iload_n G.1 G.2.1 d_Law_581 rfl (lv_at hl 3 rfl) ?_
  refine lv_iconst (v := nI 2) G.1 G.2.1 d_Law_582 (by decide) ?_
  refine lv_iadd G.1 G.2.1 d_Law_583 ?_
  refine tpi (w := nI 2) (by decide) ?_
  refine va_sld G.1 G.2.1 hX hbl hbA hS (nI_inn (n := 6) (a := 2) (by decide) (by decide)) d_Law_584 ?_
  refine tpi (w := (xs 2)) (by rw [nI_clamp (by decide)]) ?_
  refine W.eq (g2 := F0 m 585 ls [.int (xs 2), .int (xs 1), .ref h0]) rfl ?_
  refine kEi (wr := [(h0X, .inr (14, fsX)), (owX, .inl (g 6, 4, .inr (.inr (.inr (.inr (va_up (va_up (va_up (va_up (fun _ => none) 0 (some v0X)) 1 (some v1X)) 2 (some v2X)) 3 (some v3X))))))), (v0X, .inr (13, fw0X)), (v1X, .inr (13, fw1X)), (v2X, .inr (13, fw2X))]) G (kV (As := [.int (xs 1), .int (xs 2)]) (rest := []) G hP hD hS [0, 1, 2, 3, 4, 5, 6, 7] rfl rfl (c_Cw_link l D g h0 (xs 1) (xs 2) r_cwords r_creader r_cchecker r_cfinder r_cwriter r_cmachines r_ctape r_cstock r_csizes r_cmet r_cfound r_cdraft r_cfewestFor r_cfewestNext mm0 mm1 mm2 mm3 ww0 r_m0heap r_m0runs r_m0counts r_m0traceRow f_m0traceCount r_m0startedList f_m0startedCount f_m0present f_m0quantum f_m0stepsDone f_m0turnSteps f_m0turnMost f_m0turnOver r_m0finder r_m0names f_m0fault f_m0wanted f_m0thrown ww1 r_m1heap r_m1runs r_m1counts r_m1traceRow f_m1traceCount r_m1startedList f_m1startedCount f_m1present f_m1quantum f_m1stepsDone f_m1turnSteps f_m1turnMost f_m1turnOver r_m1finder r_m1names f_m1fault f_m1wanted f_m1thrown ww2 r_m2heap r_m2runs r_m2counts r_m2traceRow f_m2traceCount r_m2startedList f_m2startedCount f_m2present f_m2quantum f_m2stepsDone f_m2turnSteps f_m2turnMost f_m2turnOver r_m2finder r_m2names f_m2fault f_m2wanted f_m2thrown r_w0names f_w0wrongClass f_w0wrongMethod f_w0wrongAt r_w0rows r_w0above r_w0fields r_w0methods r_w0codes r_w0handlers r_w0extra r_w0orders r_w0classNamed f_w0breaks r_w0marks r_w1names f_w1wrongClass f_w1wrongMethod f_w1wrongAt r_w1rows r_w1above r_w1fields r_w1methods r_w1codes r_w1handlers r_w1extra r_w1orders r_w1classNamed f_w1breaks r_w1marks r_w2names f_w2wrongClass f_w2wrongMethod f_w2wrongAt r_w2rows r_w2above r_w2fields r_w2methods r_w2codes r_w2handlers r_w2extra r_w2orders r_w2classNamed f_w2breaks r_w2marks H.size ) w_Cw_link q1524 rfl rfl ⟨Nat.le_of_ble_eq_true rfl, Nat.le_of_ble_eq_true rfl⟩ (fun _ h => absurd h List.not_mem_nil) 0 (ci := 11) rfl rfl rfl hl.1 rfl (Nat.le_of_ble_eq_true rfl) rfl ⟨Nat.le_of_ble_eq_true rfl, (Nat.le_of_ble_eq_true rfl)⟩ d_Law_585) hP hD hS [0, 1, 2, 3, 4, 5, 6, 7] [8, 9, 10, 11, 12] rfl rfl rfl rfl (fun r_1 u_2 H locs hw hP hD hS hzH => ?_)
  have hw : r_1 = (-1) := hw
  have hP : va_P D CL [(h0X, .inr (14, fsX)), (owX, .inl (g 6, 4, .inr (.inr (.inr (.inr (va_up (va_up (va_up (va_up (fun _ => none) 0 (some v0X)) 1 (some v1X)) 2 (some v2X)) 3 (some v3X))))))), (v0X, .inr (13, fw0X)), (v1X, .inr (13, fw1X)), (v2X, .inr (13, fw2X))] H := hP
  have hD : va_D A [(h0X, .inr (14, fsX)), (owX, .inl (g 6, 4, .inr (.inr (.inr (.inr (va_up (va_up (va_up (va_up (fun _ => none) 0 (some v0X)) 1 (some v1X)) 2 (some v2X)) 3 (some v3X))))))), (v0X, .inr (13, fw0X)), (v1X, .inr (13, fw1X)), (v2X, .inr (13, fw2X))] := hD
  subst hw
  refine tpst (w := [.int (-1)]) rfl ?_
  refine lv_aload_n G.1 G.2.1 d_Law_588 rfl (lv_at hl 2 rfl) ?_
  refine lv_aload_n G.1 G.2.1 d_Law_589 rfl (lv_at hl 0 rfl) ?_
  refine lv_iload_n G.1 G.2.1 d_Law_590 rfl (lv_at hl 3 rfl) ?_
  refine lv_iconst (v := nI 1) G.1 G.2.1 d_Law_591 (by decide) ?_
  refine lv_iadd G.1 G.2.1 d_Law_592 ?_
  refine tpi (w := nI 1) (by decide) ?_
  refine va_sld G.1 G.2.1 hX hbl hbA hS (nI_inn (n := 6) (a := 1) (by decide) (by decide)) d_Law_593 ?_
  refine tpi (w := (xs 1)) (by rw [nI_clamp (by decide)]) ?_
  refine lv_aload_n G.1 G.2.1 d_Law_594 rfl (lv_at hl 0 rfl) ?_
  refine lv_iload_n G.1 G.2.1 d_Law_595 rfl (lv_at hl 3 rfl) ?_
  refine lv_iconst (v := nI 2) G.1 G.2.1 d_Law_596 (by decide) ?_
  refine lv_iadd G.1 G.2.1 d_Law_597 ?_
  refine tpi (w := nI 2) (by decide) ?_
  refine va_sld G.1 G.2.1 hX hbl hbA hS (nI_inn (n := 6) (a := 2) (by decide) (by decide)) d_Law_598 ?_
  refine tpi (w := (xs 2)) (by rw [nI_clamp (by decide)]) ?_
  refine W.eq (g2 := F0 m 599 ls [.int (xs 2), .int (xs 1), .ref h0X, .int (-1)]) rfl ?_
  refine kEi (wr := []) G (kV (As := [.int (xs 1), .int (xs 2)]) (rest := [.int (-1)]) G hP hD hS [0, 1, 2, 3, 4] rfl rfl (c_Mo_link l D g h0X (xs 1) (xs 2) fsX owX v0X v1X v2X v3X fw0X fw1X fw2X H.size glenX gk0X gw0X gt0X gw1X gt1X gw2X gt2X) w_Mo_link q3673 rfl rfl ⟨Nat.le_of_ble_eq_true rfl, Nat.le_of_ble_eq_true rfl⟩ (fun _ h => absurd h List.not_mem_nil) 0 (ci := 14) rfl rfl rfl hl.1 rfl (Nat.le_of_ble_eq_true rfl) rfl ⟨Nat.le_of_ble_eq_true rfl, (Nat.le_of_ble_eq_true rfl)⟩ d_Law_599) hP hD hS [0, 1, 2, 3, 4] [] rfl rfl rfl rfl (fun r_3 u_4 H locs hw hP hD hS hzH => ?_)
  have hw : r_3 = (-1) := hw
  have hP : va_P D CL [] H := hP
  have hD : va_D A [] := hD
  subst hw
  refine tpst (w := [.int (-1), .int (-1)]) rfl ?_
  refine lv_icmp_eq (tgt := 1768) G.1 G.2.1 d_Law_602 (by decide) (fun c602 => ?_) (fun c602 => absurd c602 (fun h => h rfl))
  refine lv_iinc (v := nI 6) (lv' := [(3, .int (nI 6)), (0, .ref b), (1, .ref h0), (2, .ref h0X)]) G.1 G.2.1 d_Law_1768 hl (k := 3) rfl (show (nI 0) + Int32.ofInt 6 = nI 6 from by decide) (by decide) rfl (fun ls hl => ?_)
  refine lv_goto (tgt := 18) G.1 G.2.1 d_Law_1771 (by decide) ?_
  refine lv_iload_n G.1 G.2.1 d_Law_18 rfl (lv_at hl 0 rfl) ?_
  refine lv_aload_n G.1 G.2.1 d_Law_19 rfl (lv_at hl 1 rfl) ?_
  refine va_slen G.1 G.2.1 hX hbl hbA hS d_Law_20 ?_
  refine tpi (w := nI 6) rfl ?_
  refine lv_bipush (v := nI 6) G.1 G.2.1 d_Law_21 (by decide) ?_
  refine lv_isub G.1 G.2.1 d_Law_23 ?_
  refine tpi (w := nI 0) (by decide) ?_
  refine lv_icmp_gt (tgt := 1774) G.1 G.2.1 d_Law_24 (by decide) (fun c24 => ?_) (fun c24 => absurd c24 (by decide))
  refine lv_iconst (v := nI 1) G.1 G.2.1 d_Law_1774 (by decide) ?_
  refine va_forget (fun q hq => hAA _ (hS.2.2 q hq)) ?_
  refine W.widen (k := 600002) (n := 7302232) (Nat.le_of_ble_eq_true rfl) (Nat.le_of_ble_eq_true rfl) ?_
  exact lw_ret G.1 G.2.1 G.2.2.2.1 G.2.2.2.2.1 d_Law_1775
theorem q1722 : Cond.code y_Cw_checked b_Cw_checked 4 (some .int) ∈ lw_ok := lw_okmem (List.mem_of_getElem? (i := 1722) (by decide +kernel)) rfl
theorem q1720 : Cond.instanceMethod y_Cw_checked ∈ lw_ok := lw_okmem (List.mem_of_getElem? (i := 1720) (by decide +kernel)) rfl
theorem q1721 : Cond.selects y_Cw_checked.cls y_Cw_checked y_Cw_checked ∈ lw_ok := lw_okmem (List.mem_of_getElem? (i := 1721) (by decide +kernel)) rfl
theorem w_Cw_checked : CWv y_Cw_checked b_Cw_checked 4 (some .int) 2 ∧ Cond.instanceMethod y_Cw_checked ∈ lw_ok ∧ Cond.selects y_Cw_checked.cls y_Cw_checked y_Cw_checked ∈ lw_ok := ⟨⟨q1722, q329, by decide +kernel, by decide +kernel, by decide +kernel⟩, q1720, q1721⟩
theorem q1719 : Cond.methodLink "ClassWorksLaw" 63 y_Cw_checked ∈ lw_ok := lw_okmem (List.mem_of_getElem? (i := 1719) (by decide +kernel)) rfl
theorem q3790 : Cond.code y_Mo_checked b_Mo_checked 3 (some .int) ∈ lw_ok := lw_okmem (List.mem_of_getElem? (i := 3790) (by decide +kernel)) rfl
theorem q3788 : Cond.instanceMethod y_Mo_checked ∈ lw_ok := lw_okmem (List.mem_of_getElem? (i := 3788) (by decide +kernel)) rfl
theorem q3789 : Cond.selects y_Mo_checked.cls y_Mo_checked y_Mo_checked ∈ lw_ok := lw_okmem (List.mem_of_getElem? (i := 3789) (by decide +kernel)) rfl
theorem w_Mo_checked : CWv y_Mo_checked b_Mo_checked 3 (some .int) 2 ∧ Cond.instanceMethod y_Mo_checked ∈ lw_ok ∧ Cond.selects y_Mo_checked.cls y_Mo_checked y_Mo_checked ∈ lw_ok := ⟨⟨q3790, q348, by decide +kernel, by decide +kernel, by decide +kernel⟩, q3788, q3789⟩
theorem q3787 : Cond.methodLink "ClassWorksLaw" 66 y_Mo_checked ∈ lw_ok := lw_okmem (List.mem_of_getElem? (i := 3787) (by decide +kernel)) rfl
theorem d_Law_607 : decode code 607 = .ok (.aload_n 1, 1) := by decide +kernel
theorem d_Law_608 : decode code 608 = .ok (.aload_n 0, 1) := by decide +kernel
theorem d_Law_609 : decode code 609 = .ok (.iload_n 3, 1) := by decide +kernel
theorem d_Law_610 : decode code 610 = .ok (.iconst 1, 1) := by decide +kernel
theorem d_Law_611 : decode code 611 = .ok (.iadd, 1) := by decide +kernel
theorem d_Law_612 : decode code 612 = .ok (.iaload, 1) := by decide +kernel
theorem d_Law_613 : decode code 613 = .ok (.aload_n 0, 1) := by decide +kernel
theorem d_Law_614 : decode code 614 = .ok (.iload_n 3, 1) := by decide +kernel
theorem d_Law_615 : decode code 615 = .ok (.iconst 2, 1) := by decide +kernel
theorem d_Law_616 : decode code 616 = .ok (.iadd, 1) := by decide +kernel
theorem d_Law_617 : decode code 617 = .ok (.iaload, 1) := by decide +kernel
theorem d_Law_618 : decode code 618 = .ok (.invokevirtual 63, 3) := by decide +kernel
theorem d_Law_621 : decode code 621 = .ok (.aload_n 2, 1) := by decide +kernel
theorem d_Law_622 : decode code 622 = .ok (.aload_n 0, 1) := by decide +kernel
theorem d_Law_623 : decode code 623 = .ok (.iload_n 3, 1) := by decide +kernel
theorem d_Law_624 : decode code 624 = .ok (.iconst 1, 1) := by decide +kernel
theorem d_Law_625 : decode code 625 = .ok (.iadd, 1) := by decide +kernel
theorem d_Law_626 : decode code 626 = .ok (.iaload, 1) := by decide +kernel
theorem d_Law_627 : decode code 627 = .ok (.aload_n 0, 1) := by decide +kernel
theorem d_Law_628 : decode code 628 = .ok (.iload_n 3, 1) := by decide +kernel
theorem d_Law_629 : decode code 629 = .ok (.iconst 2, 1) := by decide +kernel
theorem d_Law_630 : decode code 630 = .ok (.iadd, 1) := by decide +kernel
theorem d_Law_631 : decode code 631 = .ok (.iaload, 1) := by decide +kernel
theorem d_Law_632 : decode code 632 = .ok (.invokevirtual 66, 3) := by decide +kernel
theorem d_Law_635 : decode code 635 = .ok (.if_icmp .eq 1133, 3) := by decide +kernel
set_option maxHeartbeats 4000000 in
set_option maxRecDepth 100000 in
theorem law_checked {p : Program} {e : Env} {s : State} {m : MethodId} {below : List Frame} {meth : Method} {c : Code} {l : Launch} {D : va_G} {g : Nat → ClassId} {sl : List SL} {b : Nat} {xs : Nat → Int32} {A : Nat → Prop} (h0 : Nat) (r_cwords : Nat) (r_creader : Nat) (r_cchecker : Nat) (r_cfinder : Nat) (r_cwriter : Nat) (r_cmachines : Nat) (r_ctape : Nat) (r_cstock : Nat) (r_csizes : Nat) (r_cmet : Nat) (r_cfound : Nat) (r_cdraft : Nat) (r_cfewestFor : Nat) (r_cfewestNext : Nat) (mm0 : Nat) (mm1 : Nat) (mm2 : Nat) (mm3 : Nat) (ww0 : Nat) (r_m0heap : Nat) (r_m0runs : Nat) (r_m0counts : Nat) (r_m0traceRow : Nat) (f_m0traceCount : Int32) (r_m0startedList : Nat) (f_m0startedCount : Int32) (f_m0present : Int32) (f_m0quantum : Int32) (f_m0stepsDone : Int32) (f_m0turnSteps : Int32) (f_m0turnMost : Int32) (f_m0turnOver : Int32) (r_m0finder : Nat) (r_m0names : Nat) (f_m0fault : Int32) (f_m0wanted : Int32) (f_m0thrown : Int32) (ww1 : Nat) (r_m1heap : Nat) (r_m1runs : Nat) (r_m1counts : Nat) (r_m1traceRow : Nat) (f_m1traceCount : Int32) (r_m1startedList : Nat) (f_m1startedCount : Int32) (f_m1present : Int32) (f_m1quantum : Int32) (f_m1stepsDone : Int32) (f_m1turnSteps : Int32) (f_m1turnMost : Int32) (f_m1turnOver : Int32) (r_m1finder : Nat) (r_m1names : Nat) (f_m1fault : Int32) (f_m1wanted : Int32) (f_m1thrown : Int32) (ww2 : Nat) (r_m2heap : Nat) (r_m2runs : Nat) (r_m2counts : Nat) (r_m2traceRow : Nat) (f_m2traceCount : Int32) (r_m2startedList : Nat) (f_m2startedCount : Int32) (f_m2present : Int32) (f_m2quantum : Int32) (f_m2stepsDone : Int32) (f_m2turnSteps : Int32) (f_m2turnMost : Int32) (f_m2turnOver : Int32) (r_m2finder : Nat) (r_m2names : Nat) (f_m2fault : Int32) (f_m2wanted : Int32) (f_m2thrown : Int32) (r_w0names : Nat) (f_w0wrongClass : Int32) (f_w0wrongMethod : Int32) (f_w0wrongAt : Int32) (r_w0rows : Nat) (r_w0above : Nat) (r_w0fields : Nat) (r_w0methods : Nat) (r_w0codes : Nat) (r_w0handlers : Nat) (r_w0extra : Nat) (r_w0orders : Nat) (r_w0classNamed : Nat) (f_w0breaks : Int32) (r_w0marks : Nat) (r_w1names : Nat) (f_w1wrongClass : Int32) (f_w1wrongMethod : Int32) (f_w1wrongAt : Int32) (r_w1rows : Nat) (r_w1above : Nat) (r_w1fields : Nat) (r_w1methods : Nat) (r_w1codes : Nat) (r_w1handlers : Nat) (r_w1extra : Nat) (r_w1orders : Nat) (r_w1classNamed : Nat) (f_w1breaks : Int32) (r_w1marks : Nat) (r_w2names : Nat) (f_w2wrongClass : Int32) (f_w2wrongMethod : Int32) (f_w2wrongAt : Int32) (r_w2rows : Nat) (r_w2above : Nat) (r_w2fields : Nat) (r_w2methods : Nat) (r_w2codes : Nat) (r_w2handlers : Nat) (r_w2extra : Nat) (r_w2orders : Nat) (r_w2classNamed : Nat) (f_w2breaks : Int32) (r_w2marks : Nat) (h0X : Nat) (fsX : List Value) (owX : Nat) (v0X : Nat) (v1X : Nat) (v2X : Nat) (v3X : Nat) (fw0X : List Value) (fw1X : List Value) (fw2X : List Value) (G : GV l p s m #[Value.ref b] meth c (⟨"ClassWorksLaw", meth.name, ""⟩ : MethodName) code 4 ret g D sl A) (hX : va_X b 6 xs s s.heap) (hbl : b < s.heap.size) (hbA : ¬ A b) (hAA : ∀ q, A q → s.heap.size ≤ q) {H : Heap} {locs : List Loc} {ls : Array Slot} (glenX : fsX.length = 131) (gk0X : fsX[44]? = some (.ref owX)) (gw0X : fw0X.length = 72) (gt0X : fw0X[0]? = some (.int (nI 0))) (gw1X : fw1X.length = 72) (gt1X : fw1X[0]? = some (.int (nI 0))) (gw2X : fw2X.length = 72) (gt2X : fw2X[0]? = some (.int (nI 0))) (hP : va_P D CL [(h0, .inr (11, [.ref r_cwords, .ref r_creader, .ref r_cchecker, .ref r_cfinder, .ref r_cwriter, .ref r_cmachines, .ref r_ctape, .int (nI 0), .int (-2), .int (nI 60000), .ref r_cstock, .ref r_csizes, .ref r_cmet, .ref r_cfound, .int (nI 0), .ref r_cdraft, .int (nI 0), .int (nI 0), .ref r_cfewestFor, .ref r_cfewestNext])), (r_cmachines, .inl (g 4, 4, .inr (.inr (.inr (.inr (va_up (va_up (va_up (va_up (fun _ => none) 0 (some mm0)) 1 (some mm1)) 2 (some mm2)) 3 (some mm3))))))), (mm0, .inr (4, [.ref ww0, .ref r_m0heap, .ref r_m0runs, .ref r_m0counts, .ref r_m0traceRow, .int f_m0traceCount, .ref r_m0startedList, .int f_m0startedCount, .int f_m0present, .int f_m0quantum, .int f_m0stepsDone, .int f_m0turnSteps, .int f_m0turnMost, .int f_m0turnOver, .ref r_m0finder, .ref r_m0names, .int f_m0fault, .int f_m0wanted, .int f_m0thrown])), (mm1, .inr (4, [.ref ww1, .ref r_m1heap, .ref r_m1runs, .ref r_m1counts, .ref r_m1traceRow, .int f_m1traceCount, .ref r_m1startedList, .int f_m1startedCount, .int f_m1present, .int f_m1quantum, .int f_m1stepsDone, .int f_m1turnSteps, .int f_m1turnMost, .int f_m1turnOver, .ref r_m1finder, .ref r_m1names, .int f_m1fault, .int f_m1wanted, .int f_m1thrown])), (mm2, .inr (4, [.ref ww2, .ref r_m2heap, .ref r_m2runs, .ref r_m2counts, .ref r_m2traceRow, .int f_m2traceCount, .ref r_m2startedList, .int f_m2startedCount, .int f_m2present, .int f_m2quantum, .int f_m2stepsDone, .int f_m2turnSteps, .int f_m2turnMost, .int f_m2turnOver, .ref r_m2finder, .ref r_m2names, .int f_m2fault, .int f_m2wanted, .int f_m2thrown])), (ww0, .inr (9, [.ref r_w0names, .int (nI 0), .int (nI 21), .int f_w0wrongClass, .int f_w0wrongMethod, .int f_w0wrongAt, .ref r_w0rows, .ref r_w0above, .ref r_w0fields, .ref r_w0methods, .ref r_w0codes, .ref r_w0handlers, .ref r_w0extra, .ref r_w0orders, .ref r_w0classNamed, .int f_w0breaks, .ref r_w0marks])), (ww1, .inr (9, [.ref r_w1names, .int (nI 0), .int (nI 21), .int f_w1wrongClass, .int f_w1wrongMethod, .int f_w1wrongAt, .ref r_w1rows, .ref r_w1above, .ref r_w1fields, .ref r_w1methods, .ref r_w1codes, .ref r_w1handlers, .ref r_w1extra, .ref r_w1orders, .ref r_w1classNamed, .int f_w1breaks, .ref r_w1marks])), (ww2, .inr (9, [.ref r_w2names, .int (nI 0), .int (nI 21), .int f_w2wrongClass, .int f_w2wrongMethod, .int f_w2wrongAt, .ref r_w2rows, .ref r_w2above, .ref r_w2fields, .ref r_w2methods, .ref r_w2codes, .ref r_w2handlers, .ref r_w2extra, .ref r_w2orders, .ref r_w2classNamed, .int f_w2breaks, .ref r_w2marks])), (h0X, .inr (14, fsX)), (owX, .inl (g 6, 4, .inr (.inr (.inr (.inr (va_up (va_up (va_up (va_up (fun _ => none) 0 (some v0X)) 1 (some v1X)) 2 (some v2X)) 3 (some v3X))))))), (v0X, .inr (13, fw0X)), (v1X, .inr (13, fw1X)), (v2X, .inr (13, fw2X))] H) (hD : va_D A [(h0, .inr (11, [.ref r_cwords, .ref r_creader, .ref r_cchecker, .ref r_cfinder, .ref r_cwriter, .ref r_cmachines, .ref r_ctape, .int (nI 0), .int (-2), .int (nI 60000), .ref r_cstock, .ref r_csizes, .ref r_cmet, .ref r_cfound, .int (nI 0), .ref r_cdraft, .int (nI 0), .int (nI 0), .ref r_cfewestFor, .ref r_cfewestNext])), (r_cmachines, .inl (g 4, 4, .inr (.inr (.inr (.inr (va_up (va_up (va_up (va_up (fun _ => none) 0 (some mm0)) 1 (some mm1)) 2 (some mm2)) 3 (some mm3))))))), (mm0, .inr (4, [.ref ww0, .ref r_m0heap, .ref r_m0runs, .ref r_m0counts, .ref r_m0traceRow, .int f_m0traceCount, .ref r_m0startedList, .int f_m0startedCount, .int f_m0present, .int f_m0quantum, .int f_m0stepsDone, .int f_m0turnSteps, .int f_m0turnMost, .int f_m0turnOver, .ref r_m0finder, .ref r_m0names, .int f_m0fault, .int f_m0wanted, .int f_m0thrown])), (mm1, .inr (4, [.ref ww1, .ref r_m1heap, .ref r_m1runs, .ref r_m1counts, .ref r_m1traceRow, .int f_m1traceCount, .ref r_m1startedList, .int f_m1startedCount, .int f_m1present, .int f_m1quantum, .int f_m1stepsDone, .int f_m1turnSteps, .int f_m1turnMost, .int f_m1turnOver, .ref r_m1finder, .ref r_m1names, .int f_m1fault, .int f_m1wanted, .int f_m1thrown])), (mm2, .inr (4, [.ref ww2, .ref r_m2heap, .ref r_m2runs, .ref r_m2counts, .ref r_m2traceRow, .int f_m2traceCount, .ref r_m2startedList, .int f_m2startedCount, .int f_m2present, .int f_m2quantum, .int f_m2stepsDone, .int f_m2turnSteps, .int f_m2turnMost, .int f_m2turnOver, .ref r_m2finder, .ref r_m2names, .int f_m2fault, .int f_m2wanted, .int f_m2thrown])), (ww0, .inr (9, [.ref r_w0names, .int (nI 0), .int (nI 21), .int f_w0wrongClass, .int f_w0wrongMethod, .int f_w0wrongAt, .ref r_w0rows, .ref r_w0above, .ref r_w0fields, .ref r_w0methods, .ref r_w0codes, .ref r_w0handlers, .ref r_w0extra, .ref r_w0orders, .ref r_w0classNamed, .int f_w0breaks, .ref r_w0marks])), (ww1, .inr (9, [.ref r_w1names, .int (nI 0), .int (nI 21), .int f_w1wrongClass, .int f_w1wrongMethod, .int f_w1wrongAt, .ref r_w1rows, .ref r_w1above, .ref r_w1fields, .ref r_w1methods, .ref r_w1codes, .ref r_w1handlers, .ref r_w1extra, .ref r_w1orders, .ref r_w1classNamed, .int f_w1breaks, .ref r_w1marks])), (ww2, .inr (9, [.ref r_w2names, .int (nI 0), .int (nI 21), .int f_w2wrongClass, .int f_w2wrongMethod, .int f_w2wrongAt, .ref r_w2rows, .ref r_w2above, .ref r_w2fields, .ref r_w2methods, .ref r_w2codes, .ref r_w2handlers, .ref r_w2extra, .ref r_w2orders, .ref r_w2classNamed, .int f_w2breaks, .ref r_w2marks])), (h0X, .inr (14, fsX)), (owX, .inl (g 6, 4, .inr (.inr (.inr (.inr (va_up (va_up (va_up (va_up (fun _ => none) 0 (some v0X)) 1 (some v1X)) 2 (some v2X)) 3 (some v3X))))))), (v0X, .inr (13, fw0X)), (v1X, .inr (13, fw1X)), (v2X, .inr (13, fw2X))]) (hS : va_S A s.heap H locs) (hl : lv_has ls 4 [(0, .ref b), (1, .ref h0), (2, .ref h0X), (3, .int (nI 0))]) : W p l e room_1 s m #[Value.ref b] below meth c H locs 702 488194 (lw_Z below #[Value.ref b] s) (F0 m 607 ls []) := by
  refine lv_aload_n G.1 G.2.1 d_Law_607 rfl (lv_at hl 1 rfl) ?_
  refine lv_aload_n G.1 G.2.1 d_Law_608 rfl (lv_at hl 0 rfl) ?_
  refine lv_iload_n G.1 G.2.1 d_Law_609 rfl (lv_at hl 3 rfl) ?_
  refine lv_iconst (v := nI 1) G.1 G.2.1 d_Law_610 (by decide) ?_
  refine lv_iadd G.1 G.2.1 d_Law_611 ?_
  refine tpi (w := nI 1) (by decide) ?_
  refine va_sld G.1 G.2.1 hX hbl hbA hS (nI_inn (n := 6) (a := 1) (by decide) (by decide)) d_Law_612 ?_
  refine tpi (w := (xs 1)) (by rw [nI_clamp (by decide)]) ?_
  refine lv_aload_n G.1 G.2.1 d_Law_613 rfl (lv_at hl 0 rfl) ?_
  refine lv_iload_n G.1 G.2.1 d_Law_614 rfl (lv_at hl 3 rfl) ?_
  refine lv_iconst (v := nI 2) G.1 G.2.1 d_Law_615 (by decide) ?_
  refine lv_iadd G.1 G.2.1 d_Law_616 ?_
  refine tpi (w := nI 2) (by decide) ?_
  refine va_sld G.1 G.2.1 hX hbl hbA hS (nI_inn (n := 6) (a := 2) (by decide) (by decide)) d_Law_617 ?_
  refine tpi (w := (xs 2)) (by rw [nI_clamp (by decide)]) ?_
  refine W.eq (g2 := F0 m 618 ls [.int (xs 2), .int (xs 1), .ref h0]) rfl ?_
  refine kEi (wr := [(h0X, .inr (14, fsX)), (owX, .inl (g 6, 4, .inr (.inr (.inr (.inr (va_up (va_up (va_up (va_up (fun _ => none) 0 (some v0X)) 1 (some v1X)) 2 (some v2X)) 3 (some v3X))))))), (v0X, .inr (13, fw0X)), (v1X, .inr (13, fw1X)), (v2X, .inr (13, fw2X))]) G (kV (As := [.int (xs 1), .int (xs 2)]) (rest := []) G hP hD hS [0, 1, 2, 3, 4, 5, 6, 7] rfl rfl (c_Cw_checked l D g h0 (xs 1) (xs 2) r_cwords r_creader r_cchecker r_cfinder r_cwriter r_cmachines r_ctape r_cstock r_csizes r_cmet r_cfound r_cdraft r_cfewestFor r_cfewestNext mm0 mm1 mm2 mm3 ww0 r_m0heap r_m0runs r_m0counts r_m0traceRow f_m0traceCount r_m0startedList f_m0startedCount f_m0present f_m0quantum f_m0stepsDone f_m0turnSteps f_m0turnMost f_m0turnOver r_m0finder r_m0names f_m0fault f_m0wanted f_m0thrown ww1 r_m1heap r_m1runs r_m1counts r_m1traceRow f_m1traceCount r_m1startedList f_m1startedCount f_m1present f_m1quantum f_m1stepsDone f_m1turnSteps f_m1turnMost f_m1turnOver r_m1finder r_m1names f_m1fault f_m1wanted f_m1thrown ww2 r_m2heap r_m2runs r_m2counts r_m2traceRow f_m2traceCount r_m2startedList f_m2startedCount f_m2present f_m2quantum f_m2stepsDone f_m2turnSteps f_m2turnMost f_m2turnOver r_m2finder r_m2names f_m2fault f_m2wanted f_m2thrown r_w0names f_w0wrongClass f_w0wrongMethod f_w0wrongAt r_w0rows r_w0above r_w0fields r_w0methods r_w0codes r_w0handlers r_w0extra r_w0orders r_w0classNamed f_w0breaks r_w0marks r_w1names f_w1wrongClass f_w1wrongMethod f_w1wrongAt r_w1rows r_w1above r_w1fields r_w1methods r_w1codes r_w1handlers r_w1extra r_w1orders r_w1classNamed f_w1breaks r_w1marks r_w2names f_w2wrongClass f_w2wrongMethod f_w2wrongAt r_w2rows r_w2above r_w2fields r_w2methods r_w2codes r_w2handlers r_w2extra r_w2orders r_w2classNamed f_w2breaks r_w2marks H.size ) w_Cw_checked q1719 rfl rfl ⟨Nat.le_of_ble_eq_true rfl, Nat.le_of_ble_eq_true rfl⟩ (fun _ h => absurd h List.not_mem_nil) 0 (ci := 11) rfl rfl rfl hl.1 rfl (Nat.le_of_ble_eq_true rfl) rfl ⟨Nat.le_of_ble_eq_true rfl, (Nat.le_of_ble_eq_true rfl)⟩ d_Law_618) hP hD hS [0, 1, 2, 3, 4, 5, 6, 7] [8, 9, 10, 11, 12] rfl rfl rfl rfl (fun r_1 u_2 H locs hw hP hD hS hzH => ?_)
  have hw : r_1 = (-1) := hw
  have hP : va_P D CL [(h0X, .inr (14, fsX)), (owX, .inl (g 6, 4, .inr (.inr (.inr (.inr (va_up (va_up (va_up (va_up (fun _ => none) 0 (some v0X)) 1 (some v1X)) 2 (some v2X)) 3 (some v3X))))))), (v0X, .inr (13, fw0X)), (v1X, .inr (13, fw1X)), (v2X, .inr (13, fw2X))] H := hP
  have hD : va_D A [(h0X, .inr (14, fsX)), (owX, .inl (g 6, 4, .inr (.inr (.inr (.inr (va_up (va_up (va_up (va_up (fun _ => none) 0 (some v0X)) 1 (some v1X)) 2 (some v2X)) 3 (some v3X))))))), (v0X, .inr (13, fw0X)), (v1X, .inr (13, fw1X)), (v2X, .inr (13, fw2X))] := hD
  subst hw
  refine tpst (w := [.int (-1)]) rfl ?_
  refine lv_aload_n G.1 G.2.1 d_Law_621 rfl (lv_at hl 2 rfl) ?_
  refine lv_aload_n G.1 G.2.1 d_Law_622 rfl (lv_at hl 0 rfl) ?_
  refine lv_iload_n G.1 G.2.1 d_Law_623 rfl (lv_at hl 3 rfl) ?_
  refine lv_iconst (v := nI 1) G.1 G.2.1 d_Law_624 (by decide) ?_
  refine lv_iadd G.1 G.2.1 d_Law_625 ?_
  refine tpi (w := nI 1) (by decide) ?_
  refine va_sld G.1 G.2.1 hX hbl hbA hS (nI_inn (n := 6) (a := 1) (by decide) (by decide)) d_Law_626 ?_
  refine tpi (w := (xs 1)) (by rw [nI_clamp (by decide)]) ?_
  refine lv_aload_n G.1 G.2.1 d_Law_627 rfl (lv_at hl 0 rfl) ?_
  refine lv_iload_n G.1 G.2.1 d_Law_628 rfl (lv_at hl 3 rfl) ?_
  refine lv_iconst (v := nI 2) G.1 G.2.1 d_Law_629 (by decide) ?_
  refine lv_iadd G.1 G.2.1 d_Law_630 ?_
  refine tpi (w := nI 2) (by decide) ?_
  refine va_sld G.1 G.2.1 hX hbl hbA hS (nI_inn (n := 6) (a := 2) (by decide) (by decide)) d_Law_631 ?_
  refine tpi (w := (xs 2)) (by rw [nI_clamp (by decide)]) ?_
  refine W.eq (g2 := F0 m 632 ls [.int (xs 2), .int (xs 1), .ref h0X, .int (-1)]) rfl ?_
  refine kEi (wr := []) G (kV (As := [.int (xs 1), .int (xs 2)]) (rest := [.int (-1)]) G hP hD hS [0, 1, 2, 3, 4] rfl rfl (c_Mo_checked l D g h0X (xs 1) (xs 2) fsX owX v0X v1X v2X v3X fw0X fw1X fw2X H.size glenX gk0X gw0X gt0X gw1X gt1X gw2X gt2X) w_Mo_checked q3787 rfl rfl ⟨Nat.le_of_ble_eq_true rfl, Nat.le_of_ble_eq_true rfl⟩ (fun _ h => absurd h List.not_mem_nil) 0 (ci := 14) rfl rfl rfl hl.1 rfl (Nat.le_of_ble_eq_true rfl) rfl ⟨Nat.le_of_ble_eq_true rfl, (Nat.le_of_ble_eq_true rfl)⟩ d_Law_632) hP hD hS [0, 1, 2, 3, 4] [] rfl rfl rfl rfl (fun r_3 u_4 H locs hw hP hD hS hzH => ?_)
  have hw : r_3 = (-1) := hw
  have hP : va_P D CL [] H := hP
  have hD : va_D A [] := hD
  subst hw
  refine tpst (w := [.int (-1), .int (-1)]) rfl ?_
  refine lv_icmp_eq (tgt := 1768) G.1 G.2.1 d_Law_635 (by decide) (fun c635 => ?_) (fun c635 => absurd c635 (fun h => h rfl))
  refine lv_iinc (v := nI 6) (lv' := [(3, .int (nI 6)), (0, .ref b), (1, .ref h0), (2, .ref h0X)]) G.1 G.2.1 d_Law_1768 hl (k := 3) rfl (show (nI 0) + Int32.ofInt 6 = nI 6 from by decide) (by decide) rfl (fun ls hl => ?_)
  refine lv_goto (tgt := 18) G.1 G.2.1 d_Law_1771 (by decide) ?_
  refine lv_iload_n G.1 G.2.1 d_Law_18 rfl (lv_at hl 0 rfl) ?_
  refine lv_aload_n G.1 G.2.1 d_Law_19 rfl (lv_at hl 1 rfl) ?_
  refine va_slen G.1 G.2.1 hX hbl hbA hS d_Law_20 ?_
  refine tpi (w := nI 6) rfl ?_
  refine lv_bipush (v := nI 6) G.1 G.2.1 d_Law_21 (by decide) ?_
  refine lv_isub G.1 G.2.1 d_Law_23 ?_
  refine tpi (w := nI 0) (by decide) ?_
  refine lv_icmp_gt (tgt := 1774) G.1 G.2.1 d_Law_24 (by decide) (fun c24 => ?_) (fun c24 => absurd c24 (by decide))
  refine lv_iconst (v := nI 1) G.1 G.2.1 d_Law_1774 (by decide) ?_
  refine va_forget (fun q hq => hAA _ (hS.2.2 q hq)) ?_
  refine W.widen (k := 600002) (n := 7302232) (Nat.le_of_ble_eq_true rfl) (Nat.le_of_ble_eq_true rfl) ?_
  exact lw_ret G.1 G.2.1 G.2.2.2.1 G.2.2.2.2.1 d_Law_1775
theorem q1726 : Cond.code y_Cw_call b_Cw_call 6 (some .int) ∈ lw_ok := lw_okmem (List.mem_of_getElem? (i := 1726) (by decide +kernel)) rfl
theorem q1724 : Cond.instanceMethod y_Cw_call ∈ lw_ok := lw_okmem (List.mem_of_getElem? (i := 1724) (by decide +kernel)) rfl
theorem q1725 : Cond.selects y_Cw_call.cls y_Cw_call y_Cw_call ∈ lw_ok := lw_okmem (List.mem_of_getElem? (i := 1725) (by decide +kernel)) rfl
theorem w_Cw_call : CWv y_Cw_call b_Cw_call 6 (some .int) 2 ∧ Cond.instanceMethod y_Cw_call ∈ lw_ok ∧ Cond.selects y_Cw_call.cls y_Cw_call y_Cw_call ∈ lw_ok := ⟨⟨q1726, q329, by decide +kernel, by decide +kernel, by decide +kernel⟩, q1724, q1725⟩
theorem q1723 : Cond.methodLink "ClassWorksLaw" 67 y_Cw_call ∈ lw_ok := lw_okmem (List.mem_of_getElem? (i := 1723) (by decide +kernel)) rfl
theorem q3794 : Cond.code y_Mo_call b_Mo_call 3 (some .int) ∈ lw_ok := lw_okmem (List.mem_of_getElem? (i := 3794) (by decide +kernel)) rfl
theorem q3792 : Cond.instanceMethod y_Mo_call ∈ lw_ok := lw_okmem (List.mem_of_getElem? (i := 3792) (by decide +kernel)) rfl
theorem q3793 : Cond.selects y_Mo_call.cls y_Mo_call y_Mo_call ∈ lw_ok := lw_okmem (List.mem_of_getElem? (i := 3793) (by decide +kernel)) rfl
theorem w_Mo_call : CWv y_Mo_call b_Mo_call 3 (some .int) 2 ∧ Cond.instanceMethod y_Mo_call ∈ lw_ok ∧ Cond.selects y_Mo_call.cls y_Mo_call y_Mo_call ∈ lw_ok := ⟨⟨q3794, q348, by decide +kernel, by decide +kernel, by decide +kernel⟩, q3792, q3793⟩
theorem q3791 : Cond.methodLink "ClassWorksLaw" 70 y_Mo_call ∈ lw_ok := lw_okmem (List.mem_of_getElem? (i := 3791) (by decide +kernel)) rfl
theorem d_Law_640 : decode code 640 = .ok (.aload_n 1, 1) := by decide +kernel
theorem d_Law_641 : decode code 641 = .ok (.aload_n 0, 1) := by decide +kernel
theorem d_Law_642 : decode code 642 = .ok (.iload_n 3, 1) := by decide +kernel
theorem d_Law_643 : decode code 643 = .ok (.iconst 1, 1) := by decide +kernel
theorem d_Law_644 : decode code 644 = .ok (.iadd, 1) := by decide +kernel
theorem d_Law_645 : decode code 645 = .ok (.iaload, 1) := by decide +kernel
theorem d_Law_646 : decode code 646 = .ok (.aload_n 0, 1) := by decide +kernel
theorem d_Law_647 : decode code 647 = .ok (.iload_n 3, 1) := by decide +kernel
theorem d_Law_648 : decode code 648 = .ok (.iconst 2, 1) := by decide +kernel
theorem d_Law_649 : decode code 649 = .ok (.iadd, 1) := by decide +kernel
theorem d_Law_650 : decode code 650 = .ok (.iaload, 1) := by decide +kernel
theorem d_Law_651 : decode code 651 = .ok (.invokevirtual 67, 3) := by decide +kernel
theorem d_Law_654 : decode code 654 = .ok (.aload_n 2, 1) := by decide +kernel
theorem d_Law_655 : decode code 655 = .ok (.aload_n 0, 1) := by decide +kernel
theorem d_Law_656 : decode code 656 = .ok (.iload_n 3, 1) := by decide +kernel
theorem d_Law_657 : decode code 657 = .ok (.iconst 1, 1) := by decide +kernel
theorem d_Law_658 : decode code 658 = .ok (.iadd, 1) := by decide +kernel
theorem d_Law_659 : decode code 659 = .ok (.iaload, 1) := by decide +kernel
theorem d_Law_660 : decode code 660 = .ok (.aload_n 0, 1) := by decide +kernel
theorem d_Law_661 : decode code 661 = .ok (.iload_n 3, 1) := by decide +kernel
theorem d_Law_662 : decode code 662 = .ok (.iconst 2, 1) := by decide +kernel
theorem d_Law_663 : decode code 663 = .ok (.iadd, 1) := by decide +kernel
theorem d_Law_664 : decode code 664 = .ok (.iaload, 1) := by decide +kernel
theorem d_Law_665 : decode code 665 = .ok (.invokevirtual 70, 3) := by decide +kernel
theorem d_Law_668 : decode code 668 = .ok (.if_icmp .eq 1100, 3) := by decide +kernel
set_option maxHeartbeats 4000000 in
set_option maxRecDepth 100000 in
theorem law_call {p : Program} {e : Env} {s : State} {m : MethodId} {below : List Frame} {meth : Method} {c : Code} {l : Launch} {D : va_G} {g : Nat → ClassId} {sl : List SL} {b : Nat} {xs : Nat → Int32} {A : Nat → Prop} (h0 : Nat) (r_cwords : Nat) (r_creader : Nat) (r_cchecker : Nat) (r_cfinder : Nat) (r_cwriter : Nat) (r_cmachines : Nat) (r_ctape : Nat) (r_cstock : Nat) (r_csizes : Nat) (r_cmet : Nat) (r_cfound : Nat) (r_cdraft : Nat) (r_cfewestFor : Nat) (r_cfewestNext : Nat) (mm0 : Nat) (mm1 : Nat) (mm2 : Nat) (mm3 : Nat) (ww0 : Nat) (r_m0heap : Nat) (r_m0runs : Nat) (r_m0counts : Nat) (r_m0traceRow : Nat) (f_m0traceCount : Int32) (r_m0startedList : Nat) (f_m0startedCount : Int32) (f_m0present : Int32) (f_m0quantum : Int32) (f_m0stepsDone : Int32) (f_m0turnSteps : Int32) (f_m0turnMost : Int32) (f_m0turnOver : Int32) (r_m0finder : Nat) (r_m0names : Nat) (f_m0fault : Int32) (f_m0wanted : Int32) (f_m0thrown : Int32) (ww1 : Nat) (r_m1heap : Nat) (r_m1runs : Nat) (r_m1counts : Nat) (r_m1traceRow : Nat) (f_m1traceCount : Int32) (r_m1startedList : Nat) (f_m1startedCount : Int32) (f_m1present : Int32) (f_m1quantum : Int32) (f_m1stepsDone : Int32) (f_m1turnSteps : Int32) (f_m1turnMost : Int32) (f_m1turnOver : Int32) (r_m1finder : Nat) (r_m1names : Nat) (f_m1fault : Int32) (f_m1wanted : Int32) (f_m1thrown : Int32) (ww2 : Nat) (r_m2heap : Nat) (r_m2runs : Nat) (r_m2counts : Nat) (r_m2traceRow : Nat) (f_m2traceCount : Int32) (r_m2startedList : Nat) (f_m2startedCount : Int32) (f_m2present : Int32) (f_m2quantum : Int32) (f_m2stepsDone : Int32) (f_m2turnSteps : Int32) (f_m2turnMost : Int32) (f_m2turnOver : Int32) (r_m2finder : Nat) (r_m2names : Nat) (f_m2fault : Int32) (f_m2wanted : Int32) (f_m2thrown : Int32) (r_w0names : Nat) (f_w0wrongClass : Int32) (f_w0wrongMethod : Int32) (f_w0wrongAt : Int32) (r_w0rows : Nat) (r_w0above : Nat) (r_w0fields : Nat) (r_w0methods : Nat) (r_w0codes : Nat) (r_w0handlers : Nat) (r_w0extra : Nat) (r_w0orders : Nat) (r_w0classNamed : Nat) (f_w0breaks : Int32) (r_w0marks : Nat) (r_w1names : Nat) (f_w1wrongClass : Int32) (f_w1wrongMethod : Int32) (f_w1wrongAt : Int32) (r_w1rows : Nat) (r_w1above : Nat) (r_w1fields : Nat) (r_w1methods : Nat) (r_w1codes : Nat) (r_w1handlers : Nat) (r_w1extra : Nat) (r_w1orders : Nat) (r_w1classNamed : Nat) (f_w1breaks : Int32) (r_w1marks : Nat) (r_w2names : Nat) (f_w2wrongClass : Int32) (f_w2wrongMethod : Int32) (f_w2wrongAt : Int32) (r_w2rows : Nat) (r_w2above : Nat) (r_w2fields : Nat) (r_w2methods : Nat) (r_w2codes : Nat) (r_w2handlers : Nat) (r_w2extra : Nat) (r_w2orders : Nat) (r_w2classNamed : Nat) (f_w2breaks : Int32) (r_w2marks : Nat) (h0X : Nat) (fsX : List Value) (owX : Nat) (v0X : Nat) (v1X : Nat) (v2X : Nat) (v3X : Nat) (fw0X : List Value) (fw1X : List Value) (fw2X : List Value) (G : GV l p s m #[Value.ref b] meth c (⟨"ClassWorksLaw", meth.name, ""⟩ : MethodName) code 4 ret g D sl A) (hX : va_X b 6 xs s s.heap) (hbl : b < s.heap.size) (hbA : ¬ A b) (hAA : ∀ q, A q → s.heap.size ≤ q) {H : Heap} {locs : List Loc} {ls : Array Slot} (glenX : fsX.length = 131) (gk0X : fsX[44]? = some (.ref owX)) (gw0X : fw0X.length = 72) (gt0X : fw0X[0]? = some (.int (nI 0))) (gw1X : fw1X.length = 72) (gt1X : fw1X[0]? = some (.int (nI 0))) (gw2X : fw2X.length = 72) (gt2X : fw2X[0]? = some (.int (nI 0))) (hP : va_P D CL [(h0, .inr (11, [.ref r_cwords, .ref r_creader, .ref r_cchecker, .ref r_cfinder, .ref r_cwriter, .ref r_cmachines, .ref r_ctape, .int (nI 0), .int (-2), .int (nI 60000), .ref r_cstock, .ref r_csizes, .ref r_cmet, .ref r_cfound, .int (nI 0), .ref r_cdraft, .int (nI 0), .int (nI 0), .ref r_cfewestFor, .ref r_cfewestNext])), (r_cmachines, .inl (g 4, 4, .inr (.inr (.inr (.inr (va_up (va_up (va_up (va_up (fun _ => none) 0 (some mm0)) 1 (some mm1)) 2 (some mm2)) 3 (some mm3))))))), (mm0, .inr (4, [.ref ww0, .ref r_m0heap, .ref r_m0runs, .ref r_m0counts, .ref r_m0traceRow, .int f_m0traceCount, .ref r_m0startedList, .int f_m0startedCount, .int f_m0present, .int f_m0quantum, .int f_m0stepsDone, .int f_m0turnSteps, .int f_m0turnMost, .int f_m0turnOver, .ref r_m0finder, .ref r_m0names, .int f_m0fault, .int f_m0wanted, .int f_m0thrown])), (mm1, .inr (4, [.ref ww1, .ref r_m1heap, .ref r_m1runs, .ref r_m1counts, .ref r_m1traceRow, .int f_m1traceCount, .ref r_m1startedList, .int f_m1startedCount, .int f_m1present, .int f_m1quantum, .int f_m1stepsDone, .int f_m1turnSteps, .int f_m1turnMost, .int f_m1turnOver, .ref r_m1finder, .ref r_m1names, .int f_m1fault, .int f_m1wanted, .int f_m1thrown])), (mm2, .inr (4, [.ref ww2, .ref r_m2heap, .ref r_m2runs, .ref r_m2counts, .ref r_m2traceRow, .int f_m2traceCount, .ref r_m2startedList, .int f_m2startedCount, .int f_m2present, .int f_m2quantum, .int f_m2stepsDone, .int f_m2turnSteps, .int f_m2turnMost, .int f_m2turnOver, .ref r_m2finder, .ref r_m2names, .int f_m2fault, .int f_m2wanted, .int f_m2thrown])), (ww0, .inr (9, [.ref r_w0names, .int (nI 0), .int (nI 21), .int f_w0wrongClass, .int f_w0wrongMethod, .int f_w0wrongAt, .ref r_w0rows, .ref r_w0above, .ref r_w0fields, .ref r_w0methods, .ref r_w0codes, .ref r_w0handlers, .ref r_w0extra, .ref r_w0orders, .ref r_w0classNamed, .int f_w0breaks, .ref r_w0marks])), (ww1, .inr (9, [.ref r_w1names, .int (nI 0), .int (nI 21), .int f_w1wrongClass, .int f_w1wrongMethod, .int f_w1wrongAt, .ref r_w1rows, .ref r_w1above, .ref r_w1fields, .ref r_w1methods, .ref r_w1codes, .ref r_w1handlers, .ref r_w1extra, .ref r_w1orders, .ref r_w1classNamed, .int f_w1breaks, .ref r_w1marks])), (ww2, .inr (9, [.ref r_w2names, .int (nI 0), .int (nI 21), .int f_w2wrongClass, .int f_w2wrongMethod, .int f_w2wrongAt, .ref r_w2rows, .ref r_w2above, .ref r_w2fields, .ref r_w2methods, .ref r_w2codes, .ref r_w2handlers, .ref r_w2extra, .ref r_w2orders, .ref r_w2classNamed, .int f_w2breaks, .ref r_w2marks])), (h0X, .inr (14, fsX)), (owX, .inl (g 6, 4, .inr (.inr (.inr (.inr (va_up (va_up (va_up (va_up (fun _ => none) 0 (some v0X)) 1 (some v1X)) 2 (some v2X)) 3 (some v3X))))))), (v0X, .inr (13, fw0X)), (v1X, .inr (13, fw1X)), (v2X, .inr (13, fw2X))] H) (hD : va_D A [(h0, .inr (11, [.ref r_cwords, .ref r_creader, .ref r_cchecker, .ref r_cfinder, .ref r_cwriter, .ref r_cmachines, .ref r_ctape, .int (nI 0), .int (-2), .int (nI 60000), .ref r_cstock, .ref r_csizes, .ref r_cmet, .ref r_cfound, .int (nI 0), .ref r_cdraft, .int (nI 0), .int (nI 0), .ref r_cfewestFor, .ref r_cfewestNext])), (r_cmachines, .inl (g 4, 4, .inr (.inr (.inr (.inr (va_up (va_up (va_up (va_up (fun _ => none) 0 (some mm0)) 1 (some mm1)) 2 (some mm2)) 3 (some mm3))))))), (mm0, .inr (4, [.ref ww0, .ref r_m0heap, .ref r_m0runs, .ref r_m0counts, .ref r_m0traceRow, .int f_m0traceCount, .ref r_m0startedList, .int f_m0startedCount, .int f_m0present, .int f_m0quantum, .int f_m0stepsDone, .int f_m0turnSteps, .int f_m0turnMost, .int f_m0turnOver, .ref r_m0finder, .ref r_m0names, .int f_m0fault, .int f_m0wanted, .int f_m0thrown])), (mm1, .inr (4, [.ref ww1, .ref r_m1heap, .ref r_m1runs, .ref r_m1counts, .ref r_m1traceRow, .int f_m1traceCount, .ref r_m1startedList, .int f_m1startedCount, .int f_m1present, .int f_m1quantum, .int f_m1stepsDone, .int f_m1turnSteps, .int f_m1turnMost, .int f_m1turnOver, .ref r_m1finder, .ref r_m1names, .int f_m1fault, .int f_m1wanted, .int f_m1thrown])), (mm2, .inr (4, [.ref ww2, .ref r_m2heap, .ref r_m2runs, .ref r_m2counts, .ref r_m2traceRow, .int f_m2traceCount, .ref r_m2startedList, .int f_m2startedCount, .int f_m2present, .int f_m2quantum, .int f_m2stepsDone, .int f_m2turnSteps, .int f_m2turnMost, .int f_m2turnOver, .ref r_m2finder, .ref r_m2names, .int f_m2fault, .int f_m2wanted, .int f_m2thrown])), (ww0, .inr (9, [.ref r_w0names, .int (nI 0), .int (nI 21), .int f_w0wrongClass, .int f_w0wrongMethod, .int f_w0wrongAt, .ref r_w0rows, .ref r_w0above, .ref r_w0fields, .ref r_w0methods, .ref r_w0codes, .ref r_w0handlers, .ref r_w0extra, .ref r_w0orders, .ref r_w0classNamed, .int f_w0breaks, .ref r_w0marks])), (ww1, .inr (9, [.ref r_w1names, .int (nI 0), .int (nI 21), .int f_w1wrongClass, .int f_w1wrongMethod, .int f_w1wrongAt, .ref r_w1rows, .ref r_w1above, .ref r_w1fields, .ref r_w1methods, .ref r_w1codes, .ref r_w1handlers, .ref r_w1extra, .ref r_w1orders, .ref r_w1classNamed, .int f_w1breaks, .ref r_w1marks])), (ww2, .inr (9, [.ref r_w2names, .int (nI 0), .int (nI 21), .int f_w2wrongClass, .int f_w2wrongMethod, .int f_w2wrongAt, .ref r_w2rows, .ref r_w2above, .ref r_w2fields, .ref r_w2methods, .ref r_w2codes, .ref r_w2handlers, .ref r_w2extra, .ref r_w2orders, .ref r_w2classNamed, .int f_w2breaks, .ref r_w2marks])), (h0X, .inr (14, fsX)), (owX, .inl (g 6, 4, .inr (.inr (.inr (.inr (va_up (va_up (va_up (va_up (fun _ => none) 0 (some v0X)) 1 (some v1X)) 2 (some v2X)) 3 (some v3X))))))), (v0X, .inr (13, fw0X)), (v1X, .inr (13, fw1X)), (v2X, .inr (13, fw2X))]) (hS : va_S A s.heap H locs) (hl : lv_has ls 4 [(0, .ref b), (1, .ref h0), (2, .ref h0X), (3, .int (nI 0))]) : W p l e room_1 s m #[Value.ref b] below meth c H locs 702 488194 (lw_Z below #[Value.ref b] s) (F0 m 640 ls []) := by
  refine lv_aload_n G.1 G.2.1 d_Law_640 rfl (lv_at hl 1 rfl) ?_
  refine lv_aload_n G.1 G.2.1 d_Law_641 rfl (lv_at hl 0 rfl) ?_
  refine lv_iload_n G.1 G.2.1 d_Law_642 rfl (lv_at hl 3 rfl) ?_
  refine lv_iconst (v := nI 1) G.1 G.2.1 d_Law_643 (by decide) ?_
  refine lv_iadd G.1 G.2.1 d_Law_644 ?_
  refine tpi (w := nI 1) (by decide) ?_
  refine va_sld G.1 G.2.1 hX hbl hbA hS (nI_inn (n := 6) (a := 1) (by decide) (by decide)) d_Law_645 ?_
  refine tpi (w := (xs 1)) (by rw [nI_clamp (by decide)]) ?_
  refine lv_aload_n G.1 G.2.1 d_Law_646 rfl (lv_at hl 0 rfl) ?_
  refine lv_iload_n G.1 G.2.1 d_Law_647 rfl (lv_at hl 3 rfl) ?_
  refine lv_iconst (v := nI 2) G.1 G.2.1 d_Law_648 (by decide) ?_
  refine lv_iadd G.1 G.2.1 d_Law_649 ?_
  refine tpi (w := nI 2) (by decide) ?_
  refine va_sld G.1 G.2.1 hX hbl hbA hS (nI_inn (n := 6) (a := 2) (by decide) (by decide)) d_Law_650 ?_
  refine tpi (w := (xs 2)) (by rw [nI_clamp (by decide)]) ?_
  refine W.eq (g2 := F0 m 651 ls [.int (xs 2), .int (xs 1), .ref h0]) rfl ?_
  refine kEi (wr := [(h0X, .inr (14, fsX)), (owX, .inl (g 6, 4, .inr (.inr (.inr (.inr (va_up (va_up (va_up (va_up (fun _ => none) 0 (some v0X)) 1 (some v1X)) 2 (some v2X)) 3 (some v3X))))))), (v0X, .inr (13, fw0X)), (v1X, .inr (13, fw1X)), (v2X, .inr (13, fw2X))]) G (kV (As := [.int (xs 1), .int (xs 2)]) (rest := []) G hP hD hS [0, 1, 2, 3, 4, 5, 6, 7] rfl rfl (c_Cw_call l D g h0 (xs 1) (xs 2) r_cwords r_creader r_cchecker r_cfinder r_cwriter r_cmachines r_ctape r_cstock r_csizes r_cmet r_cfound r_cdraft r_cfewestFor r_cfewestNext mm0 mm1 mm2 mm3 ww0 r_m0heap r_m0runs r_m0counts r_m0traceRow f_m0traceCount r_m0startedList f_m0startedCount f_m0present f_m0quantum f_m0stepsDone f_m0turnSteps f_m0turnMost f_m0turnOver r_m0finder r_m0names f_m0fault f_m0wanted f_m0thrown ww1 r_m1heap r_m1runs r_m1counts r_m1traceRow f_m1traceCount r_m1startedList f_m1startedCount f_m1present f_m1quantum f_m1stepsDone f_m1turnSteps f_m1turnMost f_m1turnOver r_m1finder r_m1names f_m1fault f_m1wanted f_m1thrown ww2 r_m2heap r_m2runs r_m2counts r_m2traceRow f_m2traceCount r_m2startedList f_m2startedCount f_m2present f_m2quantum f_m2stepsDone f_m2turnSteps f_m2turnMost f_m2turnOver r_m2finder r_m2names f_m2fault f_m2wanted f_m2thrown r_w0names f_w0wrongClass f_w0wrongMethod f_w0wrongAt r_w0rows r_w0above r_w0fields r_w0methods r_w0codes r_w0handlers r_w0extra r_w0orders r_w0classNamed f_w0breaks r_w0marks r_w1names f_w1wrongClass f_w1wrongMethod f_w1wrongAt r_w1rows r_w1above r_w1fields r_w1methods r_w1codes r_w1handlers r_w1extra r_w1orders r_w1classNamed f_w1breaks r_w1marks r_w2names f_w2wrongClass f_w2wrongMethod f_w2wrongAt r_w2rows r_w2above r_w2fields r_w2methods r_w2codes r_w2handlers r_w2extra r_w2orders r_w2classNamed f_w2breaks r_w2marks H.size ) w_Cw_call q1723 rfl rfl ⟨Nat.le_of_ble_eq_true rfl, Nat.le_of_ble_eq_true rfl⟩ (fun _ h => absurd h List.not_mem_nil) 0 (ci := 11) rfl rfl rfl hl.1 rfl (Nat.le_of_ble_eq_true rfl) rfl ⟨Nat.le_of_ble_eq_true rfl, (Nat.le_of_ble_eq_true rfl)⟩ d_Law_651) hP hD hS [0, 1, 2, 3, 4, 5, 6, 7] [8, 9, 10, 11, 12] rfl rfl rfl rfl (fun r_1 u_2 H locs hw hP hD hS hzH => ?_)
  have hw : r_1 = (-1) := hw
  have hP : va_P D CL [(h0X, .inr (14, fsX)), (owX, .inl (g 6, 4, .inr (.inr (.inr (.inr (va_up (va_up (va_up (va_up (fun _ => none) 0 (some v0X)) 1 (some v1X)) 2 (some v2X)) 3 (some v3X))))))), (v0X, .inr (13, fw0X)), (v1X, .inr (13, fw1X)), (v2X, .inr (13, fw2X))] H := hP
  have hD : va_D A [(h0X, .inr (14, fsX)), (owX, .inl (g 6, 4, .inr (.inr (.inr (.inr (va_up (va_up (va_up (va_up (fun _ => none) 0 (some v0X)) 1 (some v1X)) 2 (some v2X)) 3 (some v3X))))))), (v0X, .inr (13, fw0X)), (v1X, .inr (13, fw1X)), (v2X, .inr (13, fw2X))] := hD
  subst hw
  refine tpst (w := [.int (-1)]) rfl ?_
  refine lv_aload_n G.1 G.2.1 d_Law_654 rfl (lv_at hl 2 rfl) ?_
  refine lv_aload_n G.1 G.2.1 d_Law_655 rfl (lv_at hl 0 rfl) ?_
  refine lv_iload_n G.1 G.2.1 d_Law_656 rfl (lv_at hl 3 rfl) ?_
  refine lv_iconst (v := nI 1) G.1 G.2.1 d_Law_657 (by decide) ?_
  refine lv_iadd G.1 G.2.1 d_Law_658 ?_
  refine tpi (w := nI 1) (by decide) ?_
  refine va_sld G.1 G.2.1 hX hbl hbA hS (nI_inn (n := 6) (a := 1) (by decide) (by decide)) d_Law_659 ?_
  refine tpi (w := (xs 1)) (by rw [nI_clamp (by decide)]) ?_
  refine lv_aload_n G.1 G.2.1 d_Law_660 rfl (lv_at hl 0 rfl) ?_
  refine lv_iload_n G.1 G.2.1 d_Law_661 rfl (lv_at hl 3 rfl) ?_
  refine lv_iconst (v := nI 2) G.1 G.2.1 d_Law_662 (by decide) ?_
  refine lv_iadd G.1 G.2.1 d_Law_663 ?_
  refine tpi (w := nI 2) (by decide) ?_
  refine va_sld G.1 G.2.1 hX hbl hbA hS (nI_inn (n := 6) (a := 2) (by decide) (by decide)) d_Law_664 ?_
  refine tpi (w := (xs 2)) (by rw [nI_clamp (by decide)]) ?_
  refine W.eq (g2 := F0 m 665 ls [.int (xs 2), .int (xs 1), .ref h0X, .int (-1)]) rfl ?_
  refine kEi (wr := []) G (kV (As := [.int (xs 1), .int (xs 2)]) (rest := [.int (-1)]) G hP hD hS [0, 1, 2, 3, 4] rfl rfl (c_Mo_call l D g h0X (xs 1) (xs 2) fsX owX v0X v1X v2X v3X fw0X fw1X fw2X H.size glenX gk0X gw0X gt0X gw1X gt1X gw2X gt2X) w_Mo_call q3791 rfl rfl ⟨Nat.le_of_ble_eq_true rfl, Nat.le_of_ble_eq_true rfl⟩ (fun _ h => absurd h List.not_mem_nil) 0 (ci := 14) rfl rfl rfl hl.1 rfl (Nat.le_of_ble_eq_true rfl) rfl ⟨Nat.le_of_ble_eq_true rfl, (Nat.le_of_ble_eq_true rfl)⟩ d_Law_665) hP hD hS [0, 1, 2, 3, 4] [] rfl rfl rfl rfl (fun r_3 u_4 H locs hw hP hD hS hzH => ?_)
  have hw : r_3 = (-1) := hw
  have hP : va_P D CL [] H := hP
  have hD : va_D A [] := hD
  subst hw
  refine tpst (w := [.int (-1), .int (-1)]) rfl ?_
  refine lv_icmp_eq (tgt := 1768) G.1 G.2.1 d_Law_668 (by decide) (fun c668 => ?_) (fun c668 => absurd c668 (fun h => h rfl))
  refine lv_iinc (v := nI 6) (lv' := [(3, .int (nI 6)), (0, .ref b), (1, .ref h0), (2, .ref h0X)]) G.1 G.2.1 d_Law_1768 hl (k := 3) rfl (show (nI 0) + Int32.ofInt 6 = nI 6 from by decide) (by decide) rfl (fun ls hl => ?_)
  refine lv_goto (tgt := 18) G.1 G.2.1 d_Law_1771 (by decide) ?_
  refine lv_iload_n G.1 G.2.1 d_Law_18 rfl (lv_at hl 0 rfl) ?_
  refine lv_aload_n G.1 G.2.1 d_Law_19 rfl (lv_at hl 1 rfl) ?_
  refine va_slen G.1 G.2.1 hX hbl hbA hS d_Law_20 ?_
  refine tpi (w := nI 6) rfl ?_
  refine lv_bipush (v := nI 6) G.1 G.2.1 d_Law_21 (by decide) ?_
  refine lv_isub G.1 G.2.1 d_Law_23 ?_
  refine tpi (w := nI 0) (by decide) ?_
  refine lv_icmp_gt (tgt := 1774) G.1 G.2.1 d_Law_24 (by decide) (fun c24 => ?_) (fun c24 => absurd c24 (by decide))
  refine lv_iconst (v := nI 1) G.1 G.2.1 d_Law_1774 (by decide) ?_
  refine va_forget (fun q hq => hAA _ (hS.2.2 q hq)) ?_
  refine W.widen (k := 600002) (n := 7302232) (Nat.le_of_ble_eq_true rfl) (Nat.le_of_ble_eq_true rfl) ?_
  exact lw_ret G.1 G.2.1 G.2.2.2.1 G.2.2.2.2.1 d_Law_1775
theorem q1756 : Cond.code y_Cw_quantum b_Cw_quantum 5 (some .int) ∈ lw_ok := lw_okmem (List.mem_of_getElem? (i := 1756) (by decide +kernel)) rfl
theorem q1754 : Cond.instanceMethod y_Cw_quantum ∈ lw_ok := lw_okmem (List.mem_of_getElem? (i := 1754) (by decide +kernel)) rfl
theorem q1755 : Cond.selects y_Cw_quantum.cls y_Cw_quantum y_Cw_quantum ∈ lw_ok := lw_okmem (List.mem_of_getElem? (i := 1755) (by decide +kernel)) rfl
theorem w_Cw_quantum : CWv y_Cw_quantum b_Cw_quantum 5 (some .int) 2 ∧ Cond.instanceMethod y_Cw_quantum ∈ lw_ok ∧ Cond.selects y_Cw_quantum.cls y_Cw_quantum y_Cw_quantum ∈ lw_ok := ⟨⟨q1756, q329, by decide +kernel, by decide +kernel, by decide +kernel⟩, q1754, q1755⟩
theorem q1753 : Cond.methodLink "ClassWorksLaw" 71 y_Cw_quantum ∈ lw_ok := lw_okmem (List.mem_of_getElem? (i := 1753) (by decide +kernel)) rfl
theorem q3817 : Cond.code y_Mo_quantum b_Mo_quantum 4 (some .int) ∈ lw_ok := lw_okmem (List.mem_of_getElem? (i := 3817) (by decide +kernel)) rfl
theorem q3815 : Cond.instanceMethod y_Mo_quantum ∈ lw_ok := lw_okmem (List.mem_of_getElem? (i := 3815) (by decide +kernel)) rfl
theorem q3816 : Cond.selects y_Mo_quantum.cls y_Mo_quantum y_Mo_quantum ∈ lw_ok := lw_okmem (List.mem_of_getElem? (i := 3816) (by decide +kernel)) rfl
theorem w_Mo_quantum : CWv y_Mo_quantum b_Mo_quantum 4 (some .int) 2 ∧ Cond.instanceMethod y_Mo_quantum ∈ lw_ok ∧ Cond.selects y_Mo_quantum.cls y_Mo_quantum y_Mo_quantum ∈ lw_ok := ⟨⟨q3817, q348, by decide +kernel, by decide +kernel, by decide +kernel⟩, q3815, q3816⟩
theorem q3814 : Cond.methodLink "ClassWorksLaw" 74 y_Mo_quantum ∈ lw_ok := lw_okmem (List.mem_of_getElem? (i := 3814) (by decide +kernel)) rfl
theorem d_Law_673 : decode code 673 = .ok (.aload_n 1, 1) := by decide +kernel
theorem d_Law_674 : decode code 674 = .ok (.aload_n 0, 1) := by decide +kernel
theorem d_Law_675 : decode code 675 = .ok (.iload_n 3, 1) := by decide +kernel
theorem d_Law_676 : decode code 676 = .ok (.iconst 1, 1) := by decide +kernel
theorem d_Law_677 : decode code 677 = .ok (.iadd, 1) := by decide +kernel
theorem d_Law_678 : decode code 678 = .ok (.iaload, 1) := by decide +kernel
theorem d_Law_679 : decode code 679 = .ok (.aload_n 0, 1) := by decide +kernel
theorem d_Law_680 : decode code 680 = .ok (.iload_n 3, 1) := by decide +kernel
theorem d_Law_681 : decode code 681 = .ok (.iconst 2, 1) := by decide +kernel
theorem d_Law_682 : decode code 682 = .ok (.iadd, 1) := by decide +kernel
theorem d_Law_683 : decode code 683 = .ok (.iaload, 1) := by decide +kernel
theorem d_Law_684 : decode code 684 = .ok (.invokevirtual 71, 3) := by decide +kernel
theorem d_Law_687 : decode code 687 = .ok (.aload_n 2, 1) := by decide +kernel
theorem d_Law_688 : decode code 688 = .ok (.aload_n 0, 1) := by decide +kernel
theorem d_Law_689 : decode code 689 = .ok (.iload_n 3, 1) := by decide +kernel
theorem d_Law_690 : decode code 690 = .ok (.iconst 1, 1) := by decide +kernel
theorem d_Law_691 : decode code 691 = .ok (.iadd, 1) := by decide +kernel
theorem d_Law_692 : decode code 692 = .ok (.iaload, 1) := by decide +kernel
theorem d_Law_693 : decode code 693 = .ok (.aload_n 0, 1) := by decide +kernel
theorem d_Law_694 : decode code 694 = .ok (.iload_n 3, 1) := by decide +kernel
theorem d_Law_695 : decode code 695 = .ok (.iconst 2, 1) := by decide +kernel
theorem d_Law_696 : decode code 696 = .ok (.iadd, 1) := by decide +kernel
theorem d_Law_697 : decode code 697 = .ok (.iaload, 1) := by decide +kernel
theorem d_Law_698 : decode code 698 = .ok (.invokevirtual 74, 3) := by decide +kernel
theorem d_Law_701 : decode code 701 = .ok (.if_icmp .eq 1067, 3) := by decide +kernel
set_option maxHeartbeats 4000000 in
set_option maxRecDepth 100000 in
theorem law_quantum {p : Program} {e : Env} {s : State} {m : MethodId} {below : List Frame} {meth : Method} {c : Code} {l : Launch} {D : va_G} {g : Nat → ClassId} {sl : List SL} {b : Nat} {xs : Nat → Int32} {A : Nat → Prop} (h0 : Nat) (r_cwords : Nat) (r_creader : Nat) (r_cchecker : Nat) (r_cfinder : Nat) (r_cwriter : Nat) (r_cmachines : Nat) (r_ctape : Nat) (r_cstock : Nat) (r_csizes : Nat) (r_cmet : Nat) (r_cfound : Nat) (r_cdraft : Nat) (r_cfewestFor : Nat) (r_cfewestNext : Nat) (mm0 : Nat) (mm1 : Nat) (mm2 : Nat) (mm3 : Nat) (ww0 : Nat) (r_m0heap : Nat) (r_m0runs : Nat) (r_m0counts : Nat) (r_m0traceRow : Nat) (f_m0traceCount : Int32) (r_m0startedList : Nat) (f_m0startedCount : Int32) (f_m0present : Int32) (f_m0quantum : Int32) (f_m0stepsDone : Int32) (f_m0turnSteps : Int32) (f_m0turnMost : Int32) (f_m0turnOver : Int32) (r_m0finder : Nat) (r_m0names : Nat) (f_m0fault : Int32) (f_m0wanted : Int32) (f_m0thrown : Int32) (ww1 : Nat) (r_m1heap : Nat) (r_m1runs : Nat) (r_m1counts : Nat) (r_m1traceRow : Nat) (f_m1traceCount : Int32) (r_m1startedList : Nat) (f_m1startedCount : Int32) (f_m1present : Int32) (f_m1quantum : Int32) (f_m1stepsDone : Int32) (f_m1turnSteps : Int32) (f_m1turnMost : Int32) (f_m1turnOver : Int32) (r_m1finder : Nat) (r_m1names : Nat) (f_m1fault : Int32) (f_m1wanted : Int32) (f_m1thrown : Int32) (ww2 : Nat) (r_m2heap : Nat) (r_m2runs : Nat) (r_m2counts : Nat) (r_m2traceRow : Nat) (f_m2traceCount : Int32) (r_m2startedList : Nat) (f_m2startedCount : Int32) (f_m2present : Int32) (f_m2quantum : Int32) (f_m2stepsDone : Int32) (f_m2turnSteps : Int32) (f_m2turnMost : Int32) (f_m2turnOver : Int32) (r_m2finder : Nat) (r_m2names : Nat) (f_m2fault : Int32) (f_m2wanted : Int32) (f_m2thrown : Int32) (r_w0names : Nat) (f_w0wrongClass : Int32) (f_w0wrongMethod : Int32) (f_w0wrongAt : Int32) (r_w0rows : Nat) (r_w0above : Nat) (r_w0fields : Nat) (r_w0methods : Nat) (r_w0codes : Nat) (r_w0handlers : Nat) (r_w0extra : Nat) (r_w0orders : Nat) (r_w0classNamed : Nat) (f_w0breaks : Int32) (r_w0marks : Nat) (r_w1names : Nat) (f_w1wrongClass : Int32) (f_w1wrongMethod : Int32) (f_w1wrongAt : Int32) (r_w1rows : Nat) (r_w1above : Nat) (r_w1fields : Nat) (r_w1methods : Nat) (r_w1codes : Nat) (r_w1handlers : Nat) (r_w1extra : Nat) (r_w1orders : Nat) (r_w1classNamed : Nat) (f_w1breaks : Int32) (r_w1marks : Nat) (r_w2names : Nat) (f_w2wrongClass : Int32) (f_w2wrongMethod : Int32) (f_w2wrongAt : Int32) (r_w2rows : Nat) (r_w2above : Nat) (r_w2fields : Nat) (r_w2methods : Nat) (r_w2codes : Nat) (r_w2handlers : Nat) (r_w2extra : Nat) (r_w2orders : Nat) (r_w2classNamed : Nat) (f_w2breaks : Int32) (r_w2marks : Nat) (h0X : Nat) (fsX : List Value) (owX : Nat) (v0X : Nat) (v1X : Nat) (v2X : Nat) (v3X : Nat) (fw0X : List Value) (fw1X : List Value) (fw2X : List Value) (G : GV l p s m #[Value.ref b] meth c (⟨"ClassWorksLaw", meth.name, ""⟩ : MethodName) code 4 ret g D sl A) (hX : va_X b 6 xs s s.heap) (hbl : b < s.heap.size) (hbA : ¬ A b) (hAA : ∀ q, A q → s.heap.size ≤ q) {H : Heap} {locs : List Loc} {ls : Array Slot} (glenX : fsX.length = 131) (gk0X : fsX[44]? = some (.ref owX)) (gw0X : fw0X.length = 72) (gt0X : fw0X[0]? = some (.int (nI 0))) (gw1X : fw1X.length = 72) (gt1X : fw1X[0]? = some (.int (nI 0))) (gw2X : fw2X.length = 72) (gt2X : fw2X[0]? = some (.int (nI 0))) (hP : va_P D CL [(h0, .inr (11, [.ref r_cwords, .ref r_creader, .ref r_cchecker, .ref r_cfinder, .ref r_cwriter, .ref r_cmachines, .ref r_ctape, .int (nI 0), .int (-2), .int (nI 60000), .ref r_cstock, .ref r_csizes, .ref r_cmet, .ref r_cfound, .int (nI 0), .ref r_cdraft, .int (nI 0), .int (nI 0), .ref r_cfewestFor, .ref r_cfewestNext])), (r_cmachines, .inl (g 4, 4, .inr (.inr (.inr (.inr (va_up (va_up (va_up (va_up (fun _ => none) 0 (some mm0)) 1 (some mm1)) 2 (some mm2)) 3 (some mm3))))))), (mm0, .inr (4, [.ref ww0, .ref r_m0heap, .ref r_m0runs, .ref r_m0counts, .ref r_m0traceRow, .int f_m0traceCount, .ref r_m0startedList, .int f_m0startedCount, .int f_m0present, .int f_m0quantum, .int f_m0stepsDone, .int f_m0turnSteps, .int f_m0turnMost, .int f_m0turnOver, .ref r_m0finder, .ref r_m0names, .int f_m0fault, .int f_m0wanted, .int f_m0thrown])), (mm1, .inr (4, [.ref ww1, .ref r_m1heap, .ref r_m1runs, .ref r_m1counts, .ref r_m1traceRow, .int f_m1traceCount, .ref r_m1startedList, .int f_m1startedCount, .int f_m1present, .int f_m1quantum, .int f_m1stepsDone, .int f_m1turnSteps, .int f_m1turnMost, .int f_m1turnOver, .ref r_m1finder, .ref r_m1names, .int f_m1fault, .int f_m1wanted, .int f_m1thrown])), (mm2, .inr (4, [.ref ww2, .ref r_m2heap, .ref r_m2runs, .ref r_m2counts, .ref r_m2traceRow, .int f_m2traceCount, .ref r_m2startedList, .int f_m2startedCount, .int f_m2present, .int f_m2quantum, .int f_m2stepsDone, .int f_m2turnSteps, .int f_m2turnMost, .int f_m2turnOver, .ref r_m2finder, .ref r_m2names, .int f_m2fault, .int f_m2wanted, .int f_m2thrown])), (ww0, .inr (9, [.ref r_w0names, .int (nI 0), .int (nI 21), .int f_w0wrongClass, .int f_w0wrongMethod, .int f_w0wrongAt, .ref r_w0rows, .ref r_w0above, .ref r_w0fields, .ref r_w0methods, .ref r_w0codes, .ref r_w0handlers, .ref r_w0extra, .ref r_w0orders, .ref r_w0classNamed, .int f_w0breaks, .ref r_w0marks])), (ww1, .inr (9, [.ref r_w1names, .int (nI 0), .int (nI 21), .int f_w1wrongClass, .int f_w1wrongMethod, .int f_w1wrongAt, .ref r_w1rows, .ref r_w1above, .ref r_w1fields, .ref r_w1methods, .ref r_w1codes, .ref r_w1handlers, .ref r_w1extra, .ref r_w1orders, .ref r_w1classNamed, .int f_w1breaks, .ref r_w1marks])), (ww2, .inr (9, [.ref r_w2names, .int (nI 0), .int (nI 21), .int f_w2wrongClass, .int f_w2wrongMethod, .int f_w2wrongAt, .ref r_w2rows, .ref r_w2above, .ref r_w2fields, .ref r_w2methods, .ref r_w2codes, .ref r_w2handlers, .ref r_w2extra, .ref r_w2orders, .ref r_w2classNamed, .int f_w2breaks, .ref r_w2marks])), (h0X, .inr (14, fsX)), (owX, .inl (g 6, 4, .inr (.inr (.inr (.inr (va_up (va_up (va_up (va_up (fun _ => none) 0 (some v0X)) 1 (some v1X)) 2 (some v2X)) 3 (some v3X))))))), (v0X, .inr (13, fw0X)), (v1X, .inr (13, fw1X)), (v2X, .inr (13, fw2X))] H) (hD : va_D A [(h0, .inr (11, [.ref r_cwords, .ref r_creader, .ref r_cchecker, .ref r_cfinder, .ref r_cwriter, .ref r_cmachines, .ref r_ctape, .int (nI 0), .int (-2), .int (nI 60000), .ref r_cstock, .ref r_csizes, .ref r_cmet, .ref r_cfound, .int (nI 0), .ref r_cdraft, .int (nI 0), .int (nI 0), .ref r_cfewestFor, .ref r_cfewestNext])), (r_cmachines, .inl (g 4, 4, .inr (.inr (.inr (.inr (va_up (va_up (va_up (va_up (fun _ => none) 0 (some mm0)) 1 (some mm1)) 2 (some mm2)) 3 (some mm3))))))), (mm0, .inr (4, [.ref ww0, .ref r_m0heap, .ref r_m0runs, .ref r_m0counts, .ref r_m0traceRow, .int f_m0traceCount, .ref r_m0startedList, .int f_m0startedCount, .int f_m0present, .int f_m0quantum, .int f_m0stepsDone, .int f_m0turnSteps, .int f_m0turnMost, .int f_m0turnOver, .ref r_m0finder, .ref r_m0names, .int f_m0fault, .int f_m0wanted, .int f_m0thrown])), (mm1, .inr (4, [.ref ww1, .ref r_m1heap, .ref r_m1runs, .ref r_m1counts, .ref r_m1traceRow, .int f_m1traceCount, .ref r_m1startedList, .int f_m1startedCount, .int f_m1present, .int f_m1quantum, .int f_m1stepsDone, .int f_m1turnSteps, .int f_m1turnMost, .int f_m1turnOver, .ref r_m1finder, .ref r_m1names, .int f_m1fault, .int f_m1wanted, .int f_m1thrown])), (mm2, .inr (4, [.ref ww2, .ref r_m2heap, .ref r_m2runs, .ref r_m2counts, .ref r_m2traceRow, .int f_m2traceCount, .ref r_m2startedList, .int f_m2startedCount, .int f_m2present, .int f_m2quantum, .int f_m2stepsDone, .int f_m2turnSteps, .int f_m2turnMost, .int f_m2turnOver, .ref r_m2finder, .ref r_m2names, .int f_m2fault, .int f_m2wanted, .int f_m2thrown])), (ww0, .inr (9, [.ref r_w0names, .int (nI 0), .int (nI 21), .int f_w0wrongClass, .int f_w0wrongMethod, .int f_w0wrongAt, .ref r_w0rows, .ref r_w0above, .ref r_w0fields, .ref r_w0methods, .ref r_w0codes, .ref r_w0handlers, .ref r_w0extra, .ref r_w0orders, .ref r_w0classNamed, .int f_w0breaks, .ref r_w0marks])), (ww1, .inr (9, [.ref r_w1names, .int (nI 0), .int (nI 21), .int f_w1wrongClass, .int f_w1wrongMethod, .int f_w1wrongAt, .ref r_w1rows, .ref r_w1above, .ref r_w1fields, .ref r_w1methods, .ref r_w1codes, .ref r_w1handlers, .ref r_w1extra, .ref r_w1orders, .ref r_w1classNamed, .int f_w1breaks, .ref r_w1marks])), (ww2, .inr (9, [.ref r_w2names, .int (nI 0), .int (nI 21), .int f_w2wrongClass, .int f_w2wrongMethod, .int f_w2wrongAt, .ref r_w2rows, .ref r_w2above, .ref r_w2fields, .ref r_w2methods, .ref r_w2codes, .ref r_w2handlers, .ref r_w2extra, .ref r_w2orders, .ref r_w2classNamed, .int f_w2breaks, .ref r_w2marks])), (h0X, .inr (14, fsX)), (owX, .inl (g 6, 4, .inr (.inr (.inr (.inr (va_up (va_up (va_up (va_up (fun _ => none) 0 (some v0X)) 1 (some v1X)) 2 (some v2X)) 3 (some v3X))))))), (v0X, .inr (13, fw0X)), (v1X, .inr (13, fw1X)), (v2X, .inr (13, fw2X))]) (hS : va_S A s.heap H locs) (hl : lv_has ls 4 [(0, .ref b), (1, .ref h0), (2, .ref h0X), (3, .int (nI 0))]) : W p l e room_1 s m #[Value.ref b] below meth c H locs 702 488194 (lw_Z below #[Value.ref b] s) (F0 m 673 ls []) := by
  refine lv_aload_n G.1 G.2.1 d_Law_673 rfl (lv_at hl 1 rfl) ?_
  refine lv_aload_n G.1 G.2.1 d_Law_674 rfl (lv_at hl 0 rfl) ?_
  refine lv_iload_n G.1 G.2.1 d_Law_675 rfl (lv_at hl 3 rfl) ?_
  refine lv_iconst (v := nI 1) G.1 G.2.1 d_Law_676 (by decide) ?_
  refine lv_iadd G.1 G.2.1 d_Law_677 ?_
  refine tpi (w := nI 1) (by decide) ?_
  refine va_sld G.1 G.2.1 hX hbl hbA hS (nI_inn (n := 6) (a := 1) (by decide) (by decide)) d_Law_678 ?_
  refine tpi (w := (xs 1)) (by rw [nI_clamp (by decide)]) ?_
  refine lv_aload_n G.1 G.2.1 d_Law_679 rfl (lv_at hl 0 rfl) ?_
  refine lv_iload_n G.1 G.2.1 d_Law_680 rfl (lv_at hl 3 rfl) ?_
  refine lv_iconst (v := nI 2) G.1 G.2.1 d_Law_681 (by decide) ?_
  refine lv_iadd G.1 G.2.1 d_Law_682 ?_
  refine tpi (w := nI 2) (by decide) ?_
  refine va_sld G.1 G.2.1 hX hbl hbA hS (nI_inn (n := 6) (a := 2) (by decide) (by decide)) d_Law_683 ?_
  refine tpi (w := (xs 2)) (by rw [nI_clamp (by decide)]) ?_
  refine W.eq (g2 := F0 m 684 ls [.int (xs 2), .int (xs 1), .ref h0]) rfl ?_
  refine kEi (wr := [(h0X, .inr (14, fsX)), (owX, .inl (g 6, 4, .inr (.inr (.inr (.inr (va_up (va_up (va_up (va_up (fun _ => none) 0 (some v0X)) 1 (some v1X)) 2 (some v2X)) 3 (some v3X))))))), (v0X, .inr (13, fw0X)), (v1X, .inr (13, fw1X)), (v2X, .inr (13, fw2X))]) G (kV (As := [.int (xs 1), .int (xs 2)]) (rest := []) G hP hD hS [0, 1, 2, 3, 4, 5, 6, 7] rfl rfl (c_Cw_quantum l D g h0 (xs 1) (xs 2) r_cwords r_creader r_cchecker r_cfinder r_cwriter r_cmachines r_ctape r_cstock r_csizes r_cmet r_cfound r_cdraft r_cfewestFor r_cfewestNext mm0 mm1 mm2 mm3 ww0 r_m0heap r_m0runs r_m0counts r_m0traceRow f_m0traceCount r_m0startedList f_m0startedCount f_m0present f_m0quantum f_m0stepsDone f_m0turnSteps f_m0turnMost f_m0turnOver r_m0finder r_m0names f_m0fault f_m0wanted f_m0thrown ww1 r_m1heap r_m1runs r_m1counts r_m1traceRow f_m1traceCount r_m1startedList f_m1startedCount f_m1present f_m1quantum f_m1stepsDone f_m1turnSteps f_m1turnMost f_m1turnOver r_m1finder r_m1names f_m1fault f_m1wanted f_m1thrown ww2 r_m2heap r_m2runs r_m2counts r_m2traceRow f_m2traceCount r_m2startedList f_m2startedCount f_m2present f_m2quantum f_m2stepsDone f_m2turnSteps f_m2turnMost f_m2turnOver r_m2finder r_m2names f_m2fault f_m2wanted f_m2thrown r_w0names f_w0wrongClass f_w0wrongMethod f_w0wrongAt r_w0rows r_w0above r_w0fields r_w0methods r_w0codes r_w0handlers r_w0extra r_w0orders r_w0classNamed f_w0breaks r_w0marks r_w1names f_w1wrongClass f_w1wrongMethod f_w1wrongAt r_w1rows r_w1above r_w1fields r_w1methods r_w1codes r_w1handlers r_w1extra r_w1orders r_w1classNamed f_w1breaks r_w1marks r_w2names f_w2wrongClass f_w2wrongMethod f_w2wrongAt r_w2rows r_w2above r_w2fields r_w2methods r_w2codes r_w2handlers r_w2extra r_w2orders r_w2classNamed f_w2breaks r_w2marks H.size ) w_Cw_quantum q1753 rfl rfl ⟨Nat.le_of_ble_eq_true rfl, Nat.le_of_ble_eq_true rfl⟩ (fun _ h => absurd h List.not_mem_nil) 0 (ci := 11) rfl rfl rfl hl.1 rfl (Nat.le_of_ble_eq_true rfl) rfl ⟨Nat.le_of_ble_eq_true rfl, (Nat.le_of_ble_eq_true rfl)⟩ d_Law_684) hP hD hS [0, 1, 2, 3, 4, 5, 6, 7] [8, 9, 10, 11, 12] rfl rfl rfl rfl (fun r_1 u_2 H locs hw hP hD hS hzH => ?_)
  have hw : r_1 = (-1) := hw
  have hP : va_P D CL [(h0X, .inr (14, fsX)), (owX, .inl (g 6, 4, .inr (.inr (.inr (.inr (va_up (va_up (va_up (va_up (fun _ => none) 0 (some v0X)) 1 (some v1X)) 2 (some v2X)) 3 (some v3X))))))), (v0X, .inr (13, fw0X)), (v1X, .inr (13, fw1X)), (v2X, .inr (13, fw2X))] H := hP
  have hD : va_D A [(h0X, .inr (14, fsX)), (owX, .inl (g 6, 4, .inr (.inr (.inr (.inr (va_up (va_up (va_up (va_up (fun _ => none) 0 (some v0X)) 1 (some v1X)) 2 (some v2X)) 3 (some v3X))))))), (v0X, .inr (13, fw0X)), (v1X, .inr (13, fw1X)), (v2X, .inr (13, fw2X))] := hD
  subst hw
  refine tpst (w := [.int (-1)]) rfl ?_
  refine lv_aload_n G.1 G.2.1 d_Law_687 rfl (lv_at hl 2 rfl) ?_
  refine lv_aload_n G.1 G.2.1 d_Law_688 rfl (lv_at hl 0 rfl) ?_
  refine lv_iload_n G.1 G.2.1 d_Law_689 rfl (lv_at hl 3 rfl) ?_
  refine lv_iconst (v := nI 1) G.1 G.2.1 d_Law_690 (by decide) ?_
  refine lv_iadd G.1 G.2.1 d_Law_691 ?_
  refine tpi (w := nI 1) (by decide) ?_
  refine va_sld G.1 G.2.1 hX hbl hbA hS (nI_inn (n := 6) (a := 1) (by decide) (by decide)) d_Law_692 ?_
  refine tpi (w := (xs 1)) (by rw [nI_clamp (by decide)]) ?_
  refine lv_aload_n G.1 G.2.1 d_Law_693 rfl (lv_at hl 0 rfl) ?_
  refine lv_iload_n G.1 G.2.1 d_Law_694 rfl (lv_at hl 3 rfl) ?_
  refine lv_iconst (v := nI 2) G.1 G.2.1 d_Law_695 (by decide) ?_
  refine lv_iadd G.1 G.2.1 d_Law_696 ?_
  refine tpi (w := nI 2) (by decide) ?_
  refine va_sld G.1 G.2.1 hX hbl hbA hS (nI_inn (n := 6) (a := 2) (by decide) (by decide)) d_Law_697 ?_
  refine tpi (w := (xs 2)) (by rw [nI_clamp (by decide)]) ?_
  refine W.eq (g2 := F0 m 698 ls [.int (xs 2), .int (xs 1), .ref h0X, .int (-1)]) rfl ?_
  refine kEi (wr := []) G (kV (As := [.int (xs 1), .int (xs 2)]) (rest := [.int (-1)]) G hP hD hS [0, 1, 2, 3, 4] rfl rfl (c_Mo_quantum l D g h0X (xs 1) (xs 2) fsX owX v0X v1X v2X v3X fw0X fw1X fw2X H.size glenX gk0X gw0X gt0X gw1X gt1X gw2X gt2X) w_Mo_quantum q3814 rfl rfl ⟨Nat.le_of_ble_eq_true rfl, Nat.le_of_ble_eq_true rfl⟩ (fun _ h => absurd h List.not_mem_nil) 0 (ci := 14) rfl rfl rfl hl.1 rfl (Nat.le_of_ble_eq_true rfl) rfl ⟨Nat.le_of_ble_eq_true rfl, (Nat.le_of_ble_eq_true rfl)⟩ d_Law_698) hP hD hS [0, 1, 2, 3, 4] [] rfl rfl rfl rfl (fun r_3 u_4 H locs hw hP hD hS hzH => ?_)
  have hw : r_3 = (-1) := hw
  have hP : va_P D CL [] H := hP
  have hD : va_D A [] := hD
  subst hw
  refine tpst (w := [.int (-1), .int (-1)]) rfl ?_
  refine lv_icmp_eq (tgt := 1768) G.1 G.2.1 d_Law_701 (by decide) (fun c701 => ?_) (fun c701 => absurd c701 (fun h => h rfl))
  refine lv_iinc (v := nI 6) (lv' := [(3, .int (nI 6)), (0, .ref b), (1, .ref h0), (2, .ref h0X)]) G.1 G.2.1 d_Law_1768 hl (k := 3) rfl (show (nI 0) + Int32.ofInt 6 = nI 6 from by decide) (by decide) rfl (fun ls hl => ?_)
  refine lv_goto (tgt := 18) G.1 G.2.1 d_Law_1771 (by decide) ?_
  refine lv_iload_n G.1 G.2.1 d_Law_18 rfl (lv_at hl 0 rfl) ?_
  refine lv_aload_n G.1 G.2.1 d_Law_19 rfl (lv_at hl 1 rfl) ?_
  refine va_slen G.1 G.2.1 hX hbl hbA hS d_Law_20 ?_
  refine tpi (w := nI 6) rfl ?_
  refine lv_bipush (v := nI 6) G.1 G.2.1 d_Law_21 (by decide) ?_
  refine lv_isub G.1 G.2.1 d_Law_23 ?_
  refine tpi (w := nI 0) (by decide) ?_
  refine lv_icmp_gt (tgt := 1774) G.1 G.2.1 d_Law_24 (by decide) (fun c24 => ?_) (fun c24 => absurd c24 (by decide))
  refine lv_iconst (v := nI 1) G.1 G.2.1 d_Law_1774 (by decide) ?_
  refine va_forget (fun q hq => hAA _ (hS.2.2 q hq)) ?_
  refine W.widen (k := 600002) (n := 7302232) (Nat.le_of_ble_eq_true rfl) (Nat.le_of_ble_eq_true rfl) ?_
  exact lw_ret G.1 G.2.1 G.2.2.2.1 G.2.2.2.2.1 d_Law_1775
theorem q1760 : Cond.code y_Cw_halt b_Cw_halt 3 (some .int) ∈ lw_ok := lw_okmem (List.mem_of_getElem? (i := 1760) (by decide +kernel)) rfl
theorem q1758 : Cond.instanceMethod y_Cw_halt ∈ lw_ok := lw_okmem (List.mem_of_getElem? (i := 1758) (by decide +kernel)) rfl
theorem q1759 : Cond.selects y_Cw_halt.cls y_Cw_halt y_Cw_halt ∈ lw_ok := lw_okmem (List.mem_of_getElem? (i := 1759) (by decide +kernel)) rfl
theorem w_Cw_halt : CWv y_Cw_halt b_Cw_halt 3 (some .int) 1 ∧ Cond.instanceMethod y_Cw_halt ∈ lw_ok ∧ Cond.selects y_Cw_halt.cls y_Cw_halt y_Cw_halt ∈ lw_ok := ⟨⟨q1760, q329, by decide +kernel, by decide +kernel, by decide +kernel⟩, q1758, q1759⟩
theorem q1757 : Cond.methodLink "ClassWorksLaw" 75 y_Cw_halt ∈ lw_ok := lw_okmem (List.mem_of_getElem? (i := 1757) (by decide +kernel)) rfl
theorem q3821 : Cond.code y_Mo_halt b_Mo_halt 4 (some .int) ∈ lw_ok := lw_okmem (List.mem_of_getElem? (i := 3821) (by decide +kernel)) rfl
theorem q3819 : Cond.instanceMethod y_Mo_halt ∈ lw_ok := lw_okmem (List.mem_of_getElem? (i := 3819) (by decide +kernel)) rfl
theorem q3820 : Cond.selects y_Mo_halt.cls y_Mo_halt y_Mo_halt ∈ lw_ok := lw_okmem (List.mem_of_getElem? (i := 3820) (by decide +kernel)) rfl
theorem w_Mo_halt : CWv y_Mo_halt b_Mo_halt 4 (some .int) 1 ∧ Cond.instanceMethod y_Mo_halt ∈ lw_ok ∧ Cond.selects y_Mo_halt.cls y_Mo_halt y_Mo_halt ∈ lw_ok := ⟨⟨q3821, q348, by decide +kernel, by decide +kernel, by decide +kernel⟩, q3819, q3820⟩
theorem q3818 : Cond.methodLink "ClassWorksLaw" 78 y_Mo_halt ∈ lw_ok := lw_okmem (List.mem_of_getElem? (i := 3818) (by decide +kernel)) rfl
theorem d_Law_706 : decode code 706 = .ok (.aload_n 1, 1) := by decide +kernel
theorem d_Law_707 : decode code 707 = .ok (.aload_n 0, 1) := by decide +kernel
theorem d_Law_708 : decode code 708 = .ok (.iload_n 3, 1) := by decide +kernel
theorem d_Law_709 : decode code 709 = .ok (.iconst 1, 1) := by decide +kernel
theorem d_Law_710 : decode code 710 = .ok (.iadd, 1) := by decide +kernel
theorem d_Law_711 : decode code 711 = .ok (.iaload, 1) := by decide +kernel
theorem d_Law_712 : decode code 712 = .ok (.invokevirtual 75, 3) := by decide +kernel
theorem d_Law_715 : decode code 715 = .ok (.aload_n 2, 1) := by decide +kernel
theorem d_Law_716 : decode code 716 = .ok (.aload_n 0, 1) := by decide +kernel
theorem d_Law_717 : decode code 717 = .ok (.iload_n 3, 1) := by decide +kernel
theorem d_Law_718 : decode code 718 = .ok (.iconst 1, 1) := by decide +kernel
theorem d_Law_719 : decode code 719 = .ok (.iadd, 1) := by decide +kernel
theorem d_Law_720 : decode code 720 = .ok (.iaload, 1) := by decide +kernel
theorem d_Law_721 : decode code 721 = .ok (.invokevirtual 78, 3) := by decide +kernel
theorem d_Law_724 : decode code 724 = .ok (.if_icmp .eq 1044, 3) := by decide +kernel
set_option maxHeartbeats 4000000 in
set_option maxRecDepth 100000 in
theorem law_halt {p : Program} {e : Env} {s : State} {m : MethodId} {below : List Frame} {meth : Method} {c : Code} {l : Launch} {D : va_G} {g : Nat → ClassId} {sl : List SL} {b : Nat} {xs : Nat → Int32} {A : Nat → Prop} (h0 : Nat) (r_cwords : Nat) (r_creader : Nat) (r_cchecker : Nat) (r_cfinder : Nat) (r_cwriter : Nat) (r_cmachines : Nat) (r_ctape : Nat) (r_cstock : Nat) (r_csizes : Nat) (r_cmet : Nat) (r_cfound : Nat) (r_cdraft : Nat) (r_cfewestFor : Nat) (r_cfewestNext : Nat) (mm0 : Nat) (mm1 : Nat) (mm2 : Nat) (mm3 : Nat) (ww0 : Nat) (r_m0heap : Nat) (r_m0runs : Nat) (r_m0counts : Nat) (r_m0traceRow : Nat) (f_m0traceCount : Int32) (r_m0startedList : Nat) (f_m0startedCount : Int32) (f_m0present : Int32) (f_m0quantum : Int32) (f_m0stepsDone : Int32) (f_m0turnSteps : Int32) (f_m0turnMost : Int32) (f_m0turnOver : Int32) (r_m0finder : Nat) (r_m0names : Nat) (f_m0fault : Int32) (f_m0wanted : Int32) (f_m0thrown : Int32) (ww1 : Nat) (r_m1heap : Nat) (r_m1runs : Nat) (r_m1counts : Nat) (r_m1traceRow : Nat) (f_m1traceCount : Int32) (r_m1startedList : Nat) (f_m1startedCount : Int32) (f_m1present : Int32) (f_m1quantum : Int32) (f_m1stepsDone : Int32) (f_m1turnSteps : Int32) (f_m1turnMost : Int32) (f_m1turnOver : Int32) (r_m1finder : Nat) (r_m1names : Nat) (f_m1fault : Int32) (f_m1wanted : Int32) (f_m1thrown : Int32) (ww2 : Nat) (r_m2heap : Nat) (r_m2runs : Nat) (r_m2counts : Nat) (r_m2traceRow : Nat) (f_m2traceCount : Int32) (r_m2startedList : Nat) (f_m2startedCount : Int32) (f_m2present : Int32) (f_m2quantum : Int32) (f_m2stepsDone : Int32) (f_m2turnSteps : Int32) (f_m2turnMost : Int32) (f_m2turnOver : Int32) (r_m2finder : Nat) (r_m2names : Nat) (f_m2fault : Int32) (f_m2wanted : Int32) (f_m2thrown : Int32) (r_w0names : Nat) (f_w0wrongClass : Int32) (f_w0wrongMethod : Int32) (f_w0wrongAt : Int32) (r_w0rows : Nat) (r_w0above : Nat) (r_w0fields : Nat) (r_w0methods : Nat) (r_w0codes : Nat) (r_w0handlers : Nat) (r_w0extra : Nat) (r_w0orders : Nat) (r_w0classNamed : Nat) (f_w0breaks : Int32) (r_w0marks : Nat) (r_w1names : Nat) (f_w1wrongClass : Int32) (f_w1wrongMethod : Int32) (f_w1wrongAt : Int32) (r_w1rows : Nat) (r_w1above : Nat) (r_w1fields : Nat) (r_w1methods : Nat) (r_w1codes : Nat) (r_w1handlers : Nat) (r_w1extra : Nat) (r_w1orders : Nat) (r_w1classNamed : Nat) (f_w1breaks : Int32) (r_w1marks : Nat) (r_w2names : Nat) (f_w2wrongClass : Int32) (f_w2wrongMethod : Int32) (f_w2wrongAt : Int32) (r_w2rows : Nat) (r_w2above : Nat) (r_w2fields : Nat) (r_w2methods : Nat) (r_w2codes : Nat) (r_w2handlers : Nat) (r_w2extra : Nat) (r_w2orders : Nat) (r_w2classNamed : Nat) (f_w2breaks : Int32) (r_w2marks : Nat) (h0X : Nat) (fsX : List Value) (owX : Nat) (v0X : Nat) (v1X : Nat) (v2X : Nat) (v3X : Nat) (fw0X : List Value) (fw1X : List Value) (fw2X : List Value) (G : GV l p s m #[Value.ref b] meth c (⟨"ClassWorksLaw", meth.name, ""⟩ : MethodName) code 4 ret g D sl A) (hX : va_X b 6 xs s s.heap) (hbl : b < s.heap.size) (hbA : ¬ A b) (hAA : ∀ q, A q → s.heap.size ≤ q) {H : Heap} {locs : List Loc} {ls : Array Slot} (glenX : fsX.length = 131) (gk0X : fsX[44]? = some (.ref owX)) (gw0X : fw0X.length = 72) (gt0X : fw0X[0]? = some (.int (nI 0))) (gw1X : fw1X.length = 72) (gt1X : fw1X[0]? = some (.int (nI 0))) (gw2X : fw2X.length = 72) (gt2X : fw2X[0]? = some (.int (nI 0))) (hP : va_P D CL [(h0, .inr (11, [.ref r_cwords, .ref r_creader, .ref r_cchecker, .ref r_cfinder, .ref r_cwriter, .ref r_cmachines, .ref r_ctape, .int (nI 0), .int (-2), .int (nI 60000), .ref r_cstock, .ref r_csizes, .ref r_cmet, .ref r_cfound, .int (nI 0), .ref r_cdraft, .int (nI 0), .int (nI 0), .ref r_cfewestFor, .ref r_cfewestNext])), (r_cmachines, .inl (g 4, 4, .inr (.inr (.inr (.inr (va_up (va_up (va_up (va_up (fun _ => none) 0 (some mm0)) 1 (some mm1)) 2 (some mm2)) 3 (some mm3))))))), (mm0, .inr (4, [.ref ww0, .ref r_m0heap, .ref r_m0runs, .ref r_m0counts, .ref r_m0traceRow, .int f_m0traceCount, .ref r_m0startedList, .int f_m0startedCount, .int f_m0present, .int f_m0quantum, .int f_m0stepsDone, .int f_m0turnSteps, .int f_m0turnMost, .int f_m0turnOver, .ref r_m0finder, .ref r_m0names, .int f_m0fault, .int f_m0wanted, .int f_m0thrown])), (mm1, .inr (4, [.ref ww1, .ref r_m1heap, .ref r_m1runs, .ref r_m1counts, .ref r_m1traceRow, .int f_m1traceCount, .ref r_m1startedList, .int f_m1startedCount, .int f_m1present, .int f_m1quantum, .int f_m1stepsDone, .int f_m1turnSteps, .int f_m1turnMost, .int f_m1turnOver, .ref r_m1finder, .ref r_m1names, .int f_m1fault, .int f_m1wanted, .int f_m1thrown])), (mm2, .inr (4, [.ref ww2, .ref r_m2heap, .ref r_m2runs, .ref r_m2counts, .ref r_m2traceRow, .int f_m2traceCount, .ref r_m2startedList, .int f_m2startedCount, .int f_m2present, .int f_m2quantum, .int f_m2stepsDone, .int f_m2turnSteps, .int f_m2turnMost, .int f_m2turnOver, .ref r_m2finder, .ref r_m2names, .int f_m2fault, .int f_m2wanted, .int f_m2thrown])), (ww0, .inr (9, [.ref r_w0names, .int (nI 0), .int (nI 21), .int f_w0wrongClass, .int f_w0wrongMethod, .int f_w0wrongAt, .ref r_w0rows, .ref r_w0above, .ref r_w0fields, .ref r_w0methods, .ref r_w0codes, .ref r_w0handlers, .ref r_w0extra, .ref r_w0orders, .ref r_w0classNamed, .int f_w0breaks, .ref r_w0marks])), (ww1, .inr (9, [.ref r_w1names, .int (nI 0), .int (nI 21), .int f_w1wrongClass, .int f_w1wrongMethod, .int f_w1wrongAt, .ref r_w1rows, .ref r_w1above, .ref r_w1fields, .ref r_w1methods, .ref r_w1codes, .ref r_w1handlers, .ref r_w1extra, .ref r_w1orders, .ref r_w1classNamed, .int f_w1breaks, .ref r_w1marks])), (ww2, .inr (9, [.ref r_w2names, .int (nI 0), .int (nI 21), .int f_w2wrongClass, .int f_w2wrongMethod, .int f_w2wrongAt, .ref r_w2rows, .ref r_w2above, .ref r_w2fields, .ref r_w2methods, .ref r_w2codes, .ref r_w2handlers, .ref r_w2extra, .ref r_w2orders, .ref r_w2classNamed, .int f_w2breaks, .ref r_w2marks])), (h0X, .inr (14, fsX)), (owX, .inl (g 6, 4, .inr (.inr (.inr (.inr (va_up (va_up (va_up (va_up (fun _ => none) 0 (some v0X)) 1 (some v1X)) 2 (some v2X)) 3 (some v3X))))))), (v0X, .inr (13, fw0X)), (v1X, .inr (13, fw1X)), (v2X, .inr (13, fw2X))] H) (hD : va_D A [(h0, .inr (11, [.ref r_cwords, .ref r_creader, .ref r_cchecker, .ref r_cfinder, .ref r_cwriter, .ref r_cmachines, .ref r_ctape, .int (nI 0), .int (-2), .int (nI 60000), .ref r_cstock, .ref r_csizes, .ref r_cmet, .ref r_cfound, .int (nI 0), .ref r_cdraft, .int (nI 0), .int (nI 0), .ref r_cfewestFor, .ref r_cfewestNext])), (r_cmachines, .inl (g 4, 4, .inr (.inr (.inr (.inr (va_up (va_up (va_up (va_up (fun _ => none) 0 (some mm0)) 1 (some mm1)) 2 (some mm2)) 3 (some mm3))))))), (mm0, .inr (4, [.ref ww0, .ref r_m0heap, .ref r_m0runs, .ref r_m0counts, .ref r_m0traceRow, .int f_m0traceCount, .ref r_m0startedList, .int f_m0startedCount, .int f_m0present, .int f_m0quantum, .int f_m0stepsDone, .int f_m0turnSteps, .int f_m0turnMost, .int f_m0turnOver, .ref r_m0finder, .ref r_m0names, .int f_m0fault, .int f_m0wanted, .int f_m0thrown])), (mm1, .inr (4, [.ref ww1, .ref r_m1heap, .ref r_m1runs, .ref r_m1counts, .ref r_m1traceRow, .int f_m1traceCount, .ref r_m1startedList, .int f_m1startedCount, .int f_m1present, .int f_m1quantum, .int f_m1stepsDone, .int f_m1turnSteps, .int f_m1turnMost, .int f_m1turnOver, .ref r_m1finder, .ref r_m1names, .int f_m1fault, .int f_m1wanted, .int f_m1thrown])), (mm2, .inr (4, [.ref ww2, .ref r_m2heap, .ref r_m2runs, .ref r_m2counts, .ref r_m2traceRow, .int f_m2traceCount, .ref r_m2startedList, .int f_m2startedCount, .int f_m2present, .int f_m2quantum, .int f_m2stepsDone, .int f_m2turnSteps, .int f_m2turnMost, .int f_m2turnOver, .ref r_m2finder, .ref r_m2names, .int f_m2fault, .int f_m2wanted, .int f_m2thrown])), (ww0, .inr (9, [.ref r_w0names, .int (nI 0), .int (nI 21), .int f_w0wrongClass, .int f_w0wrongMethod, .int f_w0wrongAt, .ref r_w0rows, .ref r_w0above, .ref r_w0fields, .ref r_w0methods, .ref r_w0codes, .ref r_w0handlers, .ref r_w0extra, .ref r_w0orders, .ref r_w0classNamed, .int f_w0breaks, .ref r_w0marks])), (ww1, .inr (9, [.ref r_w1names, .int (nI 0), .int (nI 21), .int f_w1wrongClass, .int f_w1wrongMethod, .int f_w1wrongAt, .ref r_w1rows, .ref r_w1above, .ref r_w1fields, .ref r_w1methods, .ref r_w1codes, .ref r_w1handlers, .ref r_w1extra, .ref r_w1orders, .ref r_w1classNamed, .int f_w1breaks, .ref r_w1marks])), (ww2, .inr (9, [.ref r_w2names, .int (nI 0), .int (nI 21), .int f_w2wrongClass, .int f_w2wrongMethod, .int f_w2wrongAt, .ref r_w2rows, .ref r_w2above, .ref r_w2fields, .ref r_w2methods, .ref r_w2codes, .ref r_w2handlers, .ref r_w2extra, .ref r_w2orders, .ref r_w2classNamed, .int f_w2breaks, .ref r_w2marks])), (h0X, .inr (14, fsX)), (owX, .inl (g 6, 4, .inr (.inr (.inr (.inr (va_up (va_up (va_up (va_up (fun _ => none) 0 (some v0X)) 1 (some v1X)) 2 (some v2X)) 3 (some v3X))))))), (v0X, .inr (13, fw0X)), (v1X, .inr (13, fw1X)), (v2X, .inr (13, fw2X))]) (hS : va_S A s.heap H locs) (hl : lv_has ls 4 [(0, .ref b), (1, .ref h0), (2, .ref h0X), (3, .int (nI 0))]) : W p l e room_1 s m #[Value.ref b] below meth c H locs 702 488194 (lw_Z below #[Value.ref b] s) (F0 m 706 ls []) := by
  refine lv_aload_n G.1 G.2.1 d_Law_706 rfl (lv_at hl 1 rfl) ?_
  refine lv_aload_n G.1 G.2.1 d_Law_707 rfl (lv_at hl 0 rfl) ?_
  refine lv_iload_n G.1 G.2.1 d_Law_708 rfl (lv_at hl 3 rfl) ?_
  refine lv_iconst (v := nI 1) G.1 G.2.1 d_Law_709 (by decide) ?_
  refine lv_iadd G.1 G.2.1 d_Law_710 ?_
  refine tpi (w := nI 1) (by decide) ?_
  refine va_sld G.1 G.2.1 hX hbl hbA hS (nI_inn (n := 6) (a := 1) (by decide) (by decide)) d_Law_711 ?_
  refine tpi (w := (xs 1)) (by rw [nI_clamp (by decide)]) ?_
  refine kEi (wr := [(h0X, .inr (14, fsX)), (owX, .inl (g 6, 4, .inr (.inr (.inr (.inr (va_up (va_up (va_up (va_up (fun _ => none) 0 (some v0X)) 1 (some v1X)) 2 (some v2X)) 3 (some v3X))))))), (v0X, .inr (13, fw0X)), (v1X, .inr (13, fw1X)), (v2X, .inr (13, fw2X))]) G (kV (As := [.int (xs 1)]) (rest := []) G hP hD hS [0, 1, 2, 3, 4, 5, 6, 7] rfl rfl (c_Cw_halt l D g h0 (xs 1) r_cwords r_creader r_cchecker r_cfinder r_cwriter r_cmachines r_ctape r_cstock r_csizes r_cmet r_cfound r_cdraft r_cfewestFor r_cfewestNext mm0 mm1 mm2 mm3 ww0 r_m0heap r_m0runs r_m0counts r_m0traceRow f_m0traceCount r_m0startedList f_m0startedCount f_m0present f_m0quantum f_m0stepsDone f_m0turnSteps f_m0turnMost f_m0turnOver r_m0finder r_m0names f_m0fault f_m0wanted f_m0thrown ww1 r_m1heap r_m1runs r_m1counts r_m1traceRow f_m1traceCount r_m1startedList f_m1startedCount f_m1present f_m1quantum f_m1stepsDone f_m1turnSteps f_m1turnMost f_m1turnOver r_m1finder r_m1names f_m1fault f_m1wanted f_m1thrown ww2 r_m2heap r_m2runs r_m2counts r_m2traceRow f_m2traceCount r_m2startedList f_m2startedCount f_m2present f_m2quantum f_m2stepsDone f_m2turnSteps f_m2turnMost f_m2turnOver r_m2finder r_m2names f_m2fault f_m2wanted f_m2thrown r_w0names f_w0wrongClass f_w0wrongMethod f_w0wrongAt r_w0rows r_w0above r_w0fields r_w0methods r_w0codes r_w0handlers r_w0extra r_w0orders r_w0classNamed f_w0breaks r_w0marks r_w1names f_w1wrongClass f_w1wrongMethod f_w1wrongAt r_w1rows r_w1above r_w1fields r_w1methods r_w1codes r_w1handlers r_w1extra r_w1orders r_w1classNamed f_w1breaks r_w1marks r_w2names f_w2wrongClass f_w2wrongMethod f_w2wrongAt r_w2rows r_w2above r_w2fields r_w2methods r_w2codes r_w2handlers r_w2extra r_w2orders r_w2classNamed f_w2breaks r_w2marks H.size ) w_Cw_halt q1757 rfl rfl ⟨Nat.le_of_ble_eq_true rfl, Nat.le_of_ble_eq_true rfl⟩ (fun _ h => absurd h List.not_mem_nil) 0 (ci := 11) rfl rfl rfl hl.1 rfl (Nat.le_of_ble_eq_true rfl) rfl ⟨Nat.le_of_ble_eq_true rfl, (Nat.le_of_ble_eq_true rfl)⟩ d_Law_712) hP hD hS [0, 1, 2, 3, 4, 5, 6, 7] [8, 9, 10, 11, 12] rfl rfl rfl rfl (fun r_1 u_2 H locs hw hP hD hS hzH => ?_)
  have hw : r_1 = (-1) := hw
  have hP : va_P D CL [(h0X, .inr (14, fsX)), (owX, .inl (g 6, 4, .inr (.inr (.inr (.inr (va_up (va_up (va_up (va_up (fun _ => none) 0 (some v0X)) 1 (some v1X)) 2 (some v2X)) 3 (some v3X))))))), (v0X, .inr (13, fw0X)), (v1X, .inr (13, fw1X)), (v2X, .inr (13, fw2X))] H := hP
  have hD : va_D A [(h0X, .inr (14, fsX)), (owX, .inl (g 6, 4, .inr (.inr (.inr (.inr (va_up (va_up (va_up (va_up (fun _ => none) 0 (some v0X)) 1 (some v1X)) 2 (some v2X)) 3 (some v3X))))))), (v0X, .inr (13, fw0X)), (v1X, .inr (13, fw1X)), (v2X, .inr (13, fw2X))] := hD
  subst hw
  refine tpst (w := [.int (-1)]) rfl ?_
  refine lv_aload_n G.1 G.2.1 d_Law_715 rfl (lv_at hl 2 rfl) ?_
  refine lv_aload_n G.1 G.2.1 d_Law_716 rfl (lv_at hl 0 rfl) ?_
  refine lv_iload_n G.1 G.2.1 d_Law_717 rfl (lv_at hl 3 rfl) ?_
  refine lv_iconst (v := nI 1) G.1 G.2.1 d_Law_718 (by decide) ?_
  refine W.eq (g2 := F0 m 719 ls [.int (nI 1), .int (nI 0), .ref b, .ref h0X, .int (-1)]) rfl ?_
  refine lv_iadd G.1 G.2.1 d_Law_719 ?_
  refine tpi (w := nI 1) (by decide) ?_
  refine va_sld G.1 G.2.1 hX hbl hbA hS (nI_inn (n := 6) (a := 1) (by decide) (by decide)) d_Law_720 ?_
  refine tpi (w := (xs 1)) (by rw [nI_clamp (by decide)]) ?_
  refine kEi (wr := []) G (kV (As := [.int (xs 1)]) (rest := [.int (-1)]) G hP hD hS [0, 1, 2, 3, 4] rfl rfl (c_Mo_halt l D g h0X (xs 1) fsX owX v0X v1X v2X v3X fw0X fw1X fw2X H.size glenX gk0X gw0X gt0X gw1X gt1X gw2X gt2X) w_Mo_halt q3818 rfl rfl ⟨Nat.le_of_ble_eq_true rfl, Nat.le_of_ble_eq_true rfl⟩ (fun _ h => absurd h List.not_mem_nil) 0 (ci := 14) rfl rfl rfl hl.1 rfl (Nat.le_of_ble_eq_true rfl) rfl ⟨Nat.le_of_ble_eq_true rfl, (Nat.le_of_ble_eq_true rfl)⟩ d_Law_721) hP hD hS [0, 1, 2, 3, 4] [] rfl rfl rfl rfl (fun r_3 u_4 H locs hw hP hD hS hzH => ?_)
  have hw : r_3 = (-1) := hw
  have hP : va_P D CL [] H := hP
  have hD : va_D A [] := hD
  subst hw
  refine tpst (w := [.int (-1), .int (-1)]) rfl ?_
  refine lv_icmp_eq (tgt := 1768) G.1 G.2.1 d_Law_724 (by decide) (fun c724 => ?_) (fun c724 => absurd c724 (fun h => h rfl))
  refine lv_iinc (v := nI 6) (lv' := [(3, .int (nI 6)), (0, .ref b), (1, .ref h0), (2, .ref h0X)]) G.1 G.2.1 d_Law_1768 hl (k := 3) rfl (show (nI 0) + Int32.ofInt 6 = nI 6 from by decide) (by decide) rfl (fun ls hl => ?_)
  refine lv_goto (tgt := 18) G.1 G.2.1 d_Law_1771 (by decide) ?_
  refine lv_iload_n G.1 G.2.1 d_Law_18 rfl (lv_at hl 0 rfl) ?_
  refine lv_aload_n G.1 G.2.1 d_Law_19 rfl (lv_at hl 1 rfl) ?_
  refine va_slen G.1 G.2.1 hX hbl hbA hS d_Law_20 ?_
  refine tpi (w := nI 6) rfl ?_
  refine lv_bipush (v := nI 6) G.1 G.2.1 d_Law_21 (by decide) ?_
  refine lv_isub G.1 G.2.1 d_Law_23 ?_
  refine tpi (w := nI 0) (by decide) ?_
  refine lv_icmp_gt (tgt := 1774) G.1 G.2.1 d_Law_24 (by decide) (fun c24 => ?_) (fun c24 => absurd c24 (by decide))
  refine W.eq (g2 := F0 m 1774 ls []) rfl ?_
  refine lv_iconst (v := nI 1) G.1 G.2.1 d_Law_1774 (by decide) ?_
  refine va_forget (fun q hq => hAA _ (hS.2.2 q hq)) ?_
  refine W.widen (k := 600002) (n := 7302232) (Nat.le_of_ble_eq_true rfl) (Nat.le_of_ble_eq_true rfl) ?_
  exact lw_ret G.1 G.2.1 G.2.2.2.1 G.2.2.2.2.1 d_Law_1775
theorem q1778 : Cond.code y_Cw_step b_Cw_step 5 (some .int) ∈ lw_ok := lw_okmem (List.mem_of_getElem? (i := 1778) (by decide +kernel)) rfl
theorem q1776 : Cond.instanceMethod y_Cw_step ∈ lw_ok := lw_okmem (List.mem_of_getElem? (i := 1776) (by decide +kernel)) rfl
theorem q1777 : Cond.selects y_Cw_step.cls y_Cw_step y_Cw_step ∈ lw_ok := lw_okmem (List.mem_of_getElem? (i := 1777) (by decide +kernel)) rfl
theorem w_Cw_step : CWv y_Cw_step b_Cw_step 5 (some .int) 2 ∧ Cond.instanceMethod y_Cw_step ∈ lw_ok ∧ Cond.selects y_Cw_step.cls y_Cw_step y_Cw_step ∈ lw_ok := ⟨⟨q1778, q329, by decide +kernel, by decide +kernel, by decide +kernel⟩, q1776, q1777⟩
theorem q1775 : Cond.methodLink "ClassWorksLaw" 79 y_Cw_step ∈ lw_ok := lw_okmem (List.mem_of_getElem? (i := 1775) (by decide +kernel)) rfl
theorem q3825 : Cond.code y_Mo_step b_Mo_step 4 (some .int) ∈ lw_ok := lw_okmem (List.mem_of_getElem? (i := 3825) (by decide +kernel)) rfl
theorem q3823 : Cond.instanceMethod y_Mo_step ∈ lw_ok := lw_okmem (List.mem_of_getElem? (i := 3823) (by decide +kernel)) rfl
theorem q3824 : Cond.selects y_Mo_step.cls y_Mo_step y_Mo_step ∈ lw_ok := lw_okmem (List.mem_of_getElem? (i := 3824) (by decide +kernel)) rfl
theorem w_Mo_step : CWv y_Mo_step b_Mo_step 4 (some .int) 2 ∧ Cond.instanceMethod y_Mo_step ∈ lw_ok ∧ Cond.selects y_Mo_step.cls y_Mo_step y_Mo_step ∈ lw_ok := ⟨⟨q3825, q348, by decide +kernel, by decide +kernel, by decide +kernel⟩, q3823, q3824⟩
theorem q3822 : Cond.methodLink "ClassWorksLaw" 82 y_Mo_step ∈ lw_ok := lw_okmem (List.mem_of_getElem? (i := 3822) (by decide +kernel)) rfl
theorem d_Law_729 : decode code 729 = .ok (.aload_n 1, 1) := by decide +kernel
theorem d_Law_730 : decode code 730 = .ok (.aload_n 0, 1) := by decide +kernel
theorem d_Law_731 : decode code 731 = .ok (.iload_n 3, 1) := by decide +kernel
theorem d_Law_732 : decode code 732 = .ok (.iconst 1, 1) := by decide +kernel
theorem d_Law_733 : decode code 733 = .ok (.iadd, 1) := by decide +kernel
theorem d_Law_734 : decode code 734 = .ok (.iaload, 1) := by decide +kernel
theorem d_Law_735 : decode code 735 = .ok (.aload_n 0, 1) := by decide +kernel
theorem d_Law_736 : decode code 736 = .ok (.iload_n 3, 1) := by decide +kernel
theorem d_Law_737 : decode code 737 = .ok (.iconst 2, 1) := by decide +kernel
theorem d_Law_738 : decode code 738 = .ok (.iadd, 1) := by decide +kernel
theorem d_Law_739 : decode code 739 = .ok (.iaload, 1) := by decide +kernel
theorem d_Law_740 : decode code 740 = .ok (.invokevirtual 79, 3) := by decide +kernel
theorem d_Law_743 : decode code 743 = .ok (.aload_n 2, 1) := by decide +kernel
theorem d_Law_744 : decode code 744 = .ok (.aload_n 0, 1) := by decide +kernel
theorem d_Law_745 : decode code 745 = .ok (.iload_n 3, 1) := by decide +kernel
theorem d_Law_746 : decode code 746 = .ok (.iconst 1, 1) := by decide +kernel
theorem d_Law_747 : decode code 747 = .ok (.iadd, 1) := by decide +kernel
theorem d_Law_748 : decode code 748 = .ok (.iaload, 1) := by decide +kernel
theorem d_Law_749 : decode code 749 = .ok (.aload_n 0, 1) := by decide +kernel
theorem d_Law_750 : decode code 750 = .ok (.iload_n 3, 1) := by decide +kernel
theorem d_Law_751 : decode code 751 = .ok (.iconst 2, 1) := by decide +kernel
theorem d_Law_752 : decode code 752 = .ok (.iadd, 1) := by decide +kernel
theorem d_Law_753 : decode code 753 = .ok (.iaload, 1) := by decide +kernel
theorem d_Law_754 : decode code 754 = .ok (.invokevirtual 82, 3) := by decide +kernel
theorem d_Law_757 : decode code 757 = .ok (.if_icmp .eq 1011, 3) := by decide +kernel
set_option maxHeartbeats 4000000 in
set_option maxRecDepth 100000 in
theorem law_step {p : Program} {e : Env} {s : State} {m : MethodId} {below : List Frame} {meth : Method} {c : Code} {l : Launch} {D : va_G} {g : Nat → ClassId} {sl : List SL} {b : Nat} {xs : Nat → Int32} {A : Nat → Prop} (h0 : Nat) (r_cwords : Nat) (r_creader : Nat) (r_cchecker : Nat) (r_cfinder : Nat) (r_cwriter : Nat) (r_cmachines : Nat) (r_ctape : Nat) (r_cstock : Nat) (r_csizes : Nat) (r_cmet : Nat) (r_cfound : Nat) (r_cdraft : Nat) (r_cfewestFor : Nat) (r_cfewestNext : Nat) (mm0 : Nat) (mm1 : Nat) (mm2 : Nat) (mm3 : Nat) (ww0 : Nat) (r_m0heap : Nat) (r_m0runs : Nat) (r_m0counts : Nat) (r_m0traceRow : Nat) (f_m0traceCount : Int32) (r_m0startedList : Nat) (f_m0startedCount : Int32) (f_m0present : Int32) (f_m0quantum : Int32) (f_m0stepsDone : Int32) (f_m0turnSteps : Int32) (f_m0turnMost : Int32) (f_m0turnOver : Int32) (r_m0finder : Nat) (r_m0names : Nat) (f_m0fault : Int32) (f_m0wanted : Int32) (f_m0thrown : Int32) (ww1 : Nat) (r_m1heap : Nat) (r_m1runs : Nat) (r_m1counts : Nat) (r_m1traceRow : Nat) (f_m1traceCount : Int32) (r_m1startedList : Nat) (f_m1startedCount : Int32) (f_m1present : Int32) (f_m1quantum : Int32) (f_m1stepsDone : Int32) (f_m1turnSteps : Int32) (f_m1turnMost : Int32) (f_m1turnOver : Int32) (r_m1finder : Nat) (r_m1names : Nat) (f_m1fault : Int32) (f_m1wanted : Int32) (f_m1thrown : Int32) (ww2 : Nat) (r_m2heap : Nat) (r_m2runs : Nat) (r_m2counts : Nat) (r_m2traceRow : Nat) (f_m2traceCount : Int32) (r_m2startedList : Nat) (f_m2startedCount : Int32) (f_m2present : Int32) (f_m2quantum : Int32) (f_m2stepsDone : Int32) (f_m2turnSteps : Int32) (f_m2turnMost : Int32) (f_m2turnOver : Int32) (r_m2finder : Nat) (r_m2names : Nat) (f_m2fault : Int32) (f_m2wanted : Int32) (f_m2thrown : Int32) (r_w0names : Nat) (f_w0wrongClass : Int32) (f_w0wrongMethod : Int32) (f_w0wrongAt : Int32) (r_w0rows : Nat) (r_w0above : Nat) (r_w0fields : Nat) (r_w0methods : Nat) (r_w0codes : Nat) (r_w0handlers : Nat) (r_w0extra : Nat) (r_w0orders : Nat) (r_w0classNamed : Nat) (f_w0breaks : Int32) (r_w0marks : Nat) (r_w1names : Nat) (f_w1wrongClass : Int32) (f_w1wrongMethod : Int32) (f_w1wrongAt : Int32) (r_w1rows : Nat) (r_w1above : Nat) (r_w1fields : Nat) (r_w1methods : Nat) (r_w1codes : Nat) (r_w1handlers : Nat) (r_w1extra : Nat) (r_w1orders : Nat) (r_w1classNamed : Nat) (f_w1breaks : Int32) (r_w1marks : Nat) (r_w2names : Nat) (f_w2wrongClass : Int32) (f_w2wrongMethod : Int32) (f_w2wrongAt : Int32) (r_w2rows : Nat) (r_w2above : Nat) (r_w2fields : Nat) (r_w2methods : Nat) (r_w2codes : Nat) (r_w2handlers : Nat) (r_w2extra : Nat) (r_w2orders : Nat) (r_w2classNamed : Nat) (f_w2breaks : Int32) (r_w2marks : Nat) (h0X : Nat) (fsX : List Value) (owX : Nat) (v0X : Nat) (v1X : Nat) (v2X : Nat) (v3X : Nat) (fw0X : List Value) (fw1X : List Value) (fw2X : List Value) (G : GV l p s m #[Value.ref b] meth c (⟨"ClassWorksLaw", meth.name, ""⟩ : MethodName) code 4 ret g D sl A) (hX : va_X b 6 xs s s.heap) (hbl : b < s.heap.size) (hbA : ¬ A b) (hAA : ∀ q, A q → s.heap.size ≤ q) {H : Heap} {locs : List Loc} {ls : Array Slot} (glenX : fsX.length = 131) (gk0X : fsX[44]? = some (.ref owX)) (gw0X : fw0X.length = 72) (gt0X : fw0X[0]? = some (.int (nI 0))) (gw1X : fw1X.length = 72) (gt1X : fw1X[0]? = some (.int (nI 0))) (gw2X : fw2X.length = 72) (gt2X : fw2X[0]? = some (.int (nI 0))) (hP : va_P D CL [(h0, .inr (11, [.ref r_cwords, .ref r_creader, .ref r_cchecker, .ref r_cfinder, .ref r_cwriter, .ref r_cmachines, .ref r_ctape, .int (nI 0), .int (-2), .int (nI 60000), .ref r_cstock, .ref r_csizes, .ref r_cmet, .ref r_cfound, .int (nI 0), .ref r_cdraft, .int (nI 0), .int (nI 0), .ref r_cfewestFor, .ref r_cfewestNext])), (r_cmachines, .inl (g 4, 4, .inr (.inr (.inr (.inr (va_up (va_up (va_up (va_up (fun _ => none) 0 (some mm0)) 1 (some mm1)) 2 (some mm2)) 3 (some mm3))))))), (mm0, .inr (4, [.ref ww0, .ref r_m0heap, .ref r_m0runs, .ref r_m0counts, .ref r_m0traceRow, .int f_m0traceCount, .ref r_m0startedList, .int f_m0startedCount, .int f_m0present, .int f_m0quantum, .int f_m0stepsDone, .int f_m0turnSteps, .int f_m0turnMost, .int f_m0turnOver, .ref r_m0finder, .ref r_m0names, .int f_m0fault, .int f_m0wanted, .int f_m0thrown])), (mm1, .inr (4, [.ref ww1, .ref r_m1heap, .ref r_m1runs, .ref r_m1counts, .ref r_m1traceRow, .int f_m1traceCount, .ref r_m1startedList, .int f_m1startedCount, .int f_m1present, .int f_m1quantum, .int f_m1stepsDone, .int f_m1turnSteps, .int f_m1turnMost, .int f_m1turnOver, .ref r_m1finder, .ref r_m1names, .int f_m1fault, .int f_m1wanted, .int f_m1thrown])), (mm2, .inr (4, [.ref ww2, .ref r_m2heap, .ref r_m2runs, .ref r_m2counts, .ref r_m2traceRow, .int f_m2traceCount, .ref r_m2startedList, .int f_m2startedCount, .int f_m2present, .int f_m2quantum, .int f_m2stepsDone, .int f_m2turnSteps, .int f_m2turnMost, .int f_m2turnOver, .ref r_m2finder, .ref r_m2names, .int f_m2fault, .int f_m2wanted, .int f_m2thrown])), (ww0, .inr (9, [.ref r_w0names, .int (nI 0), .int (nI 21), .int f_w0wrongClass, .int f_w0wrongMethod, .int f_w0wrongAt, .ref r_w0rows, .ref r_w0above, .ref r_w0fields, .ref r_w0methods, .ref r_w0codes, .ref r_w0handlers, .ref r_w0extra, .ref r_w0orders, .ref r_w0classNamed, .int f_w0breaks, .ref r_w0marks])), (ww1, .inr (9, [.ref r_w1names, .int (nI 0), .int (nI 21), .int f_w1wrongClass, .int f_w1wrongMethod, .int f_w1wrongAt, .ref r_w1rows, .ref r_w1above, .ref r_w1fields, .ref r_w1methods, .ref r_w1codes, .ref r_w1handlers, .ref r_w1extra, .ref r_w1orders, .ref r_w1classNamed, .int f_w1breaks, .ref r_w1marks])), (ww2, .inr (9, [.ref r_w2names, .int (nI 0), .int (nI 21), .int f_w2wrongClass, .int f_w2wrongMethod, .int f_w2wrongAt, .ref r_w2rows, .ref r_w2above, .ref r_w2fields, .ref r_w2methods, .ref r_w2codes, .ref r_w2handlers, .ref r_w2extra, .ref r_w2orders, .ref r_w2classNamed, .int f_w2breaks, .ref r_w2marks])), (h0X, .inr (14, fsX)), (owX, .inl (g 6, 4, .inr (.inr (.inr (.inr (va_up (va_up (va_up (va_up (fun _ => none) 0 (some v0X)) 1 (some v1X)) 2 (some v2X)) 3 (some v3X))))))), (v0X, .inr (13, fw0X)), (v1X, .inr (13, fw1X)), (v2X, .inr (13, fw2X))] H) (hD : va_D A [(h0, .inr (11, [.ref r_cwords, .ref r_creader, .ref r_cchecker, .ref r_cfinder, .ref r_cwriter, .ref r_cmachines, .ref r_ctape, .int (nI 0), .int (-2), .int (nI 60000), .ref r_cstock, .ref r_csizes, .ref r_cmet, .ref r_cfound, .int (nI 0), .ref r_cdraft, .int (nI 0), .int (nI 0), .ref r_cfewestFor, .ref r_cfewestNext])), (r_cmachines, .inl (g 4, 4, .inr (.inr (.inr (.inr (va_up (va_up (va_up (va_up (fun _ => none) 0 (some mm0)) 1 (some mm1)) 2 (some mm2)) 3 (some mm3))))))), (mm0, .inr (4, [.ref ww0, .ref r_m0heap, .ref r_m0runs, .ref r_m0counts, .ref r_m0traceRow, .int f_m0traceCount, .ref r_m0startedList, .int f_m0startedCount, .int f_m0present, .int f_m0quantum, .int f_m0stepsDone, .int f_m0turnSteps, .int f_m0turnMost, .int f_m0turnOver, .ref r_m0finder, .ref r_m0names, .int f_m0fault, .int f_m0wanted, .int f_m0thrown])), (mm1, .inr (4, [.ref ww1, .ref r_m1heap, .ref r_m1runs, .ref r_m1counts, .ref r_m1traceRow, .int f_m1traceCount, .ref r_m1startedList, .int f_m1startedCount, .int f_m1present, .int f_m1quantum, .int f_m1stepsDone, .int f_m1turnSteps, .int f_m1turnMost, .int f_m1turnOver, .ref r_m1finder, .ref r_m1names, .int f_m1fault, .int f_m1wanted, .int f_m1thrown])), (mm2, .inr (4, [.ref ww2, .ref r_m2heap, .ref r_m2runs, .ref r_m2counts, .ref r_m2traceRow, .int f_m2traceCount, .ref r_m2startedList, .int f_m2startedCount, .int f_m2present, .int f_m2quantum, .int f_m2stepsDone, .int f_m2turnSteps, .int f_m2turnMost, .int f_m2turnOver, .ref r_m2finder, .ref r_m2names, .int f_m2fault, .int f_m2wanted, .int f_m2thrown])), (ww0, .inr (9, [.ref r_w0names, .int (nI 0), .int (nI 21), .int f_w0wrongClass, .int f_w0wrongMethod, .int f_w0wrongAt, .ref r_w0rows, .ref r_w0above, .ref r_w0fields, .ref r_w0methods, .ref r_w0codes, .ref r_w0handlers, .ref r_w0extra, .ref r_w0orders, .ref r_w0classNamed, .int f_w0breaks, .ref r_w0marks])), (ww1, .inr (9, [.ref r_w1names, .int (nI 0), .int (nI 21), .int f_w1wrongClass, .int f_w1wrongMethod, .int f_w1wrongAt, .ref r_w1rows, .ref r_w1above, .ref r_w1fields, .ref r_w1methods, .ref r_w1codes, .ref r_w1handlers, .ref r_w1extra, .ref r_w1orders, .ref r_w1classNamed, .int f_w1breaks, .ref r_w1marks])), (ww2, .inr (9, [.ref r_w2names, .int (nI 0), .int (nI 21), .int f_w2wrongClass, .int f_w2wrongMethod, .int f_w2wrongAt, .ref r_w2rows, .ref r_w2above, .ref r_w2fields, .ref r_w2methods, .ref r_w2codes, .ref r_w2handlers, .ref r_w2extra, .ref r_w2orders, .ref r_w2classNamed, .int f_w2breaks, .ref r_w2marks])), (h0X, .inr (14, fsX)), (owX, .inl (g 6, 4, .inr (.inr (.inr (.inr (va_up (va_up (va_up (va_up (fun _ => none) 0 (some v0X)) 1 (some v1X)) 2 (some v2X)) 3 (some v3X))))))), (v0X, .inr (13, fw0X)), (v1X, .inr (13, fw1X)), (v2X, .inr (13, fw2X))]) (hS : va_S A s.heap H locs) (hl : lv_has ls 4 [(0, .ref b), (1, .ref h0), (2, .ref h0X), (3, .int (nI 0))]) : W p l e room_1 s m #[Value.ref b] below meth c H locs 702 488194 (lw_Z below #[Value.ref b] s) (F0 m 729 ls []) := by
  refine lv_aload_n G.1 G.2.1 d_Law_729 rfl (lv_at hl 1 rfl) ?_
  refine lv_aload_n G.1 G.2.1 d_Law_730 rfl (lv_at hl 0 rfl) ?_
  refine lv_iload_n G.1 G.2.1 d_Law_731 rfl (lv_at hl 3 rfl) ?_
  refine lv_iconst (v := nI 1) G.1 G.2.1 d_Law_732 (by decide) ?_
  refine lv_iadd G.1 G.2.1 d_Law_733 ?_
  refine tpi (w := nI 1) (by decide) ?_
  refine va_sld G.1 G.2.1 hX hbl hbA hS (nI_inn (n := 6) (a := 1) (by decide) (by decide)) d_Law_734 ?_
  refine tpi (w := (xs 1)) (by rw [nI_clamp (by decide)]) ?_
  refine lv_aload_n G.1 G.2.1 d_Law_735 rfl (lv_at hl 0 rfl) ?_
  refine lv_iload_n G.1 G.2.1 d_Law_736 rfl (lv_at hl 3 rfl) ?_
  refine lv_iconst (v := nI 2) G.1 G.2.1 d_Law_737 (by decide) ?_
  refine lv_iadd G.1 G.2.1 d_Law_738 ?_
  refine tpi (w := nI 2) (by decide) ?_
  refine va_sld G.1 G.2.1 hX hbl hbA hS (nI_inn (n := 6) (a := 2) (by decide) (by decide)) d_Law_739 ?_
  refine tpi (w := (xs 2)) (by rw [nI_clamp (by decide)]) ?_
  refine W.eq (g2 := F0 m 740 ls [.int (xs 2), .int (xs 1), .ref h0]) rfl ?_
  refine kEi (wr := [(h0X, .inr (14, fsX)), (owX, .inl (g 6, 4, .inr (.inr (.inr (.inr (va_up (va_up (va_up (va_up (fun _ => none) 0 (some v0X)) 1 (some v1X)) 2 (some v2X)) 3 (some v3X))))))), (v0X, .inr (13, fw0X)), (v1X, .inr (13, fw1X)), (v2X, .inr (13, fw2X))]) G (kV (As := [.int (xs 1), .int (xs 2)]) (rest := []) G hP hD hS [0, 1, 2, 3, 4, 5, 6, 7] rfl rfl (c_Cw_step l D g h0 (xs 1) (xs 2) r_cwords r_creader r_cchecker r_cfinder r_cwriter r_cmachines r_ctape r_cstock r_csizes r_cmet r_cfound r_cdraft r_cfewestFor r_cfewestNext mm0 mm1 mm2 mm3 ww0 r_m0heap r_m0runs r_m0counts r_m0traceRow f_m0traceCount r_m0startedList f_m0startedCount f_m0present f_m0quantum f_m0stepsDone f_m0turnSteps f_m0turnMost f_m0turnOver r_m0finder r_m0names f_m0fault f_m0wanted f_m0thrown ww1 r_m1heap r_m1runs r_m1counts r_m1traceRow f_m1traceCount r_m1startedList f_m1startedCount f_m1present f_m1quantum f_m1stepsDone f_m1turnSteps f_m1turnMost f_m1turnOver r_m1finder r_m1names f_m1fault f_m1wanted f_m1thrown ww2 r_m2heap r_m2runs r_m2counts r_m2traceRow f_m2traceCount r_m2startedList f_m2startedCount f_m2present f_m2quantum f_m2stepsDone f_m2turnSteps f_m2turnMost f_m2turnOver r_m2finder r_m2names f_m2fault f_m2wanted f_m2thrown r_w0names f_w0wrongClass f_w0wrongMethod f_w0wrongAt r_w0rows r_w0above r_w0fields r_w0methods r_w0codes r_w0handlers r_w0extra r_w0orders r_w0classNamed f_w0breaks r_w0marks r_w1names f_w1wrongClass f_w1wrongMethod f_w1wrongAt r_w1rows r_w1above r_w1fields r_w1methods r_w1codes r_w1handlers r_w1extra r_w1orders r_w1classNamed f_w1breaks r_w1marks r_w2names f_w2wrongClass f_w2wrongMethod f_w2wrongAt r_w2rows r_w2above r_w2fields r_w2methods r_w2codes r_w2handlers r_w2extra r_w2orders r_w2classNamed f_w2breaks r_w2marks H.size ) w_Cw_step q1775 rfl rfl ⟨Nat.le_of_ble_eq_true rfl, Nat.le_of_ble_eq_true rfl⟩ (fun _ h => absurd h List.not_mem_nil) 0 (ci := 11) rfl rfl rfl hl.1 rfl (Nat.le_of_ble_eq_true rfl) rfl ⟨Nat.le_of_ble_eq_true rfl, (Nat.le_of_ble_eq_true rfl)⟩ d_Law_740) hP hD hS [0, 1, 2, 3, 4, 5, 6, 7] [8, 9, 10, 11, 12] rfl rfl rfl rfl (fun r_1 u_2 H locs hw hP hD hS hzH => ?_)
  have hw : r_1 = (-1) := hw
  have hP : va_P D CL [(h0X, .inr (14, fsX)), (owX, .inl (g 6, 4, .inr (.inr (.inr (.inr (va_up (va_up (va_up (va_up (fun _ => none) 0 (some v0X)) 1 (some v1X)) 2 (some v2X)) 3 (some v3X))))))), (v0X, .inr (13, fw0X)), (v1X, .inr (13, fw1X)), (v2X, .inr (13, fw2X))] H := hP
  have hD : va_D A [(h0X, .inr (14, fsX)), (owX, .inl (g 6, 4, .inr (.inr (.inr (.inr (va_up (va_up (va_up (va_up (fun _ => none) 0 (some v0X)) 1 (some v1X)) 2 (some v2X)) 3 (some v3X))))))), (v0X, .inr (13, fw0X)), (v1X, .inr (13, fw1X)), (v2X, .inr (13, fw2X))] := hD
  subst hw
  refine tpst (w := [.int (-1)]) rfl ?_
  refine lv_aload_n G.1 G.2.1 d_Law_743 rfl (lv_at hl 2 rfl) ?_
  refine lv_aload_n G.1 G.2.1 d_Law_744 rfl (lv_at hl 0 rfl) ?_
  refine lv_iload_n G.1 G.2.1 d_Law_745 rfl (lv_at hl 3 rfl) ?_
  refine lv_iconst (v := nI 1) G.1 G.2.1 d_Law_746 (by decide) ?_
  refine lv_iadd G.1 G.2.1 d_Law_747 ?_
  refine tpi (w := nI 1) (by decide) ?_
  refine va_sld G.1 G.2.1 hX hbl hbA hS (nI_inn (n := 6) (a := 1) (by decide) (by decide)) d_Law_748 ?_
  refine tpi (w := (xs 1)) (by rw [nI_clamp (by decide)]) ?_
  refine lv_aload_n G.1 G.2.1 d_Law_749 rfl (lv_at hl 0 rfl) ?_
  refine lv_iload_n G.1 G.2.1 d_Law_750 rfl (lv_at hl 3 rfl) ?_
  refine lv_iconst (v := nI 2) G.1 G.2.1 d_Law_751 (by decide) ?_
  refine lv_iadd G.1 G.2.1 d_Law_752 ?_
  refine tpi (w := nI 2) (by decide) ?_
  refine va_sld G.1 G.2.1 hX hbl hbA hS (nI_inn (n := 6) (a := 2) (by decide) (by decide)) d_Law_753 ?_
  refine tpi (w := (xs 2)) (by rw [nI_clamp (by decide)]) ?_
  refine W.eq (g2 := F0 m 754 ls [.int (xs 2), .int (xs 1), .ref h0X, .int (-1)]) rfl ?_
  refine kEi (wr := []) G (kV (As := [.int (xs 1), .int (xs 2)]) (rest := [.int (-1)]) G hP hD hS [0, 1, 2, 3, 4] rfl rfl (c_Mo_step l D g h0X (xs 1) (xs 2) fsX owX v0X v1X v2X v3X fw0X fw1X fw2X H.size glenX gk0X gw0X gt0X gw1X gt1X gw2X gt2X) w_Mo_step q3822 rfl rfl ⟨Nat.le_of_ble_eq_true rfl, Nat.le_of_ble_eq_true rfl⟩ (fun _ h => absurd h List.not_mem_nil) 0 (ci := 14) rfl rfl rfl hl.1 rfl (Nat.le_of_ble_eq_true rfl) rfl ⟨Nat.le_of_ble_eq_true rfl, (Nat.le_of_ble_eq_true rfl)⟩ d_Law_754) hP hD hS [0, 1, 2, 3, 4] [] rfl rfl rfl rfl (fun r_3 u_4 H locs hw hP hD hS hzH => ?_)
  have hw : r_3 = (-1) := hw
  have hP : va_P D CL [] H := hP
  have hD : va_D A [] := hD
  subst hw
  refine tpst (w := [.int (-1), .int (-1)]) rfl ?_
  refine lv_icmp_eq (tgt := 1768) G.1 G.2.1 d_Law_757 (by decide) (fun c757 => ?_) (fun c757 => absurd c757 (fun h => h rfl))
  refine lv_iinc (v := nI 6) (lv' := [(3, .int (nI 6)), (0, .ref b), (1, .ref h0), (2, .ref h0X)]) G.1 G.2.1 d_Law_1768 hl (k := 3) rfl (show (nI 0) + Int32.ofInt 6 = nI 6 from by decide) (by decide) rfl (fun ls hl => ?_)
  refine lv_goto (tgt := 18) G.1 G.2.1 d_Law_1771 (by decide) ?_
  refine lv_iload_n G.1 G.2.1 d_Law_18 rfl (lv_at hl 0 rfl) ?_
  refine lv_aload_n G.1 G.2.1 d_Law_19 rfl (lv_at hl 1 rfl) ?_
  refine va_slen G.1 G.2.1 hX hbl hbA hS d_Law_20 ?_
  refine tpi (w := nI 6) rfl ?_
  refine lv_bipush (v := nI 6) G.1 G.2.1 d_Law_21 (by decide) ?_
  refine lv_isub G.1 G.2.1 d_Law_23 ?_
  refine tpi (w := nI 0) (by decide) ?_
  refine lv_icmp_gt (tgt := 1774) G.1 G.2.1 d_Law_24 (by decide) (fun c24 => ?_) (fun c24 => absurd c24 (by decide))
  refine lv_iconst (v := nI 1) G.1 G.2.1 d_Law_1774 (by decide) ?_
  refine va_forget (fun q hq => hAA _ (hS.2.2 q hq)) ?_
  refine W.widen (k := 600002) (n := 7302232) (Nat.le_of_ble_eq_true rfl) (Nat.le_of_ble_eq_true rfl) ?_
  exact lw_ret G.1 G.2.1 G.2.2.2.1 G.2.2.2.2.1 d_Law_1775
theorem q2092 : Cond.code y_Cw_run b_Cw_run 5 (some .int) ∈ lw_ok := lw_okmem (List.mem_of_getElem? (i := 2092) (by decide +kernel)) rfl
theorem q2090 : Cond.instanceMethod y_Cw_run ∈ lw_ok := lw_okmem (List.mem_of_getElem? (i := 2090) (by decide +kernel)) rfl
theorem q2091 : Cond.selects y_Cw_run.cls y_Cw_run y_Cw_run ∈ lw_ok := lw_okmem (List.mem_of_getElem? (i := 2091) (by decide +kernel)) rfl
theorem w_Cw_run : CWv y_Cw_run b_Cw_run 5 (some .int) 3 ∧ Cond.instanceMethod y_Cw_run ∈ lw_ok ∧ Cond.selects y_Cw_run.cls y_Cw_run y_Cw_run ∈ lw_ok := ⟨⟨q2092, q329, by decide +kernel, by decide +kernel, by decide +kernel⟩, q2090, q2091⟩
theorem q2089 : Cond.methodLink "ClassWorksLaw" 83 y_Cw_run ∈ lw_ok := lw_okmem (List.mem_of_getElem? (i := 2089) (by decide +kernel)) rfl
theorem q4018 : Cond.code y_Mo_run b_Mo_run 8 (some .int) ∈ lw_ok := lw_okmem (List.mem_of_getElem? (i := 4018) (by decide +kernel)) rfl
theorem q4016 : Cond.instanceMethod y_Mo_run ∈ lw_ok := lw_okmem (List.mem_of_getElem? (i := 4016) (by decide +kernel)) rfl
theorem q4017 : Cond.selects y_Mo_run.cls y_Mo_run y_Mo_run ∈ lw_ok := lw_okmem (List.mem_of_getElem? (i := 4017) (by decide +kernel)) rfl
theorem w_Mo_run : CWv y_Mo_run b_Mo_run 8 (some .int) 3 ∧ Cond.instanceMethod y_Mo_run ∈ lw_ok ∧ Cond.selects y_Mo_run.cls y_Mo_run y_Mo_run ∈ lw_ok := ⟨⟨q4018, q348, by decide +kernel, by decide +kernel, by decide +kernel⟩, q4016, q4017⟩
theorem q4015 : Cond.methodLink "ClassWorksLaw" 86 y_Mo_run ∈ lw_ok := lw_okmem (List.mem_of_getElem? (i := 4015) (by decide +kernel)) rfl
theorem d_Law_762 : decode code 762 = .ok (.aload_n 1, 1) := by decide +kernel
theorem d_Law_763 : decode code 763 = .ok (.aload_n 0, 1) := by decide +kernel
theorem d_Law_764 : decode code 764 = .ok (.iload_n 3, 1) := by decide +kernel
theorem d_Law_765 : decode code 765 = .ok (.iconst 1, 1) := by decide +kernel
theorem d_Law_766 : decode code 766 = .ok (.iadd, 1) := by decide +kernel
theorem d_Law_767 : decode code 767 = .ok (.iaload, 1) := by decide +kernel
theorem d_Law_768 : decode code 768 = .ok (.aload_n 0, 1) := by decide +kernel
theorem d_Law_769 : decode code 769 = .ok (.iload_n 3, 1) := by decide +kernel
theorem d_Law_770 : decode code 770 = .ok (.iconst 2, 1) := by decide +kernel
theorem d_Law_771 : decode code 771 = .ok (.iadd, 1) := by decide +kernel
theorem d_Law_772 : decode code 772 = .ok (.iaload, 1) := by decide +kernel
theorem d_Law_773 : decode code 773 = .ok (.aload_n 0, 1) := by decide +kernel
theorem d_Law_774 : decode code 774 = .ok (.iload_n 3, 1) := by decide +kernel
theorem d_Law_775 : decode code 775 = .ok (.iconst 3, 1) := by decide +kernel
theorem d_Law_776 : decode code 776 = .ok (.iadd, 1) := by decide +kernel
theorem d_Law_777 : decode code 777 = .ok (.iaload, 1) := by decide +kernel
theorem d_Law_778 : decode code 778 = .ok (.invokevirtual 83, 3) := by decide +kernel
theorem d_Law_781 : decode code 781 = .ok (.aload_n 2, 1) := by decide +kernel
theorem d_Law_782 : decode code 782 = .ok (.aload_n 0, 1) := by decide +kernel
theorem d_Law_783 : decode code 783 = .ok (.iload_n 3, 1) := by decide +kernel
theorem d_Law_784 : decode code 784 = .ok (.iconst 1, 1) := by decide +kernel
theorem d_Law_785 : decode code 785 = .ok (.iadd, 1) := by decide +kernel
theorem d_Law_786 : decode code 786 = .ok (.iaload, 1) := by decide +kernel
theorem d_Law_787 : decode code 787 = .ok (.aload_n 0, 1) := by decide +kernel
theorem d_Law_788 : decode code 788 = .ok (.iload_n 3, 1) := by decide +kernel
theorem d_Law_789 : decode code 789 = .ok (.iconst 2, 1) := by decide +kernel
theorem d_Law_790 : decode code 790 = .ok (.iadd, 1) := by decide +kernel
theorem d_Law_791 : decode code 791 = .ok (.iaload, 1) := by decide +kernel
theorem d_Law_792 : decode code 792 = .ok (.aload_n 0, 1) := by decide +kernel
theorem d_Law_793 : decode code 793 = .ok (.iload_n 3, 1) := by decide +kernel
theorem d_Law_794 : decode code 794 = .ok (.iconst 3, 1) := by decide +kernel
theorem d_Law_795 : decode code 795 = .ok (.iadd, 1) := by decide +kernel
theorem d_Law_796 : decode code 796 = .ok (.iaload, 1) := by decide +kernel
theorem d_Law_797 : decode code 797 = .ok (.invokevirtual 86, 3) := by decide +kernel
theorem d_Law_800 : decode code 800 = .ok (.if_icmp .eq 968, 3) := by decide +kernel
set_option maxHeartbeats 4000000 in
set_option maxRecDepth 100000 in
theorem law_run {p : Program} {e : Env} {s : State} {m : MethodId} {below : List Frame} {meth : Method} {c : Code} {l : Launch} {D : va_G} {g : Nat → ClassId} {sl : List SL} {b : Nat} {xs : Nat → Int32} {A : Nat → Prop} (h0 : Nat) (r_cwords : Nat) (r_creader : Nat) (r_cchecker : Nat) (r_cfinder : Nat) (r_cwriter : Nat) (r_cmachines : Nat) (r_ctape : Nat) (r_cstock : Nat) (r_csizes : Nat) (r_cmet : Nat) (r_cfound : Nat) (r_cdraft : Nat) (r_cfewestFor : Nat) (r_cfewestNext : Nat) (mm0 : Nat) (mm1 : Nat) (mm2 : Nat) (mm3 : Nat) (ww0 : Nat) (r_m0heap : Nat) (r_m0runs : Nat) (r_m0counts : Nat) (r_m0traceRow : Nat) (f_m0traceCount : Int32) (r_m0startedList : Nat) (f_m0startedCount : Int32) (f_m0present : Int32) (f_m0quantum : Int32) (f_m0stepsDone : Int32) (f_m0turnSteps : Int32) (f_m0turnMost : Int32) (f_m0turnOver : Int32) (r_m0finder : Nat) (r_m0names : Nat) (f_m0fault : Int32) (f_m0wanted : Int32) (f_m0thrown : Int32) (ww1 : Nat) (r_m1heap : Nat) (r_m1runs : Nat) (r_m1counts : Nat) (r_m1traceRow : Nat) (f_m1traceCount : Int32) (r_m1startedList : Nat) (f_m1startedCount : Int32) (f_m1present : Int32) (f_m1quantum : Int32) (f_m1stepsDone : Int32) (f_m1turnSteps : Int32) (f_m1turnMost : Int32) (f_m1turnOver : Int32) (r_m1finder : Nat) (r_m1names : Nat) (f_m1fault : Int32) (f_m1wanted : Int32) (f_m1thrown : Int32) (ww2 : Nat) (r_m2heap : Nat) (r_m2runs : Nat) (r_m2counts : Nat) (r_m2traceRow : Nat) (f_m2traceCount : Int32) (r_m2startedList : Nat) (f_m2startedCount : Int32) (f_m2present : Int32) (f_m2quantum : Int32) (f_m2stepsDone : Int32) (f_m2turnSteps : Int32) (f_m2turnMost : Int32) (f_m2turnOver : Int32) (r_m2finder : Nat) (r_m2names : Nat) (f_m2fault : Int32) (f_m2wanted : Int32) (f_m2thrown : Int32) (r_w0names : Nat) (f_w0wrongClass : Int32) (f_w0wrongMethod : Int32) (f_w0wrongAt : Int32) (r_w0rows : Nat) (r_w0above : Nat) (r_w0fields : Nat) (r_w0methods : Nat) (r_w0codes : Nat) (r_w0handlers : Nat) (r_w0extra : Nat) (r_w0orders : Nat) (r_w0classNamed : Nat) (f_w0breaks : Int32) (r_w0marks : Nat) (r_w1names : Nat) (f_w1wrongClass : Int32) (f_w1wrongMethod : Int32) (f_w1wrongAt : Int32) (r_w1rows : Nat) (r_w1above : Nat) (r_w1fields : Nat) (r_w1methods : Nat) (r_w1codes : Nat) (r_w1handlers : Nat) (r_w1extra : Nat) (r_w1orders : Nat) (r_w1classNamed : Nat) (f_w1breaks : Int32) (r_w1marks : Nat) (r_w2names : Nat) (f_w2wrongClass : Int32) (f_w2wrongMethod : Int32) (f_w2wrongAt : Int32) (r_w2rows : Nat) (r_w2above : Nat) (r_w2fields : Nat) (r_w2methods : Nat) (r_w2codes : Nat) (r_w2handlers : Nat) (r_w2extra : Nat) (r_w2orders : Nat) (r_w2classNamed : Nat) (f_w2breaks : Int32) (r_w2marks : Nat) (h0X : Nat) (fsX : List Value) (owX : Nat) (v0X : Nat) (v1X : Nat) (v2X : Nat) (v3X : Nat) (fw0X : List Value) (fw1X : List Value) (fw2X : List Value) (G : GV l p s m #[Value.ref b] meth c (⟨"ClassWorksLaw", meth.name, ""⟩ : MethodName) code 4 ret g D sl A) (hX : va_X b 6 xs s s.heap) (hbl : b < s.heap.size) (hbA : ¬ A b) (hAA : ∀ q, A q → s.heap.size ≤ q) {H : Heap} {locs : List Loc} {ls : Array Slot} (glenX : fsX.length = 131) (gk0X : fsX[44]? = some (.ref owX)) (gw0X : fw0X.length = 72) (gt0X : fw0X[0]? = some (.int (nI 0))) (gw1X : fw1X.length = 72) (gt1X : fw1X[0]? = some (.int (nI 0))) (gw2X : fw2X.length = 72) (gt2X : fw2X[0]? = some (.int (nI 0))) (hP : va_P D CL [(h0, .inr (11, [.ref r_cwords, .ref r_creader, .ref r_cchecker, .ref r_cfinder, .ref r_cwriter, .ref r_cmachines, .ref r_ctape, .int (nI 0), .int (-2), .int (nI 60000), .ref r_cstock, .ref r_csizes, .ref r_cmet, .ref r_cfound, .int (nI 0), .ref r_cdraft, .int (nI 0), .int (nI 0), .ref r_cfewestFor, .ref r_cfewestNext])), (r_cmachines, .inl (g 4, 4, .inr (.inr (.inr (.inr (va_up (va_up (va_up (va_up (fun _ => none) 0 (some mm0)) 1 (some mm1)) 2 (some mm2)) 3 (some mm3))))))), (mm0, .inr (4, [.ref ww0, .ref r_m0heap, .ref r_m0runs, .ref r_m0counts, .ref r_m0traceRow, .int f_m0traceCount, .ref r_m0startedList, .int f_m0startedCount, .int f_m0present, .int f_m0quantum, .int f_m0stepsDone, .int f_m0turnSteps, .int f_m0turnMost, .int f_m0turnOver, .ref r_m0finder, .ref r_m0names, .int f_m0fault, .int f_m0wanted, .int f_m0thrown])), (mm1, .inr (4, [.ref ww1, .ref r_m1heap, .ref r_m1runs, .ref r_m1counts, .ref r_m1traceRow, .int f_m1traceCount, .ref r_m1startedList, .int f_m1startedCount, .int f_m1present, .int f_m1quantum, .int f_m1stepsDone, .int f_m1turnSteps, .int f_m1turnMost, .int f_m1turnOver, .ref r_m1finder, .ref r_m1names, .int f_m1fault, .int f_m1wanted, .int f_m1thrown])), (mm2, .inr (4, [.ref ww2, .ref r_m2heap, .ref r_m2runs, .ref r_m2counts, .ref r_m2traceRow, .int f_m2traceCount, .ref r_m2startedList, .int f_m2startedCount, .int f_m2present, .int f_m2quantum, .int f_m2stepsDone, .int f_m2turnSteps, .int f_m2turnMost, .int f_m2turnOver, .ref r_m2finder, .ref r_m2names, .int f_m2fault, .int f_m2wanted, .int f_m2thrown])), (ww0, .inr (9, [.ref r_w0names, .int (nI 0), .int (nI 21), .int f_w0wrongClass, .int f_w0wrongMethod, .int f_w0wrongAt, .ref r_w0rows, .ref r_w0above, .ref r_w0fields, .ref r_w0methods, .ref r_w0codes, .ref r_w0handlers, .ref r_w0extra, .ref r_w0orders, .ref r_w0classNamed, .int f_w0breaks, .ref r_w0marks])), (ww1, .inr (9, [.ref r_w1names, .int (nI 0), .int (nI 21), .int f_w1wrongClass, .int f_w1wrongMethod, .int f_w1wrongAt, .ref r_w1rows, .ref r_w1above, .ref r_w1fields, .ref r_w1methods, .ref r_w1codes, .ref r_w1handlers, .ref r_w1extra, .ref r_w1orders, .ref r_w1classNamed, .int f_w1breaks, .ref r_w1marks])), (ww2, .inr (9, [.ref r_w2names, .int (nI 0), .int (nI 21), .int f_w2wrongClass, .int f_w2wrongMethod, .int f_w2wrongAt, .ref r_w2rows, .ref r_w2above, .ref r_w2fields, .ref r_w2methods, .ref r_w2codes, .ref r_w2handlers, .ref r_w2extra, .ref r_w2orders, .ref r_w2classNamed, .int f_w2breaks, .ref r_w2marks])), (h0X, .inr (14, fsX)), (owX, .inl (g 6, 4, .inr (.inr (.inr (.inr (va_up (va_up (va_up (va_up (fun _ => none) 0 (some v0X)) 1 (some v1X)) 2 (some v2X)) 3 (some v3X))))))), (v0X, .inr (13, fw0X)), (v1X, .inr (13, fw1X)), (v2X, .inr (13, fw2X))] H) (hD : va_D A [(h0, .inr (11, [.ref r_cwords, .ref r_creader, .ref r_cchecker, .ref r_cfinder, .ref r_cwriter, .ref r_cmachines, .ref r_ctape, .int (nI 0), .int (-2), .int (nI 60000), .ref r_cstock, .ref r_csizes, .ref r_cmet, .ref r_cfound, .int (nI 0), .ref r_cdraft, .int (nI 0), .int (nI 0), .ref r_cfewestFor, .ref r_cfewestNext])), (r_cmachines, .inl (g 4, 4, .inr (.inr (.inr (.inr (va_up (va_up (va_up (va_up (fun _ => none) 0 (some mm0)) 1 (some mm1)) 2 (some mm2)) 3 (some mm3))))))), (mm0, .inr (4, [.ref ww0, .ref r_m0heap, .ref r_m0runs, .ref r_m0counts, .ref r_m0traceRow, .int f_m0traceCount, .ref r_m0startedList, .int f_m0startedCount, .int f_m0present, .int f_m0quantum, .int f_m0stepsDone, .int f_m0turnSteps, .int f_m0turnMost, .int f_m0turnOver, .ref r_m0finder, .ref r_m0names, .int f_m0fault, .int f_m0wanted, .int f_m0thrown])), (mm1, .inr (4, [.ref ww1, .ref r_m1heap, .ref r_m1runs, .ref r_m1counts, .ref r_m1traceRow, .int f_m1traceCount, .ref r_m1startedList, .int f_m1startedCount, .int f_m1present, .int f_m1quantum, .int f_m1stepsDone, .int f_m1turnSteps, .int f_m1turnMost, .int f_m1turnOver, .ref r_m1finder, .ref r_m1names, .int f_m1fault, .int f_m1wanted, .int f_m1thrown])), (mm2, .inr (4, [.ref ww2, .ref r_m2heap, .ref r_m2runs, .ref r_m2counts, .ref r_m2traceRow, .int f_m2traceCount, .ref r_m2startedList, .int f_m2startedCount, .int f_m2present, .int f_m2quantum, .int f_m2stepsDone, .int f_m2turnSteps, .int f_m2turnMost, .int f_m2turnOver, .ref r_m2finder, .ref r_m2names, .int f_m2fault, .int f_m2wanted, .int f_m2thrown])), (ww0, .inr (9, [.ref r_w0names, .int (nI 0), .int (nI 21), .int f_w0wrongClass, .int f_w0wrongMethod, .int f_w0wrongAt, .ref r_w0rows, .ref r_w0above, .ref r_w0fields, .ref r_w0methods, .ref r_w0codes, .ref r_w0handlers, .ref r_w0extra, .ref r_w0orders, .ref r_w0classNamed, .int f_w0breaks, .ref r_w0marks])), (ww1, .inr (9, [.ref r_w1names, .int (nI 0), .int (nI 21), .int f_w1wrongClass, .int f_w1wrongMethod, .int f_w1wrongAt, .ref r_w1rows, .ref r_w1above, .ref r_w1fields, .ref r_w1methods, .ref r_w1codes, .ref r_w1handlers, .ref r_w1extra, .ref r_w1orders, .ref r_w1classNamed, .int f_w1breaks, .ref r_w1marks])), (ww2, .inr (9, [.ref r_w2names, .int (nI 0), .int (nI 21), .int f_w2wrongClass, .int f_w2wrongMethod, .int f_w2wrongAt, .ref r_w2rows, .ref r_w2above, .ref r_w2fields, .ref r_w2methods, .ref r_w2codes, .ref r_w2handlers, .ref r_w2extra, .ref r_w2orders, .ref r_w2classNamed, .int f_w2breaks, .ref r_w2marks])), (h0X, .inr (14, fsX)), (owX, .inl (g 6, 4, .inr (.inr (.inr (.inr (va_up (va_up (va_up (va_up (fun _ => none) 0 (some v0X)) 1 (some v1X)) 2 (some v2X)) 3 (some v3X))))))), (v0X, .inr (13, fw0X)), (v1X, .inr (13, fw1X)), (v2X, .inr (13, fw2X))]) (hS : va_S A s.heap H locs) (hl : lv_has ls 4 [(0, .ref b), (1, .ref h0), (2, .ref h0X), (3, .int (nI 0))]) : W p l e room_1 s m #[Value.ref b] below meth c H locs 702 488194 (lw_Z below #[Value.ref b] s) (F0 m 762 ls []) := by
  refine lv_aload_n G.1 G.2.1 d_Law_762 rfl (lv_at hl 1 rfl) ?_
  refine lv_aload_n G.1 G.2.1 d_Law_763 rfl (lv_at hl 0 rfl) ?_
  refine lv_iload_n G.1 G.2.1 d_Law_764 rfl (lv_at hl 3 rfl) ?_
  refine lv_iconst (v := nI 1) G.1 G.2.1 d_Law_765 (by decide) ?_
  refine lv_iadd G.1 G.2.1 d_Law_766 ?_
  refine tpi (w := nI 1) (by decide) ?_
  refine va_sld G.1 G.2.1 hX hbl hbA hS (nI_inn (n := 6) (a := 1) (by decide) (by decide)) d_Law_767 ?_
  refine tpi (w := (xs 1)) (by rw [nI_clamp (by decide)]) ?_
  refine lv_aload_n G.1 G.2.1 d_Law_768 rfl (lv_at hl 0 rfl) ?_
  refine lv_iload_n G.1 G.2.1 d_Law_769 rfl (lv_at hl 3 rfl) ?_
  refine lv_iconst (v := nI 2) G.1 G.2.1 d_Law_770 (by decide) ?_
  refine lv_iadd G.1 G.2.1 d_Law_771 ?_
  refine tpi (w := nI 2) (by decide) ?_
  refine va_sld G.1 G.2.1 hX hbl hbA hS (nI_inn (n := 6) (a := 2) (by decide) (by decide)) d_Law_772 ?_
  refine tpi (w := (xs 2)) (by rw [nI_clamp (by decide)]) ?_
  refine W.eq (g2 := F0 m 773 ls [.int (xs 2), .int (xs 1), .ref h0]) rfl ?_
  refine lv_aload_n G.1 G.2.1 d_Law_773 rfl (lv_at hl 0 rfl) ?_
  refine lv_iload_n G.1 G.2.1 d_Law_774 rfl (lv_at hl 3 rfl) ?_
  refine lv_iconst (v := nI 3) G.1 G.2.1 d_Law_775 (by decide) ?_
  refine lv_iadd G.1 G.2.1 d_Law_776 ?_
  refine tpi (w := nI 3) (by decide) ?_
  refine va_sld G.1 G.2.1 hX hbl hbA hS (nI_inn (n := 6) (a := 3) (by decide) (by decide)) d_Law_777 ?_
  refine tpi (w := (xs 3)) (by rw [nI_clamp (by decide)]) ?_
  refine kEi (wr := [(h0X, .inr (14, fsX)), (owX, .inl (g 6, 4, .inr (.inr (.inr (.inr (va_up (va_up (va_up (va_up (fun _ => none) 0 (some v0X)) 1 (some v1X)) 2 (some v2X)) 3 (some v3X))))))), (v0X, .inr (13, fw0X)), (v1X, .inr (13, fw1X)), (v2X, .inr (13, fw2X))]) G (kV (As := [.int (xs 1), .int (xs 2), .int (xs 3)]) (rest := []) G hP hD hS [0, 1, 2, 3, 4, 5, 6, 7] rfl rfl (c_Cw_run l D g h0 (xs 1) (xs 2) (xs 3) r_cwords r_creader r_cchecker r_cfinder r_cwriter r_cmachines r_ctape r_cstock r_csizes r_cmet r_cfound r_cdraft r_cfewestFor r_cfewestNext mm0 mm1 mm2 mm3 ww0 r_m0heap r_m0runs r_m0counts r_m0traceRow f_m0traceCount r_m0startedList f_m0startedCount f_m0present f_m0quantum f_m0stepsDone f_m0turnSteps f_m0turnMost f_m0turnOver r_m0finder r_m0names f_m0fault f_m0wanted f_m0thrown ww1 r_m1heap r_m1runs r_m1counts r_m1traceRow f_m1traceCount r_m1startedList f_m1startedCount f_m1present f_m1quantum f_m1stepsDone f_m1turnSteps f_m1turnMost f_m1turnOver r_m1finder r_m1names f_m1fault f_m1wanted f_m1thrown ww2 r_m2heap r_m2runs r_m2counts r_m2traceRow f_m2traceCount r_m2startedList f_m2startedCount f_m2present f_m2quantum f_m2stepsDone f_m2turnSteps f_m2turnMost f_m2turnOver r_m2finder r_m2names f_m2fault f_m2wanted f_m2thrown r_w0names f_w0wrongClass f_w0wrongMethod f_w0wrongAt r_w0rows r_w0above r_w0fields r_w0methods r_w0codes r_w0handlers r_w0extra r_w0orders r_w0classNamed f_w0breaks r_w0marks r_w1names f_w1wrongClass f_w1wrongMethod f_w1wrongAt r_w1rows r_w1above r_w1fields r_w1methods r_w1codes r_w1handlers r_w1extra r_w1orders r_w1classNamed f_w1breaks r_w1marks r_w2names f_w2wrongClass f_w2wrongMethod f_w2wrongAt r_w2rows r_w2above r_w2fields r_w2methods r_w2codes r_w2handlers r_w2extra r_w2orders r_w2classNamed f_w2breaks r_w2marks H.size ) w_Cw_run q2089 rfl rfl ⟨Nat.le_of_ble_eq_true rfl, Nat.le_of_ble_eq_true rfl⟩ (fun _ h => absurd h List.not_mem_nil) 0 (ci := 11) rfl rfl rfl hl.1 rfl (Nat.le_of_ble_eq_true rfl) rfl ⟨Nat.le_of_ble_eq_true rfl, (Nat.le_of_ble_eq_true rfl)⟩ d_Law_778) hP hD hS [0, 1, 2, 3, 4, 5, 6, 7] [8, 9, 10, 11, 12] rfl rfl rfl rfl (fun r_1 u_2 H locs hw hP hD hS hzH => ?_)
  have hw : r_1 = (-1) := hw
  have hP : va_P D CL [(h0X, .inr (14, fsX)), (owX, .inl (g 6, 4, .inr (.inr (.inr (.inr (va_up (va_up (va_up (va_up (fun _ => none) 0 (some v0X)) 1 (some v1X)) 2 (some v2X)) 3 (some v3X))))))), (v0X, .inr (13, fw0X)), (v1X, .inr (13, fw1X)), (v2X, .inr (13, fw2X))] H := hP
  have hD : va_D A [(h0X, .inr (14, fsX)), (owX, .inl (g 6, 4, .inr (.inr (.inr (.inr (va_up (va_up (va_up (va_up (fun _ => none) 0 (some v0X)) 1 (some v1X)) 2 (some v2X)) 3 (some v3X))))))), (v0X, .inr (13, fw0X)), (v1X, .inr (13, fw1X)), (v2X, .inr (13, fw2X))] := hD
  subst hw
  refine tpst (w := [.int (-1)]) rfl ?_
  refine lv_aload_n G.1 G.2.1 d_Law_781 rfl (lv_at hl 2 rfl) ?_
  refine lv_aload_n G.1 G.2.1 d_Law_782 rfl (lv_at hl 0 rfl) ?_
  refine lv_iload_n G.1 G.2.1 d_Law_783 rfl (lv_at hl 3 rfl) ?_
  refine lv_iconst (v := nI 1) G.1 G.2.1 d_Law_784 (by decide) ?_
  refine lv_iadd G.1 G.2.1 d_Law_785 ?_
  refine tpi (w := nI 1) (by decide) ?_
  refine va_sld G.1 G.2.1 hX hbl hbA hS (nI_inn (n := 6) (a := 1) (by decide) (by decide)) d_Law_786 ?_
  refine tpi (w := (xs 1)) (by rw [nI_clamp (by decide)]) ?_
  refine W.eq (g2 := F0 m 787 ls [.int (xs 1), .ref h0X, .int (-1)]) rfl ?_
  refine lv_aload_n G.1 G.2.1 d_Law_787 rfl (lv_at hl 0 rfl) ?_
  refine lv_iload_n G.1 G.2.1 d_Law_788 rfl (lv_at hl 3 rfl) ?_
  refine lv_iconst (v := nI 2) G.1 G.2.1 d_Law_789 (by decide) ?_
  refine lv_iadd G.1 G.2.1 d_Law_790 ?_
  refine tpi (w := nI 2) (by decide) ?_
  refine va_sld G.1 G.2.1 hX hbl hbA hS (nI_inn (n := 6) (a := 2) (by decide) (by decide)) d_Law_791 ?_
  refine tpi (w := (xs 2)) (by rw [nI_clamp (by decide)]) ?_
  refine lv_aload_n G.1 G.2.1 d_Law_792 rfl (lv_at hl 0 rfl) ?_
  refine lv_iload_n G.1 G.2.1 d_Law_793 rfl (lv_at hl 3 rfl) ?_
  refine lv_iconst (v := nI 3) G.1 G.2.1 d_Law_794 (by decide) ?_
  refine lv_iadd G.1 G.2.1 d_Law_795 ?_
  refine tpi (w := nI 3) (by decide) ?_
  refine va_sld G.1 G.2.1 hX hbl hbA hS (nI_inn (n := 6) (a := 3) (by decide) (by decide)) d_Law_796 ?_
  refine tpi (w := (xs 3)) (by rw [nI_clamp (by decide)]) ?_
  refine kEi (wr := []) G (kV (As := [.int (xs 1), .int (xs 2), .int (xs 3)]) (rest := [.int (-1)]) G hP hD hS [0, 1, 2, 3, 4] rfl rfl (c_Mo_run l D g h0X (xs 1) (xs 2) (xs 3) fsX owX v0X v1X v2X v3X fw0X fw1X fw2X H.size glenX gk0X gw0X gt0X gw1X gt1X gw2X gt2X) w_Mo_run q4015 rfl rfl ⟨Nat.le_of_ble_eq_true rfl, Nat.le_of_ble_eq_true rfl⟩ (fun _ h => absurd h List.not_mem_nil) 0 (ci := 14) rfl rfl rfl hl.1 rfl (Nat.le_of_ble_eq_true rfl) rfl ⟨Nat.le_of_ble_eq_true rfl, (Nat.le_of_ble_eq_true rfl)⟩ d_Law_797) hP hD hS [0, 1, 2, 3, 4] [] rfl rfl rfl rfl (fun r_3 u_4 H locs hw hP hD hS hzH => ?_)
  have hw : r_3 = (-1) := hw
  have hP : va_P D CL [] H := hP
  have hD : va_D A [] := hD
  subst hw
  refine tpst (w := [.int (-1), .int (-1)]) rfl ?_
  refine lv_icmp_eq (tgt := 1768) G.1 G.2.1 d_Law_800 (by decide) (fun c800 => ?_) (fun c800 => absurd c800 (fun h => h rfl))
  refine W.eq (g2 := F0 m 1768 ls []) rfl ?_
  refine lv_iinc (v := nI 6) (lv' := [(3, .int (nI 6)), (0, .ref b), (1, .ref h0), (2, .ref h0X)]) G.1 G.2.1 d_Law_1768 hl (k := 3) rfl (show (nI 0) + Int32.ofInt 6 = nI 6 from by decide) (by decide) rfl (fun ls hl => ?_)
  refine lv_goto (tgt := 18) G.1 G.2.1 d_Law_1771 (by decide) ?_
  refine lv_iload_n G.1 G.2.1 d_Law_18 rfl (lv_at hl 0 rfl) ?_
  refine lv_aload_n G.1 G.2.1 d_Law_19 rfl (lv_at hl 1 rfl) ?_
  refine va_slen G.1 G.2.1 hX hbl hbA hS d_Law_20 ?_
  refine tpi (w := nI 6) rfl ?_
  refine lv_bipush (v := nI 6) G.1 G.2.1 d_Law_21 (by decide) ?_
  refine lv_isub G.1 G.2.1 d_Law_23 ?_
  refine tpi (w := nI 0) (by decide) ?_
  refine lv_icmp_gt (tgt := 1774) G.1 G.2.1 d_Law_24 (by decide) (fun c24 => ?_) (fun c24 => absurd c24 (by decide))
  refine lv_iconst (v := nI 1) G.1 G.2.1 d_Law_1774 (by decide) ?_
  refine va_forget (fun q hq => hAA _ (hS.2.2 q hq)) ?_
  refine W.widen (k := 600002) (n := 7302232) (Nat.le_of_ble_eq_true rfl) (Nat.le_of_ble_eq_true rfl) ?_
  exact lw_ret G.1 G.2.1 G.2.2.2.1 G.2.2.2.2.1 d_Law_1775
theorem q2108 : Cond.code y_Cw_started b_Cw_started 4 (some .int) ∈ lw_ok := lw_okmem (List.mem_of_getElem? (i := 2108) (by decide +kernel)) rfl
theorem q2106 : Cond.instanceMethod y_Cw_started ∈ lw_ok := lw_okmem (List.mem_of_getElem? (i := 2106) (by decide +kernel)) rfl
theorem q2107 : Cond.selects y_Cw_started.cls y_Cw_started y_Cw_started ∈ lw_ok := lw_okmem (List.mem_of_getElem? (i := 2107) (by decide +kernel)) rfl
theorem w_Cw_started : CWv y_Cw_started b_Cw_started 4 (some .int) 2 ∧ Cond.instanceMethod y_Cw_started ∈ lw_ok ∧ Cond.selects y_Cw_started.cls y_Cw_started y_Cw_started ∈ lw_ok := ⟨⟨q2108, q329, by decide +kernel, by decide +kernel, by decide +kernel⟩, q2106, q2107⟩
theorem q2105 : Cond.methodLink "ClassWorksLaw" 87 y_Cw_started ∈ lw_ok := lw_okmem (List.mem_of_getElem? (i := 2105) (by decide +kernel)) rfl
theorem q4022 : Cond.code y_Mo_started b_Mo_started 3 (some .int) ∈ lw_ok := lw_okmem (List.mem_of_getElem? (i := 4022) (by decide +kernel)) rfl
theorem q4020 : Cond.instanceMethod y_Mo_started ∈ lw_ok := lw_okmem (List.mem_of_getElem? (i := 4020) (by decide +kernel)) rfl
theorem q4021 : Cond.selects y_Mo_started.cls y_Mo_started y_Mo_started ∈ lw_ok := lw_okmem (List.mem_of_getElem? (i := 4021) (by decide +kernel)) rfl
theorem w_Mo_started : CWv y_Mo_started b_Mo_started 3 (some .int) 2 ∧ Cond.instanceMethod y_Mo_started ∈ lw_ok ∧ Cond.selects y_Mo_started.cls y_Mo_started y_Mo_started ∈ lw_ok := ⟨⟨q4022, q348, by decide +kernel, by decide +kernel, by decide +kernel⟩, q4020, q4021⟩
theorem q4019 : Cond.methodLink "ClassWorksLaw" 90 y_Mo_started ∈ lw_ok := lw_okmem (List.mem_of_getElem? (i := 4019) (by decide +kernel)) rfl
theorem d_Law_805 : decode code 805 = .ok (.aload_n 1, 1) := by decide +kernel
theorem d_Law_806 : decode code 806 = .ok (.aload_n 0, 1) := by decide +kernel
theorem d_Law_807 : decode code 807 = .ok (.iload_n 3, 1) := by decide +kernel
theorem d_Law_808 : decode code 808 = .ok (.iconst 1, 1) := by decide +kernel
theorem d_Law_809 : decode code 809 = .ok (.iadd, 1) := by decide +kernel
theorem d_Law_810 : decode code 810 = .ok (.iaload, 1) := by decide +kernel
theorem d_Law_811 : decode code 811 = .ok (.aload_n 0, 1) := by decide +kernel
theorem d_Law_812 : decode code 812 = .ok (.iload_n 3, 1) := by decide +kernel
theorem d_Law_813 : decode code 813 = .ok (.iconst 2, 1) := by decide +kernel
theorem d_Law_814 : decode code 814 = .ok (.iadd, 1) := by decide +kernel
theorem d_Law_815 : decode code 815 = .ok (.iaload, 1) := by decide +kernel
theorem d_Law_816 : decode code 816 = .ok (.invokevirtual 87, 3) := by decide +kernel
theorem d_Law_819 : decode code 819 = .ok (.aload_n 2, 1) := by decide +kernel
theorem d_Law_820 : decode code 820 = .ok (.aload_n 0, 1) := by decide +kernel
theorem d_Law_821 : decode code 821 = .ok (.iload_n 3, 1) := by decide +kernel
theorem d_Law_822 : decode code 822 = .ok (.iconst 1, 1) := by decide +kernel
theorem d_Law_823 : decode code 823 = .ok (.iadd, 1) := by decide +kernel
theorem d_Law_824 : decode code 824 = .ok (.iaload, 1) := by decide +kernel
theorem d_Law_825 : decode code 825 = .ok (.aload_n 0, 1) := by decide +kernel
theorem d_Law_826 : decode code 826 = .ok (.iload_n 3, 1) := by decide +kernel
theorem d_Law_827 : decode code 827 = .ok (.iconst 2, 1) := by decide +kernel
theorem d_Law_828 : decode code 828 = .ok (.iadd, 1) := by decide +kernel
theorem d_Law_829 : decode code 829 = .ok (.iaload, 1) := by decide +kernel
theorem d_Law_830 : decode code 830 = .ok (.invokevirtual 90, 3) := by decide +kernel
theorem d_Law_833 : decode code 833 = .ok (.if_icmp .eq 935, 3) := by decide +kernel
set_option maxHeartbeats 4000000 in
set_option maxRecDepth 100000 in
theorem law_started {p : Program} {e : Env} {s : State} {m : MethodId} {below : List Frame} {meth : Method} {c : Code} {l : Launch} {D : va_G} {g : Nat → ClassId} {sl : List SL} {b : Nat} {xs : Nat → Int32} {A : Nat → Prop} (h0 : Nat) (r_cwords : Nat) (r_creader : Nat) (r_cchecker : Nat) (r_cfinder : Nat) (r_cwriter : Nat) (r_cmachines : Nat) (r_ctape : Nat) (r_cstock : Nat) (r_csizes : Nat) (r_cmet : Nat) (r_cfound : Nat) (r_cdraft : Nat) (r_cfewestFor : Nat) (r_cfewestNext : Nat) (mm0 : Nat) (mm1 : Nat) (mm2 : Nat) (mm3 : Nat) (ww0 : Nat) (r_m0heap : Nat) (r_m0runs : Nat) (r_m0counts : Nat) (r_m0traceRow : Nat) (f_m0traceCount : Int32) (r_m0startedList : Nat) (f_m0startedCount : Int32) (f_m0present : Int32) (f_m0quantum : Int32) (f_m0stepsDone : Int32) (f_m0turnSteps : Int32) (f_m0turnMost : Int32) (f_m0turnOver : Int32) (r_m0finder : Nat) (r_m0names : Nat) (f_m0fault : Int32) (f_m0wanted : Int32) (f_m0thrown : Int32) (ww1 : Nat) (r_m1heap : Nat) (r_m1runs : Nat) (r_m1counts : Nat) (r_m1traceRow : Nat) (f_m1traceCount : Int32) (r_m1startedList : Nat) (f_m1startedCount : Int32) (f_m1present : Int32) (f_m1quantum : Int32) (f_m1stepsDone : Int32) (f_m1turnSteps : Int32) (f_m1turnMost : Int32) (f_m1turnOver : Int32) (r_m1finder : Nat) (r_m1names : Nat) (f_m1fault : Int32) (f_m1wanted : Int32) (f_m1thrown : Int32) (ww2 : Nat) (r_m2heap : Nat) (r_m2runs : Nat) (r_m2counts : Nat) (r_m2traceRow : Nat) (f_m2traceCount : Int32) (r_m2startedList : Nat) (f_m2startedCount : Int32) (f_m2present : Int32) (f_m2quantum : Int32) (f_m2stepsDone : Int32) (f_m2turnSteps : Int32) (f_m2turnMost : Int32) (f_m2turnOver : Int32) (r_m2finder : Nat) (r_m2names : Nat) (f_m2fault : Int32) (f_m2wanted : Int32) (f_m2thrown : Int32) (r_w0names : Nat) (f_w0wrongClass : Int32) (f_w0wrongMethod : Int32) (f_w0wrongAt : Int32) (r_w0rows : Nat) (r_w0above : Nat) (r_w0fields : Nat) (r_w0methods : Nat) (r_w0codes : Nat) (r_w0handlers : Nat) (r_w0extra : Nat) (r_w0orders : Nat) (r_w0classNamed : Nat) (f_w0breaks : Int32) (r_w0marks : Nat) (r_w1names : Nat) (f_w1wrongClass : Int32) (f_w1wrongMethod : Int32) (f_w1wrongAt : Int32) (r_w1rows : Nat) (r_w1above : Nat) (r_w1fields : Nat) (r_w1methods : Nat) (r_w1codes : Nat) (r_w1handlers : Nat) (r_w1extra : Nat) (r_w1orders : Nat) (r_w1classNamed : Nat) (f_w1breaks : Int32) (r_w1marks : Nat) (r_w2names : Nat) (f_w2wrongClass : Int32) (f_w2wrongMethod : Int32) (f_w2wrongAt : Int32) (r_w2rows : Nat) (r_w2above : Nat) (r_w2fields : Nat) (r_w2methods : Nat) (r_w2codes : Nat) (r_w2handlers : Nat) (r_w2extra : Nat) (r_w2orders : Nat) (r_w2classNamed : Nat) (f_w2breaks : Int32) (r_w2marks : Nat) (h0X : Nat) (fsX : List Value) (owX : Nat) (v0X : Nat) (v1X : Nat) (v2X : Nat) (v3X : Nat) (fw0X : List Value) (fw1X : List Value) (fw2X : List Value) (G : GV l p s m #[Value.ref b] meth c (⟨"ClassWorksLaw", meth.name, ""⟩ : MethodName) code 4 ret g D sl A) (hX : va_X b 6 xs s s.heap) (hbl : b < s.heap.size) (hbA : ¬ A b) (hAA : ∀ q, A q → s.heap.size ≤ q) {H : Heap} {locs : List Loc} {ls : Array Slot} (glenX : fsX.length = 131) (gk0X : fsX[44]? = some (.ref owX)) (gw0X : fw0X.length = 72) (gt0X : fw0X[0]? = some (.int (nI 0))) (gw1X : fw1X.length = 72) (gt1X : fw1X[0]? = some (.int (nI 0))) (gw2X : fw2X.length = 72) (gt2X : fw2X[0]? = some (.int (nI 0))) (hP : va_P D CL [(h0, .inr (11, [.ref r_cwords, .ref r_creader, .ref r_cchecker, .ref r_cfinder, .ref r_cwriter, .ref r_cmachines, .ref r_ctape, .int (nI 0), .int (-2), .int (nI 60000), .ref r_cstock, .ref r_csizes, .ref r_cmet, .ref r_cfound, .int (nI 0), .ref r_cdraft, .int (nI 0), .int (nI 0), .ref r_cfewestFor, .ref r_cfewestNext])), (r_cmachines, .inl (g 4, 4, .inr (.inr (.inr (.inr (va_up (va_up (va_up (va_up (fun _ => none) 0 (some mm0)) 1 (some mm1)) 2 (some mm2)) 3 (some mm3))))))), (mm0, .inr (4, [.ref ww0, .ref r_m0heap, .ref r_m0runs, .ref r_m0counts, .ref r_m0traceRow, .int f_m0traceCount, .ref r_m0startedList, .int f_m0startedCount, .int f_m0present, .int f_m0quantum, .int f_m0stepsDone, .int f_m0turnSteps, .int f_m0turnMost, .int f_m0turnOver, .ref r_m0finder, .ref r_m0names, .int f_m0fault, .int f_m0wanted, .int f_m0thrown])), (mm1, .inr (4, [.ref ww1, .ref r_m1heap, .ref r_m1runs, .ref r_m1counts, .ref r_m1traceRow, .int f_m1traceCount, .ref r_m1startedList, .int f_m1startedCount, .int f_m1present, .int f_m1quantum, .int f_m1stepsDone, .int f_m1turnSteps, .int f_m1turnMost, .int f_m1turnOver, .ref r_m1finder, .ref r_m1names, .int f_m1fault, .int f_m1wanted, .int f_m1thrown])), (mm2, .inr (4, [.ref ww2, .ref r_m2heap, .ref r_m2runs, .ref r_m2counts, .ref r_m2traceRow, .int f_m2traceCount, .ref r_m2startedList, .int f_m2startedCount, .int f_m2present, .int f_m2quantum, .int f_m2stepsDone, .int f_m2turnSteps, .int f_m2turnMost, .int f_m2turnOver, .ref r_m2finder, .ref r_m2names, .int f_m2fault, .int f_m2wanted, .int f_m2thrown])), (ww0, .inr (9, [.ref r_w0names, .int (nI 0), .int (nI 21), .int f_w0wrongClass, .int f_w0wrongMethod, .int f_w0wrongAt, .ref r_w0rows, .ref r_w0above, .ref r_w0fields, .ref r_w0methods, .ref r_w0codes, .ref r_w0handlers, .ref r_w0extra, .ref r_w0orders, .ref r_w0classNamed, .int f_w0breaks, .ref r_w0marks])), (ww1, .inr (9, [.ref r_w1names, .int (nI 0), .int (nI 21), .int f_w1wrongClass, .int f_w1wrongMethod, .int f_w1wrongAt, .ref r_w1rows, .ref r_w1above, .ref r_w1fields, .ref r_w1methods, .ref r_w1codes, .ref r_w1handlers, .ref r_w1extra, .ref r_w1orders, .ref r_w1classNamed, .int f_w1breaks, .ref r_w1marks])), (ww2, .inr (9, [.ref r_w2names, .int (nI 0), .int (nI 21), .int f_w2wrongClass, .int f_w2wrongMethod, .int f_w2wrongAt, .ref r_w2rows, .ref r_w2above, .ref r_w2fields, .ref r_w2methods, .ref r_w2codes, .ref r_w2handlers, .ref r_w2extra, .ref r_w2orders, .ref r_w2classNamed, .int f_w2breaks, .ref r_w2marks])), (h0X, .inr (14, fsX)), (owX, .inl (g 6, 4, .inr (.inr (.inr (.inr (va_up (va_up (va_up (va_up (fun _ => none) 0 (some v0X)) 1 (some v1X)) 2 (some v2X)) 3 (some v3X))))))), (v0X, .inr (13, fw0X)), (v1X, .inr (13, fw1X)), (v2X, .inr (13, fw2X))] H) (hD : va_D A [(h0, .inr (11, [.ref r_cwords, .ref r_creader, .ref r_cchecker, .ref r_cfinder, .ref r_cwriter, .ref r_cmachines, .ref r_ctape, .int (nI 0), .int (-2), .int (nI 60000), .ref r_cstock, .ref r_csizes, .ref r_cmet, .ref r_cfound, .int (nI 0), .ref r_cdraft, .int (nI 0), .int (nI 0), .ref r_cfewestFor, .ref r_cfewestNext])), (r_cmachines, .inl (g 4, 4, .inr (.inr (.inr (.inr (va_up (va_up (va_up (va_up (fun _ => none) 0 (some mm0)) 1 (some mm1)) 2 (some mm2)) 3 (some mm3))))))), (mm0, .inr (4, [.ref ww0, .ref r_m0heap, .ref r_m0runs, .ref r_m0counts, .ref r_m0traceRow, .int f_m0traceCount, .ref r_m0startedList, .int f_m0startedCount, .int f_m0present, .int f_m0quantum, .int f_m0stepsDone, .int f_m0turnSteps, .int f_m0turnMost, .int f_m0turnOver, .ref r_m0finder, .ref r_m0names, .int f_m0fault, .int f_m0wanted, .int f_m0thrown])), (mm1, .inr (4, [.ref ww1, .ref r_m1heap, .ref r_m1runs, .ref r_m1counts, .ref r_m1traceRow, .int f_m1traceCount, .ref r_m1startedList, .int f_m1startedCount, .int f_m1present, .int f_m1quantum, .int f_m1stepsDone, .int f_m1turnSteps, .int f_m1turnMost, .int f_m1turnOver, .ref r_m1finder, .ref r_m1names, .int f_m1fault, .int f_m1wanted, .int f_m1thrown])), (mm2, .inr (4, [.ref ww2, .ref r_m2heap, .ref r_m2runs, .ref r_m2counts, .ref r_m2traceRow, .int f_m2traceCount, .ref r_m2startedList, .int f_m2startedCount, .int f_m2present, .int f_m2quantum, .int f_m2stepsDone, .int f_m2turnSteps, .int f_m2turnMost, .int f_m2turnOver, .ref r_m2finder, .ref r_m2names, .int f_m2fault, .int f_m2wanted, .int f_m2thrown])), (ww0, .inr (9, [.ref r_w0names, .int (nI 0), .int (nI 21), .int f_w0wrongClass, .int f_w0wrongMethod, .int f_w0wrongAt, .ref r_w0rows, .ref r_w0above, .ref r_w0fields, .ref r_w0methods, .ref r_w0codes, .ref r_w0handlers, .ref r_w0extra, .ref r_w0orders, .ref r_w0classNamed, .int f_w0breaks, .ref r_w0marks])), (ww1, .inr (9, [.ref r_w1names, .int (nI 0), .int (nI 21), .int f_w1wrongClass, .int f_w1wrongMethod, .int f_w1wrongAt, .ref r_w1rows, .ref r_w1above, .ref r_w1fields, .ref r_w1methods, .ref r_w1codes, .ref r_w1handlers, .ref r_w1extra, .ref r_w1orders, .ref r_w1classNamed, .int f_w1breaks, .ref r_w1marks])), (ww2, .inr (9, [.ref r_w2names, .int (nI 0), .int (nI 21), .int f_w2wrongClass, .int f_w2wrongMethod, .int f_w2wrongAt, .ref r_w2rows, .ref r_w2above, .ref r_w2fields, .ref r_w2methods, .ref r_w2codes, .ref r_w2handlers, .ref r_w2extra, .ref r_w2orders, .ref r_w2classNamed, .int f_w2breaks, .ref r_w2marks])), (h0X, .inr (14, fsX)), (owX, .inl (g 6, 4, .inr (.inr (.inr (.inr (va_up (va_up (va_up (va_up (fun _ => none) 0 (some v0X)) 1 (some v1X)) 2 (some v2X)) 3 (some v3X))))))), (v0X, .inr (13, fw0X)), (v1X, .inr (13, fw1X)), (v2X, .inr (13, fw2X))]) (hS : va_S A s.heap H locs) (hl : lv_has ls 4 [(0, .ref b), (1, .ref h0), (2, .ref h0X), (3, .int (nI 0))]) : W p l e room_1 s m #[Value.ref b] below meth c H locs 702 488194 (lw_Z below #[Value.ref b] s) (F0 m 805 ls []) := by
  refine lv_aload_n G.1 G.2.1 d_Law_805 rfl (lv_at hl 1 rfl) ?_
  refine lv_aload_n G.1 G.2.1 d_Law_806 rfl (lv_at hl 0 rfl) ?_
  refine lv_iload_n G.1 G.2.1 d_Law_807 rfl (lv_at hl 3 rfl) ?_
  refine lv_iconst (v := nI 1) G.1 G.2.1 d_Law_808 (by decide) ?_
  refine lv_iadd G.1 G.2.1 d_Law_809 ?_
  refine tpi (w := nI 1) (by decide) ?_
  refine va_sld G.1 G.2.1 hX hbl hbA hS (nI_inn (n := 6) (a := 1) (by decide) (by decide)) d_Law_810 ?_
  refine tpi (w := (xs 1)) (by rw [nI_clamp (by decide)]) ?_
  refine lv_aload_n G.1 G.2.1 d_Law_811 rfl (lv_at hl 0 rfl) ?_
  refine lv_iload_n G.1 G.2.1 d_Law_812 rfl (lv_at hl 3 rfl) ?_
  refine lv_iconst (v := nI 2) G.1 G.2.1 d_Law_813 (by decide) ?_
  refine lv_iadd G.1 G.2.1 d_Law_814 ?_
  refine tpi (w := nI 2) (by decide) ?_
  refine va_sld G.1 G.2.1 hX hbl hbA hS (nI_inn (n := 6) (a := 2) (by decide) (by decide)) d_Law_815 ?_
  refine tpi (w := (xs 2)) (by rw [nI_clamp (by decide)]) ?_
  refine W.eq (g2 := F0 m 816 ls [.int (xs 2), .int (xs 1), .ref h0]) rfl ?_
  refine kEi (wr := [(h0X, .inr (14, fsX)), (owX, .inl (g 6, 4, .inr (.inr (.inr (.inr (va_up (va_up (va_up (va_up (fun _ => none) 0 (some v0X)) 1 (some v1X)) 2 (some v2X)) 3 (some v3X))))))), (v0X, .inr (13, fw0X)), (v1X, .inr (13, fw1X)), (v2X, .inr (13, fw2X))]) G (kV (As := [.int (xs 1), .int (xs 2)]) (rest := []) G hP hD hS [0, 1, 2, 3, 4, 5, 6, 7] rfl rfl (c_Cw_started l D g h0 (xs 1) (xs 2) r_cwords r_creader r_cchecker r_cfinder r_cwriter r_cmachines r_ctape r_cstock r_csizes r_cmet r_cfound r_cdraft r_cfewestFor r_cfewestNext mm0 mm1 mm2 mm3 ww0 r_m0heap r_m0runs r_m0counts r_m0traceRow f_m0traceCount r_m0startedList f_m0startedCount f_m0present f_m0quantum f_m0stepsDone f_m0turnSteps f_m0turnMost f_m0turnOver r_m0finder r_m0names f_m0fault f_m0wanted f_m0thrown ww1 r_m1heap r_m1runs r_m1counts r_m1traceRow f_m1traceCount r_m1startedList f_m1startedCount f_m1present f_m1quantum f_m1stepsDone f_m1turnSteps f_m1turnMost f_m1turnOver r_m1finder r_m1names f_m1fault f_m1wanted f_m1thrown ww2 r_m2heap r_m2runs r_m2counts r_m2traceRow f_m2traceCount r_m2startedList f_m2startedCount f_m2present f_m2quantum f_m2stepsDone f_m2turnSteps f_m2turnMost f_m2turnOver r_m2finder r_m2names f_m2fault f_m2wanted f_m2thrown r_w0names f_w0wrongClass f_w0wrongMethod f_w0wrongAt r_w0rows r_w0above r_w0fields r_w0methods r_w0codes r_w0handlers r_w0extra r_w0orders r_w0classNamed f_w0breaks r_w0marks r_w1names f_w1wrongClass f_w1wrongMethod f_w1wrongAt r_w1rows r_w1above r_w1fields r_w1methods r_w1codes r_w1handlers r_w1extra r_w1orders r_w1classNamed f_w1breaks r_w1marks r_w2names f_w2wrongClass f_w2wrongMethod f_w2wrongAt r_w2rows r_w2above r_w2fields r_w2methods r_w2codes r_w2handlers r_w2extra r_w2orders r_w2classNamed f_w2breaks r_w2marks H.size ) w_Cw_started q2105 rfl rfl ⟨Nat.le_of_ble_eq_true rfl, Nat.le_of_ble_eq_true rfl⟩ (fun _ h => absurd h List.not_mem_nil) 0 (ci := 11) rfl rfl rfl hl.1 rfl (Nat.le_of_ble_eq_true rfl) rfl ⟨Nat.le_of_ble_eq_true rfl, (Nat.le_of_ble_eq_true rfl)⟩ d_Law_816) hP hD hS [0, 1, 2, 3, 4, 5, 6, 7] [8, 9, 10, 11, 12] rfl rfl rfl rfl (fun r_1 u_2 H locs hw hP hD hS hzH => ?_)
  have hw : r_1 = (-1) := hw
  have hP : va_P D CL [(h0X, .inr (14, fsX)), (owX, .inl (g 6, 4, .inr (.inr (.inr (.inr (va_up (va_up (va_up (va_up (fun _ => none) 0 (some v0X)) 1 (some v1X)) 2 (some v2X)) 3 (some v3X))))))), (v0X, .inr (13, fw0X)), (v1X, .inr (13, fw1X)), (v2X, .inr (13, fw2X))] H := hP
  have hD : va_D A [(h0X, .inr (14, fsX)), (owX, .inl (g 6, 4, .inr (.inr (.inr (.inr (va_up (va_up (va_up (va_up (fun _ => none) 0 (some v0X)) 1 (some v1X)) 2 (some v2X)) 3 (some v3X))))))), (v0X, .inr (13, fw0X)), (v1X, .inr (13, fw1X)), (v2X, .inr (13, fw2X))] := hD
  subst hw
  refine tpst (w := [.int (-1)]) rfl ?_
  refine lv_aload_n G.1 G.2.1 d_Law_819 rfl (lv_at hl 2 rfl) ?_
  refine lv_aload_n G.1 G.2.1 d_Law_820 rfl (lv_at hl 0 rfl) ?_
  refine lv_iload_n G.1 G.2.1 d_Law_821 rfl (lv_at hl 3 rfl) ?_
  refine lv_iconst (v := nI 1) G.1 G.2.1 d_Law_822 (by decide) ?_
  refine lv_iadd G.1 G.2.1 d_Law_823 ?_
  refine tpi (w := nI 1) (by decide) ?_
  refine va_sld G.1 G.2.1 hX hbl hbA hS (nI_inn (n := 6) (a := 1) (by decide) (by decide)) d_Law_824 ?_
  refine tpi (w := (xs 1)) (by rw [nI_clamp (by decide)]) ?_
  refine lv_aload_n G.1 G.2.1 d_Law_825 rfl (lv_at hl 0 rfl) ?_
  refine lv_iload_n G.1 G.2.1 d_Law_826 rfl (lv_at hl 3 rfl) ?_
  refine lv_iconst (v := nI 2) G.1 G.2.1 d_Law_827 (by decide) ?_
  refine lv_iadd G.1 G.2.1 d_Law_828 ?_
  refine tpi (w := nI 2) (by decide) ?_
  refine va_sld G.1 G.2.1 hX hbl hbA hS (nI_inn (n := 6) (a := 2) (by decide) (by decide)) d_Law_829 ?_
  refine tpi (w := (xs 2)) (by rw [nI_clamp (by decide)]) ?_
  refine W.eq (g2 := F0 m 830 ls [.int (xs 2), .int (xs 1), .ref h0X, .int (-1)]) rfl ?_
  refine kEi (wr := []) G (kV (As := [.int (xs 1), .int (xs 2)]) (rest := [.int (-1)]) G hP hD hS [0, 1, 2, 3, 4] rfl rfl (c_Mo_started l D g h0X (xs 1) (xs 2) fsX owX v0X v1X v2X v3X fw0X fw1X fw2X H.size glenX gk0X gw0X gt0X gw1X gt1X gw2X gt2X) w_Mo_started q4019 rfl rfl ⟨Nat.le_of_ble_eq_true rfl, Nat.le_of_ble_eq_true rfl⟩ (fun _ h => absurd h List.not_mem_nil) 0 (ci := 14) rfl rfl rfl hl.1 rfl (Nat.le_of_ble_eq_true rfl) rfl ⟨Nat.le_of_ble_eq_true rfl, (Nat.le_of_ble_eq_true rfl)⟩ d_Law_830) hP hD hS [0, 1, 2, 3, 4] [] rfl rfl rfl rfl (fun r_3 u_4 H locs hw hP hD hS hzH => ?_)
  have hw : r_3 = (-1) := hw
  have hP : va_P D CL [] H := hP
  have hD : va_D A [] := hD
  subst hw
  refine tpst (w := [.int (-1), .int (-1)]) rfl ?_
  refine lv_icmp_eq (tgt := 1768) G.1 G.2.1 d_Law_833 (by decide) (fun c833 => ?_) (fun c833 => absurd c833 (fun h => h rfl))
  refine lv_iinc (v := nI 6) (lv' := [(3, .int (nI 6)), (0, .ref b), (1, .ref h0), (2, .ref h0X)]) G.1 G.2.1 d_Law_1768 hl (k := 3) rfl (show (nI 0) + Int32.ofInt 6 = nI 6 from by decide) (by decide) rfl (fun ls hl => ?_)
  refine lv_goto (tgt := 18) G.1 G.2.1 d_Law_1771 (by decide) ?_
  refine lv_iload_n G.1 G.2.1 d_Law_18 rfl (lv_at hl 0 rfl) ?_
  refine lv_aload_n G.1 G.2.1 d_Law_19 rfl (lv_at hl 1 rfl) ?_
  refine va_slen G.1 G.2.1 hX hbl hbA hS d_Law_20 ?_
  refine tpi (w := nI 6) rfl ?_
  refine lv_bipush (v := nI 6) G.1 G.2.1 d_Law_21 (by decide) ?_
  refine lv_isub G.1 G.2.1 d_Law_23 ?_
  refine tpi (w := nI 0) (by decide) ?_
  refine lv_icmp_gt (tgt := 1774) G.1 G.2.1 d_Law_24 (by decide) (fun c24 => ?_) (fun c24 => absurd c24 (by decide))
  refine lv_iconst (v := nI 1) G.1 G.2.1 d_Law_1774 (by decide) ?_
  refine va_forget (fun q hq => hAA _ (hS.2.2 q hq)) ?_
  refine W.widen (k := 600002) (n := 7302232) (Nat.le_of_ble_eq_true rfl) (Nat.le_of_ble_eq_true rfl) ?_
  exact lw_ret G.1 G.2.1 G.2.2.2.1 G.2.2.2.2.1 d_Law_1775
theorem q2112 : Cond.code y_Cw_value b_Cw_value 9 (some .int) ∈ lw_ok := lw_okmem (List.mem_of_getElem? (i := 2112) (by decide +kernel)) rfl
theorem q2110 : Cond.instanceMethod y_Cw_value ∈ lw_ok := lw_okmem (List.mem_of_getElem? (i := 2110) (by decide +kernel)) rfl
theorem q2111 : Cond.selects y_Cw_value.cls y_Cw_value y_Cw_value ∈ lw_ok := lw_okmem (List.mem_of_getElem? (i := 2111) (by decide +kernel)) rfl
theorem w_Cw_value : CWv y_Cw_value b_Cw_value 9 (some .int) 4 ∧ Cond.instanceMethod y_Cw_value ∈ lw_ok ∧ Cond.selects y_Cw_value.cls y_Cw_value y_Cw_value ∈ lw_ok := ⟨⟨q2112, q329, by decide +kernel, by decide +kernel, by decide +kernel⟩, q2110, q2111⟩
theorem q2109 : Cond.methodLink "ClassWorksLaw" 91 y_Cw_value ∈ lw_ok := lw_okmem (List.mem_of_getElem? (i := 2109) (by decide +kernel)) rfl
theorem q4026 : Cond.code y_Mo_value b_Mo_value 9 (some .int) ∈ lw_ok := lw_okmem (List.mem_of_getElem? (i := 4026) (by decide +kernel)) rfl
theorem q4024 : Cond.instanceMethod y_Mo_value ∈ lw_ok := lw_okmem (List.mem_of_getElem? (i := 4024) (by decide +kernel)) rfl
theorem q4025 : Cond.selects y_Mo_value.cls y_Mo_value y_Mo_value ∈ lw_ok := lw_okmem (List.mem_of_getElem? (i := 4025) (by decide +kernel)) rfl
theorem w_Mo_value : CWv y_Mo_value b_Mo_value 9 (some .int) 4 ∧ Cond.instanceMethod y_Mo_value ∈ lw_ok ∧ Cond.selects y_Mo_value.cls y_Mo_value y_Mo_value ∈ lw_ok := ⟨⟨q4026, q348, by decide +kernel, by decide +kernel, by decide +kernel⟩, q4024, q4025⟩
theorem q4023 : Cond.methodLink "ClassWorksLaw" 95 y_Mo_value ∈ lw_ok := lw_okmem (List.mem_of_getElem? (i := 4023) (by decide +kernel)) rfl
theorem d_Law_838 : decode code 838 = .ok (.aload_n 1, 1) := by decide +kernel
theorem d_Law_839 : decode code 839 = .ok (.aload_n 0, 1) := by decide +kernel
theorem d_Law_840 : decode code 840 = .ok (.iload_n 3, 1) := by decide +kernel
theorem d_Law_841 : decode code 841 = .ok (.iconst 1, 1) := by decide +kernel
theorem d_Law_842 : decode code 842 = .ok (.iadd, 1) := by decide +kernel
theorem d_Law_843 : decode code 843 = .ok (.iaload, 1) := by decide +kernel
theorem d_Law_844 : decode code 844 = .ok (.aload_n 0, 1) := by decide +kernel
theorem d_Law_845 : decode code 845 = .ok (.iload_n 3, 1) := by decide +kernel
theorem d_Law_846 : decode code 846 = .ok (.iconst 2, 1) := by decide +kernel
theorem d_Law_847 : decode code 847 = .ok (.iadd, 1) := by decide +kernel
theorem d_Law_848 : decode code 848 = .ok (.iaload, 1) := by decide +kernel
theorem d_Law_849 : decode code 849 = .ok (.aload_n 0, 1) := by decide +kernel
theorem d_Law_850 : decode code 850 = .ok (.iload_n 3, 1) := by decide +kernel
theorem d_Law_851 : decode code 851 = .ok (.iconst 3, 1) := by decide +kernel
theorem d_Law_852 : decode code 852 = .ok (.iadd, 1) := by decide +kernel
theorem d_Law_853 : decode code 853 = .ok (.iaload, 1) := by decide +kernel
theorem d_Law_854 : decode code 854 = .ok (.ifCond .eq 7, 3) := by decide +kernel
theorem d_Law_857 : decode code 857 = .ok (.iconst 1, 1) := by decide +kernel
theorem d_Law_858 : decode code 858 = .ok (.goto 4, 3) := by decide +kernel
theorem d_Law_861 : decode code 861 = .ok (.iconst 0, 1) := by decide +kernel
theorem d_Law_862 : decode code 862 = .ok (.aload_n 0, 1) := by decide +kernel
theorem d_Law_863 : decode code 863 = .ok (.iload_n 3, 1) := by decide +kernel
theorem d_Law_864 : decode code 864 = .ok (.iconst 4, 1) := by decide +kernel
theorem d_Law_865 : decode code 865 = .ok (.iadd, 1) := by decide +kernel
theorem d_Law_866 : decode code 866 = .ok (.iaload, 1) := by decide +kernel
theorem d_Law_867 : decode code 867 = .ok (.invokevirtual 91, 3) := by decide +kernel
theorem d_Law_870 : decode code 870 = .ok (.aload_n 2, 1) := by decide +kernel
theorem d_Law_871 : decode code 871 = .ok (.aload_n 0, 1) := by decide +kernel
theorem d_Law_872 : decode code 872 = .ok (.iload_n 3, 1) := by decide +kernel
theorem d_Law_873 : decode code 873 = .ok (.iconst 1, 1) := by decide +kernel
theorem d_Law_874 : decode code 874 = .ok (.iadd, 1) := by decide +kernel
theorem d_Law_875 : decode code 875 = .ok (.iaload, 1) := by decide +kernel
theorem d_Law_876 : decode code 876 = .ok (.aload_n 0, 1) := by decide +kernel
theorem d_Law_877 : decode code 877 = .ok (.iload_n 3, 1) := by decide +kernel
theorem d_Law_878 : decode code 878 = .ok (.iconst 2, 1) := by decide +kernel
theorem d_Law_879 : decode code 879 = .ok (.iadd, 1) := by decide +kernel
theorem d_Law_880 : decode code 880 = .ok (.iaload, 1) := by decide +kernel
theorem d_Law_881 : decode code 881 = .ok (.aload_n 0, 1) := by decide +kernel
theorem d_Law_882 : decode code 882 = .ok (.iload_n 3, 1) := by decide +kernel
theorem d_Law_883 : decode code 883 = .ok (.iconst 3, 1) := by decide +kernel
theorem d_Law_884 : decode code 884 = .ok (.iadd, 1) := by decide +kernel
theorem d_Law_885 : decode code 885 = .ok (.iaload, 1) := by decide +kernel
theorem d_Law_886 : decode code 886 = .ok (.ifCond .eq 7, 3) := by decide +kernel
theorem d_Law_889 : decode code 889 = .ok (.iconst 1, 1) := by decide +kernel
theorem d_Law_890 : decode code 890 = .ok (.goto 4, 3) := by decide +kernel
theorem d_Law_893 : decode code 893 = .ok (.iconst 0, 1) := by decide +kernel
theorem d_Law_894 : decode code 894 = .ok (.aload_n 0, 1) := by decide +kernel
theorem d_Law_895 : decode code 895 = .ok (.iload_n 3, 1) := by decide +kernel
theorem d_Law_896 : decode code 896 = .ok (.iconst 4, 1) := by decide +kernel
theorem d_Law_897 : decode code 897 = .ok (.iadd, 1) := by decide +kernel
theorem d_Law_898 : decode code 898 = .ok (.iaload, 1) := by decide +kernel
theorem d_Law_899 : decode code 899 = .ok (.invokevirtual 95, 3) := by decide +kernel
theorem d_Law_902 : decode code 902 = .ok (.if_icmp .eq 866, 3) := by decide +kernel
set_option maxHeartbeats 4000000 in
set_option maxRecDepth 100000 in
theorem law_value {p : Program} {e : Env} {s : State} {m : MethodId} {below : List Frame} {meth : Method} {c : Code} {l : Launch} {D : va_G} {g : Nat → ClassId} {sl : List SL} {b : Nat} {xs : Nat → Int32} {A : Nat → Prop} (h0 : Nat) (r_cwords : Nat) (r_creader : Nat) (r_cchecker : Nat) (r_cfinder : Nat) (r_cwriter : Nat) (r_cmachines : Nat) (r_ctape : Nat) (r_cstock : Nat) (r_csizes : Nat) (r_cmet : Nat) (r_cfound : Nat) (r_cdraft : Nat) (r_cfewestFor : Nat) (r_cfewestNext : Nat) (mm0 : Nat) (mm1 : Nat) (mm2 : Nat) (mm3 : Nat) (ww0 : Nat) (r_m0heap : Nat) (r_m0runs : Nat) (r_m0counts : Nat) (r_m0traceRow : Nat) (f_m0traceCount : Int32) (r_m0startedList : Nat) (f_m0startedCount : Int32) (f_m0present : Int32) (f_m0quantum : Int32) (f_m0stepsDone : Int32) (f_m0turnSteps : Int32) (f_m0turnMost : Int32) (f_m0turnOver : Int32) (r_m0finder : Nat) (r_m0names : Nat) (f_m0fault : Int32) (f_m0wanted : Int32) (f_m0thrown : Int32) (ww1 : Nat) (r_m1heap : Nat) (r_m1runs : Nat) (r_m1counts : Nat) (r_m1traceRow : Nat) (f_m1traceCount : Int32) (r_m1startedList : Nat) (f_m1startedCount : Int32) (f_m1present : Int32) (f_m1quantum : Int32) (f_m1stepsDone : Int32) (f_m1turnSteps : Int32) (f_m1turnMost : Int32) (f_m1turnOver : Int32) (r_m1finder : Nat) (r_m1names : Nat) (f_m1fault : Int32) (f_m1wanted : Int32) (f_m1thrown : Int32) (ww2 : Nat) (r_m2heap : Nat) (r_m2runs : Nat) (r_m2counts : Nat) (r_m2traceRow : Nat) (f_m2traceCount : Int32) (r_m2startedList : Nat) (f_m2startedCount : Int32) (f_m2present : Int32) (f_m2quantum : Int32) (f_m2stepsDone : Int32) (f_m2turnSteps : Int32) (f_m2turnMost : Int32) (f_m2turnOver : Int32) (r_m2finder : Nat) (r_m2names : Nat) (f_m2fault : Int32) (f_m2wanted : Int32) (f_m2thrown : Int32) (r_w0names : Nat) (f_w0wrongClass : Int32) (f_w0wrongMethod : Int32) (f_w0wrongAt : Int32) (r_w0rows : Nat) (r_w0above : Nat) (r_w0fields : Nat) (r_w0methods : Nat) (r_w0codes : Nat) (r_w0handlers : Nat) (r_w0extra : Nat) (r_w0orders : Nat) (r_w0classNamed : Nat) (f_w0breaks : Int32) (r_w0marks : Nat) (r_w1names : Nat) (f_w1wrongClass : Int32) (f_w1wrongMethod : Int32) (f_w1wrongAt : Int32) (r_w1rows : Nat) (r_w1above : Nat) (r_w1fields : Nat) (r_w1methods : Nat) (r_w1codes : Nat) (r_w1handlers : Nat) (r_w1extra : Nat) (r_w1orders : Nat) (r_w1classNamed : Nat) (f_w1breaks : Int32) (r_w1marks : Nat) (r_w2names : Nat) (f_w2wrongClass : Int32) (f_w2wrongMethod : Int32) (f_w2wrongAt : Int32) (r_w2rows : Nat) (r_w2above : Nat) (r_w2fields : Nat) (r_w2methods : Nat) (r_w2codes : Nat) (r_w2handlers : Nat) (r_w2extra : Nat) (r_w2orders : Nat) (r_w2classNamed : Nat) (f_w2breaks : Int32) (r_w2marks : Nat) (h0X : Nat) (fsX : List Value) (owX : Nat) (v0X : Nat) (v1X : Nat) (v2X : Nat) (v3X : Nat) (fw0X : List Value) (fw1X : List Value) (fw2X : List Value) (G : GV l p s m #[Value.ref b] meth c (⟨"ClassWorksLaw", meth.name, ""⟩ : MethodName) code 4 ret g D sl A) (hX : va_X b 6 xs s s.heap) (hbl : b < s.heap.size) (hbA : ¬ A b) (hAA : ∀ q, A q → s.heap.size ≤ q) {H : Heap} {locs : List Loc} {ls : Array Slot} (glenX : fsX.length = 131) (gk0X : fsX[44]? = some (.ref owX)) (gw0X : fw0X.length = 72) (gt0X : fw0X[0]? = some (.int (nI 0))) (gw1X : fw1X.length = 72) (gt1X : fw1X[0]? = some (.int (nI 0))) (gw2X : fw2X.length = 72) (gt2X : fw2X[0]? = some (.int (nI 0))) (hP : va_P D CL [(h0, .inr (11, [.ref r_cwords, .ref r_creader, .ref r_cchecker, .ref r_cfinder, .ref r_cwriter, .ref r_cmachines, .ref r_ctape, .int (nI 0), .int (-2), .int (nI 60000), .ref r_cstock, .ref r_csizes, .ref r_cmet, .ref r_cfound, .int (nI 0), .ref r_cdraft, .int (nI 0), .int (nI 0), .ref r_cfewestFor, .ref r_cfewestNext])), (r_cmachines, .inl (g 4, 4, .inr (.inr (.inr (.inr (va_up (va_up (va_up (va_up (fun _ => none) 0 (some mm0)) 1 (some mm1)) 2 (some mm2)) 3 (some mm3))))))), (mm0, .inr (4, [.ref ww0, .ref r_m0heap, .ref r_m0runs, .ref r_m0counts, .ref r_m0traceRow, .int f_m0traceCount, .ref r_m0startedList, .int f_m0startedCount, .int f_m0present, .int f_m0quantum, .int f_m0stepsDone, .int f_m0turnSteps, .int f_m0turnMost, .int f_m0turnOver, .ref r_m0finder, .ref r_m0names, .int f_m0fault, .int f_m0wanted, .int f_m0thrown])), (mm1, .inr (4, [.ref ww1, .ref r_m1heap, .ref r_m1runs, .ref r_m1counts, .ref r_m1traceRow, .int f_m1traceCount, .ref r_m1startedList, .int f_m1startedCount, .int f_m1present, .int f_m1quantum, .int f_m1stepsDone, .int f_m1turnSteps, .int f_m1turnMost, .int f_m1turnOver, .ref r_m1finder, .ref r_m1names, .int f_m1fault, .int f_m1wanted, .int f_m1thrown])), (mm2, .inr (4, [.ref ww2, .ref r_m2heap, .ref r_m2runs, .ref r_m2counts, .ref r_m2traceRow, .int f_m2traceCount, .ref r_m2startedList, .int f_m2startedCount, .int f_m2present, .int f_m2quantum, .int f_m2stepsDone, .int f_m2turnSteps, .int f_m2turnMost, .int f_m2turnOver, .ref r_m2finder, .ref r_m2names, .int f_m2fault, .int f_m2wanted, .int f_m2thrown])), (ww0, .inr (9, [.ref r_w0names, .int (nI 0), .int (nI 21), .int f_w0wrongClass, .int f_w0wrongMethod, .int f_w0wrongAt, .ref r_w0rows, .ref r_w0above, .ref r_w0fields, .ref r_w0methods, .ref r_w0codes, .ref r_w0handlers, .ref r_w0extra, .ref r_w0orders, .ref r_w0classNamed, .int f_w0breaks, .ref r_w0marks])), (ww1, .inr (9, [.ref r_w1names, .int (nI 0), .int (nI 21), .int f_w1wrongClass, .int f_w1wrongMethod, .int f_w1wrongAt, .ref r_w1rows, .ref r_w1above, .ref r_w1fields, .ref r_w1methods, .ref r_w1codes, .ref r_w1handlers, .ref r_w1extra, .ref r_w1orders, .ref r_w1classNamed, .int f_w1breaks, .ref r_w1marks])), (ww2, .inr (9, [.ref r_w2names, .int (nI 0), .int (nI 21), .int f_w2wrongClass, .int f_w2wrongMethod, .int f_w2wrongAt, .ref r_w2rows, .ref r_w2above, .ref r_w2fields, .ref r_w2methods, .ref r_w2codes, .ref r_w2handlers, .ref r_w2extra, .ref r_w2orders, .ref r_w2classNamed, .int f_w2breaks, .ref r_w2marks])), (h0X, .inr (14, fsX)), (owX, .inl (g 6, 4, .inr (.inr (.inr (.inr (va_up (va_up (va_up (va_up (fun _ => none) 0 (some v0X)) 1 (some v1X)) 2 (some v2X)) 3 (some v3X))))))), (v0X, .inr (13, fw0X)), (v1X, .inr (13, fw1X)), (v2X, .inr (13, fw2X))] H) (hD : va_D A [(h0, .inr (11, [.ref r_cwords, .ref r_creader, .ref r_cchecker, .ref r_cfinder, .ref r_cwriter, .ref r_cmachines, .ref r_ctape, .int (nI 0), .int (-2), .int (nI 60000), .ref r_cstock, .ref r_csizes, .ref r_cmet, .ref r_cfound, .int (nI 0), .ref r_cdraft, .int (nI 0), .int (nI 0), .ref r_cfewestFor, .ref r_cfewestNext])), (r_cmachines, .inl (g 4, 4, .inr (.inr (.inr (.inr (va_up (va_up (va_up (va_up (fun _ => none) 0 (some mm0)) 1 (some mm1)) 2 (some mm2)) 3 (some mm3))))))), (mm0, .inr (4, [.ref ww0, .ref r_m0heap, .ref r_m0runs, .ref r_m0counts, .ref r_m0traceRow, .int f_m0traceCount, .ref r_m0startedList, .int f_m0startedCount, .int f_m0present, .int f_m0quantum, .int f_m0stepsDone, .int f_m0turnSteps, .int f_m0turnMost, .int f_m0turnOver, .ref r_m0finder, .ref r_m0names, .int f_m0fault, .int f_m0wanted, .int f_m0thrown])), (mm1, .inr (4, [.ref ww1, .ref r_m1heap, .ref r_m1runs, .ref r_m1counts, .ref r_m1traceRow, .int f_m1traceCount, .ref r_m1startedList, .int f_m1startedCount, .int f_m1present, .int f_m1quantum, .int f_m1stepsDone, .int f_m1turnSteps, .int f_m1turnMost, .int f_m1turnOver, .ref r_m1finder, .ref r_m1names, .int f_m1fault, .int f_m1wanted, .int f_m1thrown])), (mm2, .inr (4, [.ref ww2, .ref r_m2heap, .ref r_m2runs, .ref r_m2counts, .ref r_m2traceRow, .int f_m2traceCount, .ref r_m2startedList, .int f_m2startedCount, .int f_m2present, .int f_m2quantum, .int f_m2stepsDone, .int f_m2turnSteps, .int f_m2turnMost, .int f_m2turnOver, .ref r_m2finder, .ref r_m2names, .int f_m2fault, .int f_m2wanted, .int f_m2thrown])), (ww0, .inr (9, [.ref r_w0names, .int (nI 0), .int (nI 21), .int f_w0wrongClass, .int f_w0wrongMethod, .int f_w0wrongAt, .ref r_w0rows, .ref r_w0above, .ref r_w0fields, .ref r_w0methods, .ref r_w0codes, .ref r_w0handlers, .ref r_w0extra, .ref r_w0orders, .ref r_w0classNamed, .int f_w0breaks, .ref r_w0marks])), (ww1, .inr (9, [.ref r_w1names, .int (nI 0), .int (nI 21), .int f_w1wrongClass, .int f_w1wrongMethod, .int f_w1wrongAt, .ref r_w1rows, .ref r_w1above, .ref r_w1fields, .ref r_w1methods, .ref r_w1codes, .ref r_w1handlers, .ref r_w1extra, .ref r_w1orders, .ref r_w1classNamed, .int f_w1breaks, .ref r_w1marks])), (ww2, .inr (9, [.ref r_w2names, .int (nI 0), .int (nI 21), .int f_w2wrongClass, .int f_w2wrongMethod, .int f_w2wrongAt, .ref r_w2rows, .ref r_w2above, .ref r_w2fields, .ref r_w2methods, .ref r_w2codes, .ref r_w2handlers, .ref r_w2extra, .ref r_w2orders, .ref r_w2classNamed, .int f_w2breaks, .ref r_w2marks])), (h0X, .inr (14, fsX)), (owX, .inl (g 6, 4, .inr (.inr (.inr (.inr (va_up (va_up (va_up (va_up (fun _ => none) 0 (some v0X)) 1 (some v1X)) 2 (some v2X)) 3 (some v3X))))))), (v0X, .inr (13, fw0X)), (v1X, .inr (13, fw1X)), (v2X, .inr (13, fw2X))]) (hS : va_S A s.heap H locs) (hl : lv_has ls 4 [(0, .ref b), (1, .ref h0), (2, .ref h0X), (3, .int (nI 0))]) : W p l e room_1 s m #[Value.ref b] below meth c H locs 702 488194 (lw_Z below #[Value.ref b] s) (F0 m 838 ls []) := by
  refine lv_aload_n G.1 G.2.1 d_Law_838 rfl (lv_at hl 1 rfl) ?_
  refine lv_aload_n G.1 G.2.1 d_Law_839 rfl (lv_at hl 0 rfl) ?_
  refine lv_iload_n G.1 G.2.1 d_Law_840 rfl (lv_at hl 3 rfl) ?_
  refine lv_iconst (v := nI 1) G.1 G.2.1 d_Law_841 (by decide) ?_
  refine lv_iadd G.1 G.2.1 d_Law_842 ?_
  refine tpi (w := nI 1) (by decide) ?_
  refine va_sld G.1 G.2.1 hX hbl hbA hS (nI_inn (n := 6) (a := 1) (by decide) (by decide)) d_Law_843 ?_
  refine tpi (w := (xs 1)) (by rw [nI_clamp (by decide)]) ?_
  refine lv_aload_n G.1 G.2.1 d_Law_844 rfl (lv_at hl 0 rfl) ?_
  refine lv_iload_n G.1 G.2.1 d_Law_845 rfl (lv_at hl 3 rfl) ?_
  refine lv_iconst (v := nI 2) G.1 G.2.1 d_Law_846 (by decide) ?_
  refine lv_iadd G.1 G.2.1 d_Law_847 ?_
  refine tpi (w := nI 2) (by decide) ?_
  refine va_sld G.1 G.2.1 hX hbl hbA hS (nI_inn (n := 6) (a := 2) (by decide) (by decide)) d_Law_848 ?_
  refine tpi (w := (xs 2)) (by rw [nI_clamp (by decide)]) ?_
  refine W.eq (g2 := F0 m 849 ls [.int (xs 2), .int (xs 1), .ref h0]) rfl ?_
  refine lv_aload_n G.1 G.2.1 d_Law_849 rfl (lv_at hl 0 rfl) ?_
  refine lv_iload_n G.1 G.2.1 d_Law_850 rfl (lv_at hl 3 rfl) ?_
  refine lv_iconst (v := nI 3) G.1 G.2.1 d_Law_851 (by decide) ?_
  refine lv_iadd G.1 G.2.1 d_Law_852 ?_
  refine tpi (w := nI 3) (by decide) ?_
  refine va_sld G.1 G.2.1 hX hbl hbA hS (nI_inn (n := 6) (a := 3) (by decide) (by decide)) d_Law_853 ?_
  refine tpi (w := (xs 3)) (by rw [nI_clamp (by decide)]) ?_
  refine lv_if_eq (tgt := 861) G.1 G.2.1 d_Law_854 (by decide) (fun c854 => ?_) (fun c854 => ?_)
  · skip
    refine lv_iconst (v := nI 0) G.1 G.2.1 d_Law_861 (by decide) ?_
    refine lv_aload_n G.1 G.2.1 d_Law_862 rfl (lv_at hl 0 rfl) ?_
    refine lv_iload_n G.1 G.2.1 d_Law_863 rfl (lv_at hl 3 rfl) ?_
    refine lv_iconst (v := nI 4) G.1 G.2.1 d_Law_864 (by decide) ?_
    refine lv_iadd G.1 G.2.1 d_Law_865 ?_
    refine tpi (w := nI 4) (by decide) ?_
    refine va_sld G.1 G.2.1 hX hbl hbA hS (nI_inn (n := 6) (a := 4) (by decide) (by decide)) d_Law_866 ?_
    refine tpi (w := (xs 4)) (by rw [nI_clamp (by decide)]) ?_
    refine W.eq (g2 := F0 m 867 ls [.int (xs 4), .int (nI 0), .int (xs 2), .int (xs 1), .ref h0]) rfl ?_
    refine kEi (wr := [(h0X, .inr (14, fsX)), (owX, .inl (g 6, 4, .inr (.inr (.inr (.inr (va_up (va_up (va_up (va_up (fun _ => none) 0 (some v0X)) 1 (some v1X)) 2 (some v2X)) 3 (some v3X))))))), (v0X, .inr (13, fw0X)), (v1X, .inr (13, fw1X)), (v2X, .inr (13, fw2X))]) G (kV (As := [.int (xs 1), .int (xs 2), .int (nI 0), .int (xs 4)]) (rest := []) G hP hD hS [0, 1, 2, 3, 4, 5, 6, 7] rfl rfl (c_Cw_value l D g h0 (xs 1) (xs 2) (nI 0) (xs 4) r_cwords r_creader r_cchecker r_cfinder r_cwriter r_cmachines r_ctape r_cstock r_csizes r_cmet r_cfound r_cdraft r_cfewestFor r_cfewestNext mm0 mm1 mm2 mm3 ww0 r_m0heap r_m0runs r_m0counts r_m0traceRow f_m0traceCount r_m0startedList f_m0startedCount f_m0present f_m0quantum f_m0stepsDone f_m0turnSteps f_m0turnMost f_m0turnOver r_m0finder r_m0names f_m0fault f_m0wanted f_m0thrown ww1 r_m1heap r_m1runs r_m1counts r_m1traceRow f_m1traceCount r_m1startedList f_m1startedCount f_m1present f_m1quantum f_m1stepsDone f_m1turnSteps f_m1turnMost f_m1turnOver r_m1finder r_m1names f_m1fault f_m1wanted f_m1thrown ww2 r_m2heap r_m2runs r_m2counts r_m2traceRow f_m2traceCount r_m2startedList f_m2startedCount f_m2present f_m2quantum f_m2stepsDone f_m2turnSteps f_m2turnMost f_m2turnOver r_m2finder r_m2names f_m2fault f_m2wanted f_m2thrown r_w0names f_w0wrongClass f_w0wrongMethod f_w0wrongAt r_w0rows r_w0above r_w0fields r_w0methods r_w0codes r_w0handlers r_w0extra r_w0orders r_w0classNamed f_w0breaks r_w0marks r_w1names f_w1wrongClass f_w1wrongMethod f_w1wrongAt r_w1rows r_w1above r_w1fields r_w1methods r_w1codes r_w1handlers r_w1extra r_w1orders r_w1classNamed f_w1breaks r_w1marks r_w2names f_w2wrongClass f_w2wrongMethod f_w2wrongAt r_w2rows r_w2above r_w2fields r_w2methods r_w2codes r_w2handlers r_w2extra r_w2orders r_w2classNamed f_w2breaks r_w2marks H.size ) w_Cw_value q2109 rfl rfl ⟨Nat.le_of_ble_eq_true rfl, Nat.le_of_ble_eq_true rfl⟩ (fun _ h => absurd h List.not_mem_nil) 0 (ci := 11) rfl rfl rfl hl.1 rfl (Nat.le_of_ble_eq_true rfl) rfl ⟨Nat.le_of_ble_eq_true rfl, (Nat.le_of_ble_eq_true rfl)⟩ d_Law_867) hP hD hS [0, 1, 2, 3, 4, 5, 6, 7] [8, 9, 10, 11, 12] rfl rfl rfl rfl (fun r_1 u_2 H locs hw hP hD hS hzH => ?_)
    have hw : r_1 = (-1) := hw
    have hP : va_P D CL [(h0X, .inr (14, fsX)), (owX, .inl (g 6, 4, .inr (.inr (.inr (.inr (va_up (va_up (va_up (va_up (fun _ => none) 0 (some v0X)) 1 (some v1X)) 2 (some v2X)) 3 (some v3X))))))), (v0X, .inr (13, fw0X)), (v1X, .inr (13, fw1X)), (v2X, .inr (13, fw2X))] H := hP
    have hD : va_D A [(h0X, .inr (14, fsX)), (owX, .inl (g 6, 4, .inr (.inr (.inr (.inr (va_up (va_up (va_up (va_up (fun _ => none) 0 (some v0X)) 1 (some v1X)) 2 (some v2X)) 3 (some v3X))))))), (v0X, .inr (13, fw0X)), (v1X, .inr (13, fw1X)), (v2X, .inr (13, fw2X))] := hD
    subst hw
    refine tpst (w := [.int (-1)]) rfl ?_
    refine lv_aload_n G.1 G.2.1 d_Law_870 rfl (lv_at hl 2 rfl) ?_
    refine lv_aload_n G.1 G.2.1 d_Law_871 rfl (lv_at hl 0 rfl) ?_
    refine lv_iload_n G.1 G.2.1 d_Law_872 rfl (lv_at hl 3 rfl) ?_
    refine lv_iconst (v := nI 1) G.1 G.2.1 d_Law_873 (by decide) ?_
    refine lv_iadd G.1 G.2.1 d_Law_874 ?_
    refine tpi (w := nI 1) (by decide) ?_
    refine va_sld G.1 G.2.1 hX hbl hbA hS (nI_inn (n := 6) (a := 1) (by decide) (by decide)) d_Law_875 ?_
    refine tpi (w := (xs 1)) (by rw [nI_clamp (by decide)]) ?_
    refine lv_aload_n G.1 G.2.1 d_Law_876 rfl (lv_at hl 0 rfl) ?_
    refine lv_iload_n G.1 G.2.1 d_Law_877 rfl (lv_at hl 3 rfl) ?_
    refine lv_iconst (v := nI 2) G.1 G.2.1 d_Law_878 (by decide) ?_
    refine lv_iadd G.1 G.2.1 d_Law_879 ?_
    refine tpi (w := nI 2) (by decide) ?_
    refine va_sld G.1 G.2.1 hX hbl hbA hS (nI_inn (n := 6) (a := 2) (by decide) (by decide)) d_Law_880 ?_
    refine tpi (w := (xs 2)) (by rw [nI_clamp (by decide)]) ?_
    refine W.eq (g2 := F0 m 881 ls [.int (xs 2), .int (xs 1), .ref h0X, .int (-1)]) rfl ?_
    refine lv_aload_n G.1 G.2.1 d_Law_881 rfl (lv_at hl 0 rfl) ?_
    refine lv_iload_n G.1 G.2.1 d_Law_882 rfl (lv_at hl 3 rfl) ?_
    refine lv_iconst (v := nI 3) G.1 G.2.1 d_Law_883 (by decide) ?_
    refine lv_iadd G.1 G.2.1 d_Law_884 ?_
    refine tpi (w := nI 3) (by decide) ?_
    refine va_sld G.1 G.2.1 hX hbl hbA hS (nI_inn (n := 6) (a := 3) (by decide) (by decide)) d_Law_885 ?_
    refine tpi (w := (xs 3)) (by rw [nI_clamp (by decide)]) ?_
    refine lv_if_eq (tgt := 893) G.1 G.2.1 d_Law_886 (by decide) (fun c886 => ?_) (fun c886 => ?_)
    · skip
      refine lv_iconst (v := nI 0) G.1 G.2.1 d_Law_893 (by decide) ?_
      refine lv_aload_n G.1 G.2.1 d_Law_894 rfl (lv_at hl 0 rfl) ?_
      refine lv_iload_n G.1 G.2.1 d_Law_895 rfl (lv_at hl 3 rfl) ?_
      refine lv_iconst (v := nI 4) G.1 G.2.1 d_Law_896 (by decide) ?_
      refine lv_iadd G.1 G.2.1 d_Law_897 ?_
      refine tpi (w := nI 4) (by decide) ?_
      refine va_sld G.1 G.2.1 hX hbl hbA hS (nI_inn (n := 6) (a := 4) (by decide) (by decide)) d_Law_898 ?_
      refine tpi (w := (xs 4)) (by rw [nI_clamp (by decide)]) ?_
      refine W.eq (g2 := F0 m 899 ls [.int (xs 4), .int (nI 0), .int (xs 2), .int (xs 1), .ref h0X, .int (-1)]) rfl ?_
      refine kEi (wr := []) G (kV (As := [.int (xs 1), .int (xs 2), .int (nI 0), .int (xs 4)]) (rest := [.int (-1)]) G hP hD hS [0, 1, 2, 3, 4] rfl rfl (c_Mo_value l D g h0X (xs 1) (xs 2) (nI 0) (xs 4) fsX owX v0X v1X v2X v3X fw0X fw1X fw2X H.size glenX gk0X gw0X gt0X gw1X gt1X gw2X gt2X) w_Mo_value q4023 rfl rfl ⟨Nat.le_of_ble_eq_true rfl, Nat.le_of_ble_eq_true rfl⟩ (fun _ h => absurd h List.not_mem_nil) 0 (ci := 14) rfl rfl rfl hl.1 rfl (Nat.le_of_ble_eq_true rfl) rfl ⟨Nat.le_of_ble_eq_true rfl, (Nat.le_of_ble_eq_true rfl)⟩ d_Law_899) hP hD hS [0, 1, 2, 3, 4] [] rfl rfl rfl rfl (fun r_3 u_4 H locs hw hP hD hS hzH => ?_)
      have hw : r_3 = (-1) := hw
      have hP : va_P D CL [] H := hP
      have hD : va_D A [] := hD
      subst hw
      refine tpst (w := [.int (-1), .int (-1)]) rfl ?_
      refine lv_icmp_eq (tgt := 1768) G.1 G.2.1 d_Law_902 (by decide) (fun c902 => ?_) (fun c902 => absurd c902 (fun h => h rfl))
      refine lv_iinc (v := nI 6) (lv' := [(3, .int (nI 6)), (0, .ref b), (1, .ref h0), (2, .ref h0X)]) G.1 G.2.1 d_Law_1768 hl (k := 3) rfl (show (nI 0) + Int32.ofInt 6 = nI 6 from by decide) (by decide) rfl (fun ls hl => ?_)
      refine lv_goto (tgt := 18) G.1 G.2.1 d_Law_1771 (by decide) ?_
      refine lv_iload_n G.1 G.2.1 d_Law_18 rfl (lv_at hl 0 rfl) ?_
      refine lv_aload_n G.1 G.2.1 d_Law_19 rfl (lv_at hl 1 rfl) ?_
      refine va_slen G.1 G.2.1 hX hbl hbA hS d_Law_20 ?_
      refine tpi (w := nI 6) rfl ?_
      refine lv_bipush (v := nI 6) G.1 G.2.1 d_Law_21 (by decide) ?_
      refine lv_isub G.1 G.2.1 d_Law_23 ?_
      refine tpi (w := nI 0) (by decide) ?_
      refine lv_icmp_gt (tgt := 1774) G.1 G.2.1 d_Law_24 (by decide) (fun c24 => ?_) (fun c24 => absurd c24 (by decide))
      refine lv_iconst (v := nI 1) G.1 G.2.1 d_Law_1774 (by decide) ?_
      refine va_forget (fun q hq => hAA _ (hS.2.2 q hq)) ?_
      refine W.widen (k := 600002) (n := 7302232) (Nat.le_of_ble_eq_true rfl) (Nat.le_of_ble_eq_true rfl) ?_
      exact lw_ret G.1 G.2.1 G.2.2.2.1 G.2.2.2.2.1 d_Law_1775
    · skip
      refine lv_iconst (v := nI 1) G.1 G.2.1 d_Law_889 (by decide) ?_
      refine lv_goto (tgt := 894) G.1 G.2.1 d_Law_890 (by decide) ?_
      refine lv_aload_n G.1 G.2.1 d_Law_894 rfl (lv_at hl 0 rfl) ?_
      refine lv_iload_n G.1 G.2.1 d_Law_895 rfl (lv_at hl 3 rfl) ?_
      refine lv_iconst (v := nI 4) G.1 G.2.1 d_Law_896 (by decide) ?_
      refine lv_iadd G.1 G.2.1 d_Law_897 ?_
      refine tpi (w := nI 4) (by decide) ?_
      refine W.eq (g2 := F0 m 898 ls [.int (nI 4), .ref b, .int (nI 1), .int (xs 2), .int (xs 1), .ref h0X, .int (-1)]) rfl ?_
      refine va_sld G.1 G.2.1 hX hbl hbA hS (nI_inn (n := 6) (a := 4) (by decide) (by decide)) d_Law_898 ?_
      refine tpi (w := (xs 4)) (by rw [nI_clamp (by decide)]) ?_
      refine kEi (wr := []) G (kV (As := [.int (xs 1), .int (xs 2), .int (nI 1), .int (xs 4)]) (rest := [.int (-1)]) G hP hD hS [0, 1, 2, 3, 4] rfl rfl (c_Mo_value l D g h0X (xs 1) (xs 2) (nI 1) (xs 4) fsX owX v0X v1X v2X v3X fw0X fw1X fw2X H.size glenX gk0X gw0X gt0X gw1X gt1X gw2X gt2X) w_Mo_value q4023 rfl rfl ⟨Nat.le_of_ble_eq_true rfl, Nat.le_of_ble_eq_true rfl⟩ (fun _ h => absurd h List.not_mem_nil) 0 (ci := 14) rfl rfl rfl hl.1 rfl (Nat.le_of_ble_eq_true rfl) rfl ⟨Nat.le_of_ble_eq_true rfl, (Nat.le_of_ble_eq_true rfl)⟩ d_Law_899) hP hD hS [0, 1, 2, 3, 4] [] rfl rfl rfl rfl (fun r_5 u_6 H locs hw hP hD hS hzH => ?_)
      have hw : r_5 = (-1) := hw
      have hP : va_P D CL [] H := hP
      have hD : va_D A [] := hD
      subst hw
      refine tpst (w := [.int (-1), .int (-1)]) rfl ?_
      refine lv_icmp_eq (tgt := 1768) G.1 G.2.1 d_Law_902 (by decide) (fun c902 => ?_) (fun c902 => absurd c902 (fun h => h rfl))
      refine lv_iinc (v := nI 6) (lv' := [(3, .int (nI 6)), (0, .ref b), (1, .ref h0), (2, .ref h0X)]) G.1 G.2.1 d_Law_1768 hl (k := 3) rfl (show (nI 0) + Int32.ofInt 6 = nI 6 from by decide) (by decide) rfl (fun ls hl => ?_)
      refine lv_goto (tgt := 18) G.1 G.2.1 d_Law_1771 (by decide) ?_
      refine lv_iload_n G.1 G.2.1 d_Law_18 rfl (lv_at hl 0 rfl) ?_
      refine lv_aload_n G.1 G.2.1 d_Law_19 rfl (lv_at hl 1 rfl) ?_
      refine va_slen G.1 G.2.1 hX hbl hbA hS d_Law_20 ?_
      refine tpi (w := nI 6) rfl ?_
      refine lv_bipush (v := nI 6) G.1 G.2.1 d_Law_21 (by decide) ?_
      refine lv_isub G.1 G.2.1 d_Law_23 ?_
      refine tpi (w := nI 0) (by decide) ?_
      refine lv_icmp_gt (tgt := 1774) G.1 G.2.1 d_Law_24 (by decide) (fun c24 => ?_) (fun c24 => absurd c24 (by decide))
      refine lv_iconst (v := nI 1) G.1 G.2.1 d_Law_1774 (by decide) ?_
      refine W.eq (g2 := F0 m 1775 ls [.int (nI 1)]) rfl ?_
      refine va_forget (fun q hq => hAA _ (hS.2.2 q hq)) ?_
      refine W.widen (k := 600002) (n := 7302232) (Nat.le_of_ble_eq_true rfl) (Nat.le_of_ble_eq_true rfl) ?_
      exact lw_ret G.1 G.2.1 G.2.2.2.1 G.2.2.2.2.1 d_Law_1775
  · skip
    refine lv_iconst (v := nI 1) G.1 G.2.1 d_Law_857 (by decide) ?_
    refine lv_goto (tgt := 862) G.1 G.2.1 d_Law_858 (by decide) ?_
    refine lv_aload_n G.1 G.2.1 d_Law_862 rfl (lv_at hl 0 rfl) ?_
    refine lv_iload_n G.1 G.2.1 d_Law_863 rfl (lv_at hl 3 rfl) ?_
    refine lv_iconst (v := nI 4) G.1 G.2.1 d_Law_864 (by decide) ?_
    refine lv_iadd G.1 G.2.1 d_Law_865 ?_
    refine tpi (w := nI 4) (by decide) ?_
    refine W.eq (g2 := F0 m 866 ls [.int (nI 4), .ref b, .int (nI 1), .int (xs 2), .int (xs 1), .ref h0]) rfl ?_
    refine va_sld G.1 G.2.1 hX hbl hbA hS (nI_inn (n := 6) (a := 4) (by decide) (by decide)) d_Law_866 ?_
    refine tpi (w := (xs 4)) (by rw [nI_clamp (by decide)]) ?_
    refine kEi (wr := [(h0X, .inr (14, fsX)), (owX, .inl (g 6, 4, .inr (.inr (.inr (.inr (va_up (va_up (va_up (va_up (fun _ => none) 0 (some v0X)) 1 (some v1X)) 2 (some v2X)) 3 (some v3X))))))), (v0X, .inr (13, fw0X)), (v1X, .inr (13, fw1X)), (v2X, .inr (13, fw2X))]) G (kV (As := [.int (xs 1), .int (xs 2), .int (nI 1), .int (xs 4)]) (rest := []) G hP hD hS [0, 1, 2, 3, 4, 5, 6, 7] rfl rfl (c_Cw_value l D g h0 (xs 1) (xs 2) (nI 1) (xs 4) r_cwords r_creader r_cchecker r_cfinder r_cwriter r_cmachines r_ctape r_cstock r_csizes r_cmet r_cfound r_cdraft r_cfewestFor r_cfewestNext mm0 mm1 mm2 mm3 ww0 r_m0heap r_m0runs r_m0counts r_m0traceRow f_m0traceCount r_m0startedList f_m0startedCount f_m0present f_m0quantum f_m0stepsDone f_m0turnSteps f_m0turnMost f_m0turnOver r_m0finder r_m0names f_m0fault f_m0wanted f_m0thrown ww1 r_m1heap r_m1runs r_m1counts r_m1traceRow f_m1traceCount r_m1startedList f_m1startedCount f_m1present f_m1quantum f_m1stepsDone f_m1turnSteps f_m1turnMost f_m1turnOver r_m1finder r_m1names f_m1fault f_m1wanted f_m1thrown ww2 r_m2heap r_m2runs r_m2counts r_m2traceRow f_m2traceCount r_m2startedList f_m2startedCount f_m2present f_m2quantum f_m2stepsDone f_m2turnSteps f_m2turnMost f_m2turnOver r_m2finder r_m2names f_m2fault f_m2wanted f_m2thrown r_w0names f_w0wrongClass f_w0wrongMethod f_w0wrongAt r_w0rows r_w0above r_w0fields r_w0methods r_w0codes r_w0handlers r_w0extra r_w0orders r_w0classNamed f_w0breaks r_w0marks r_w1names f_w1wrongClass f_w1wrongMethod f_w1wrongAt r_w1rows r_w1above r_w1fields r_w1methods r_w1codes r_w1handlers r_w1extra r_w1orders r_w1classNamed f_w1breaks r_w1marks r_w2names f_w2wrongClass f_w2wrongMethod f_w2wrongAt r_w2rows r_w2above r_w2fields r_w2methods r_w2codes r_w2handlers r_w2extra r_w2orders r_w2classNamed f_w2breaks r_w2marks H.size ) w_Cw_value q2109 rfl rfl ⟨Nat.le_of_ble_eq_true rfl, Nat.le_of_ble_eq_true rfl⟩ (fun _ h => absurd h List.not_mem_nil) 0 (ci := 11) rfl rfl rfl hl.1 rfl (Nat.le_of_ble_eq_true rfl) rfl ⟨Nat.le_of_ble_eq_true rfl, (Nat.le_of_ble_eq_true rfl)⟩ d_Law_867) hP hD hS [0, 1, 2, 3, 4, 5, 6, 7] [8, 9, 10, 11, 12] rfl rfl rfl rfl (fun r_7 u_8 H locs hw hP hD hS hzH => ?_)
    have hw : r_7 = (-1) := hw
    have hP : va_P D CL [(h0X, .inr (14, fsX)), (owX, .inl (g 6, 4, .inr (.inr (.inr (.inr (va_up (va_up (va_up (va_up (fun _ => none) 0 (some v0X)) 1 (some v1X)) 2 (some v2X)) 3 (some v3X))))))), (v0X, .inr (13, fw0X)), (v1X, .inr (13, fw1X)), (v2X, .inr (13, fw2X))] H := hP
    have hD : va_D A [(h0X, .inr (14, fsX)), (owX, .inl (g 6, 4, .inr (.inr (.inr (.inr (va_up (va_up (va_up (va_up (fun _ => none) 0 (some v0X)) 1 (some v1X)) 2 (some v2X)) 3 (some v3X))))))), (v0X, .inr (13, fw0X)), (v1X, .inr (13, fw1X)), (v2X, .inr (13, fw2X))] := hD
    subst hw
    refine tpst (w := [.int (-1)]) rfl ?_
    refine lv_aload_n G.1 G.2.1 d_Law_870 rfl (lv_at hl 2 rfl) ?_
    refine lv_aload_n G.1 G.2.1 d_Law_871 rfl (lv_at hl 0 rfl) ?_
    refine lv_iload_n G.1 G.2.1 d_Law_872 rfl (lv_at hl 3 rfl) ?_
    refine lv_iconst (v := nI 1) G.1 G.2.1 d_Law_873 (by decide) ?_
    refine lv_iadd G.1 G.2.1 d_Law_874 ?_
    refine tpi (w := nI 1) (by decide) ?_
    refine va_sld G.1 G.2.1 hX hbl hbA hS (nI_inn (n := 6) (a := 1) (by decide) (by decide)) d_Law_875 ?_
    refine tpi (w := (xs 1)) (by rw [nI_clamp (by decide)]) ?_
    refine lv_aload_n G.1 G.2.1 d_Law_876 rfl (lv_at hl 0 rfl) ?_
    refine lv_iload_n G.1 G.2.1 d_Law_877 rfl (lv_at hl 3 rfl) ?_
    refine lv_iconst (v := nI 2) G.1 G.2.1 d_Law_878 (by decide) ?_
    refine lv_iadd G.1 G.2.1 d_Law_879 ?_
    refine tpi (w := nI 2) (by decide) ?_
    refine W.eq (g2 := F0 m 880 ls [.int (nI 2), .ref b, .int (xs 1), .ref h0X, .int (-1)]) rfl ?_
    refine va_sld G.1 G.2.1 hX hbl hbA hS (nI_inn (n := 6) (a := 2) (by decide) (by decide)) d_Law_880 ?_
    refine tpi (w := (xs 2)) (by rw [nI_clamp (by decide)]) ?_
    refine lv_aload_n G.1 G.2.1 d_Law_881 rfl (lv_at hl 0 rfl) ?_
    refine lv_iload_n G.1 G.2.1 d_Law_882 rfl (lv_at hl 3 rfl) ?_
    refine lv_iconst (v := nI 3) G.1 G.2.1 d_Law_883 (by decide) ?_
    refine lv_iadd G.1 G.2.1 d_Law_884 ?_
    refine tpi (w := nI 3) (by decide) ?_
    refine va_sld G.1 G.2.1 hX hbl hbA hS (nI_inn (n := 6) (a := 3) (by decide) (by decide)) d_Law_885 ?_
    refine tpi (w := (xs 3)) (by rw [nI_clamp (by decide)]) ?_
    refine lv_if_eq (tgt := 893) G.1 G.2.1 d_Law_886 (by decide) (fun c886 => ?_) (fun c886 => ?_)
    · skip
      refine lv_iconst (v := nI 0) G.1 G.2.1 d_Law_893 (by decide) ?_
      refine lv_aload_n G.1 G.2.1 d_Law_894 rfl (lv_at hl 0 rfl) ?_
      refine lv_iload_n G.1 G.2.1 d_Law_895 rfl (lv_at hl 3 rfl) ?_
      refine lv_iconst (v := nI 4) G.1 G.2.1 d_Law_896 (by decide) ?_
      refine lv_iadd G.1 G.2.1 d_Law_897 ?_
      refine tpi (w := nI 4) (by decide) ?_
      refine W.eq (g2 := F0 m 898 ls [.int (nI 4), .ref b, .int (nI 0), .int (xs 2), .int (xs 1), .ref h0X, .int (-1)]) rfl ?_
      refine va_sld G.1 G.2.1 hX hbl hbA hS (nI_inn (n := 6) (a := 4) (by decide) (by decide)) d_Law_898 ?_
      refine tpi (w := (xs 4)) (by rw [nI_clamp (by decide)]) ?_
      refine kEi (wr := []) G (kV (As := [.int (xs 1), .int (xs 2), .int (nI 0), .int (xs 4)]) (rest := [.int (-1)]) G hP hD hS [0, 1, 2, 3, 4] rfl rfl (c_Mo_value l D g h0X (xs 1) (xs 2) (nI 0) (xs 4) fsX owX v0X v1X v2X v3X fw0X fw1X fw2X H.size glenX gk0X gw0X gt0X gw1X gt1X gw2X gt2X) w_Mo_value q4023 rfl rfl ⟨Nat.le_of_ble_eq_true rfl, Nat.le_of_ble_eq_true rfl⟩ (fun _ h => absurd h List.not_mem_nil) 0 (ci := 14) rfl rfl rfl hl.1 rfl (Nat.le_of_ble_eq_true rfl) rfl ⟨Nat.le_of_ble_eq_true rfl, (Nat.le_of_ble_eq_true rfl)⟩ d_Law_899) hP hD hS [0, 1, 2, 3, 4] [] rfl rfl rfl rfl (fun r_9 u_10 H locs hw hP hD hS hzH => ?_)
      have hw : r_9 = (-1) := hw
      have hP : va_P D CL [] H := hP
      have hD : va_D A [] := hD
      subst hw
      refine tpst (w := [.int (-1), .int (-1)]) rfl ?_
      refine lv_icmp_eq (tgt := 1768) G.1 G.2.1 d_Law_902 (by decide) (fun c902 => ?_) (fun c902 => absurd c902 (fun h => h rfl))
      refine lv_iinc (v := nI 6) (lv' := [(3, .int (nI 6)), (0, .ref b), (1, .ref h0), (2, .ref h0X)]) G.1 G.2.1 d_Law_1768 hl (k := 3) rfl (show (nI 0) + Int32.ofInt 6 = nI 6 from by decide) (by decide) rfl (fun ls hl => ?_)
      refine lv_goto (tgt := 18) G.1 G.2.1 d_Law_1771 (by decide) ?_
      refine lv_iload_n G.1 G.2.1 d_Law_18 rfl (lv_at hl 0 rfl) ?_
      refine lv_aload_n G.1 G.2.1 d_Law_19 rfl (lv_at hl 1 rfl) ?_
      refine va_slen G.1 G.2.1 hX hbl hbA hS d_Law_20 ?_
      refine tpi (w := nI 6) rfl ?_
      refine lv_bipush (v := nI 6) G.1 G.2.1 d_Law_21 (by decide) ?_
      refine lv_isub G.1 G.2.1 d_Law_23 ?_
      refine tpi (w := nI 0) (by decide) ?_
      refine lv_icmp_gt (tgt := 1774) G.1 G.2.1 d_Law_24 (by decide) (fun c24 => ?_) (fun c24 => absurd c24 (by decide))
      refine lv_iconst (v := nI 1) G.1 G.2.1 d_Law_1774 (by decide) ?_
      refine W.eq (g2 := F0 m 1775 ls [.int (nI 1)]) rfl ?_
      refine va_forget (fun q hq => hAA _ (hS.2.2 q hq)) ?_
      refine W.widen (k := 600002) (n := 7302232) (Nat.le_of_ble_eq_true rfl) (Nat.le_of_ble_eq_true rfl) ?_
      exact lw_ret G.1 G.2.1 G.2.2.2.1 G.2.2.2.2.1 d_Law_1775
    · skip
      refine lv_iconst (v := nI 1) G.1 G.2.1 d_Law_889 (by decide) ?_
      refine lv_goto (tgt := 894) G.1 G.2.1 d_Law_890 (by decide) ?_
      refine lv_aload_n G.1 G.2.1 d_Law_894 rfl (lv_at hl 0 rfl) ?_
      refine lv_iload_n G.1 G.2.1 d_Law_895 rfl (lv_at hl 3 rfl) ?_
      refine lv_iconst (v := nI 4) G.1 G.2.1 d_Law_896 (by decide) ?_
      refine W.eq (g2 := F0 m 897 ls [.int (nI 4), .int (nI 0), .ref b, .int (nI 1), .int (xs 2), .int (xs 1), .ref h0X, .int (-1)]) rfl ?_
      refine lv_iadd G.1 G.2.1 d_Law_897 ?_
      refine tpi (w := nI 4) (by decide) ?_
      refine va_sld G.1 G.2.1 hX hbl hbA hS (nI_inn (n := 6) (a := 4) (by decide) (by decide)) d_Law_898 ?_
      refine tpi (w := (xs 4)) (by rw [nI_clamp (by decide)]) ?_
      refine kEi (wr := []) G (kV (As := [.int (xs 1), .int (xs 2), .int (nI 1), .int (xs 4)]) (rest := [.int (-1)]) G hP hD hS [0, 1, 2, 3, 4] rfl rfl (c_Mo_value l D g h0X (xs 1) (xs 2) (nI 1) (xs 4) fsX owX v0X v1X v2X v3X fw0X fw1X fw2X H.size glenX gk0X gw0X gt0X gw1X gt1X gw2X gt2X) w_Mo_value q4023 rfl rfl ⟨Nat.le_of_ble_eq_true rfl, Nat.le_of_ble_eq_true rfl⟩ (fun _ h => absurd h List.not_mem_nil) 0 (ci := 14) rfl rfl rfl hl.1 rfl (Nat.le_of_ble_eq_true rfl) rfl ⟨Nat.le_of_ble_eq_true rfl, (Nat.le_of_ble_eq_true rfl)⟩ d_Law_899) hP hD hS [0, 1, 2, 3, 4] [] rfl rfl rfl rfl (fun r_11 u_12 H locs hw hP hD hS hzH => ?_)
      have hw : r_11 = (-1) := hw
      have hP : va_P D CL [] H := hP
      have hD : va_D A [] := hD
      subst hw
      refine tpst (w := [.int (-1), .int (-1)]) rfl ?_
      refine lv_icmp_eq (tgt := 1768) G.1 G.2.1 d_Law_902 (by decide) (fun c902 => ?_) (fun c902 => absurd c902 (fun h => h rfl))
      refine lv_iinc (v := nI 6) (lv' := [(3, .int (nI 6)), (0, .ref b), (1, .ref h0), (2, .ref h0X)]) G.1 G.2.1 d_Law_1768 hl (k := 3) rfl (show (nI 0) + Int32.ofInt 6 = nI 6 from by decide) (by decide) rfl (fun ls hl => ?_)
      refine lv_goto (tgt := 18) G.1 G.2.1 d_Law_1771 (by decide) ?_
      refine lv_iload_n G.1 G.2.1 d_Law_18 rfl (lv_at hl 0 rfl) ?_
      refine lv_aload_n G.1 G.2.1 d_Law_19 rfl (lv_at hl 1 rfl) ?_
      refine va_slen G.1 G.2.1 hX hbl hbA hS d_Law_20 ?_
      refine tpi (w := nI 6) rfl ?_
      refine lv_bipush (v := nI 6) G.1 G.2.1 d_Law_21 (by decide) ?_
      refine lv_isub G.1 G.2.1 d_Law_23 ?_
      refine tpi (w := nI 0) (by decide) ?_
      refine lv_icmp_gt (tgt := 1774) G.1 G.2.1 d_Law_24 (by decide) (fun c24 => ?_) (fun c24 => absurd c24 (by decide))
      refine W.eq (g2 := F0 m 1774 ls []) rfl ?_
      refine lv_iconst (v := nI 1) G.1 G.2.1 d_Law_1774 (by decide) ?_
      refine va_forget (fun q hq => hAA _ (hS.2.2 q hq)) ?_
      refine W.widen (k := 600002) (n := 7302232) (Nat.le_of_ble_eq_true rfl) (Nat.le_of_ble_eq_true rfl) ?_
      exact lw_ret G.1 G.2.1 G.2.2.2.1 G.2.2.2.2.1 d_Law_1775
theorem q2127 : Cond.code y_Cw_fixed b_Cw_fixed 6 (some .int) ∈ lw_ok := lw_okmem (List.mem_of_getElem? (i := 2127) (by decide +kernel)) rfl
theorem q2125 : Cond.instanceMethod y_Cw_fixed ∈ lw_ok := lw_okmem (List.mem_of_getElem? (i := 2125) (by decide +kernel)) rfl
theorem q2126 : Cond.selects y_Cw_fixed.cls y_Cw_fixed y_Cw_fixed ∈ lw_ok := lw_okmem (List.mem_of_getElem? (i := 2126) (by decide +kernel)) rfl
theorem w_Cw_fixed : CWv y_Cw_fixed b_Cw_fixed 6 (some .int) 3 ∧ Cond.instanceMethod y_Cw_fixed ∈ lw_ok ∧ Cond.selects y_Cw_fixed.cls y_Cw_fixed y_Cw_fixed ∈ lw_ok := ⟨⟨q2127, q329, by decide +kernel, by decide +kernel, by decide +kernel⟩, q2125, q2126⟩
theorem q2124 : Cond.methodLink "ClassWorksLaw" 96 y_Cw_fixed ∈ lw_ok := lw_okmem (List.mem_of_getElem? (i := 2124) (by decide +kernel)) rfl
theorem q4033 : Cond.code y_Mo_fixed b_Mo_fixed 6 (some .int) ∈ lw_ok := lw_okmem (List.mem_of_getElem? (i := 4033) (by decide +kernel)) rfl
theorem q4031 : Cond.instanceMethod y_Mo_fixed ∈ lw_ok := lw_okmem (List.mem_of_getElem? (i := 4031) (by decide +kernel)) rfl
theorem q4032 : Cond.selects y_Mo_fixed.cls y_Mo_fixed y_Mo_fixed ∈ lw_ok := lw_okmem (List.mem_of_getElem? (i := 4032) (by decide +kernel)) rfl
theorem w_Mo_fixed : CWv y_Mo_fixed b_Mo_fixed 6 (some .int) 3 ∧ Cond.instanceMethod y_Mo_fixed ∈ lw_ok ∧ Cond.selects y_Mo_fixed.cls y_Mo_fixed y_Mo_fixed ∈ lw_ok := ⟨⟨q4033, q348, by decide +kernel, by decide +kernel, by decide +kernel⟩, q4031, q4032⟩
theorem q4030 : Cond.methodLink "ClassWorksLaw" 99 y_Mo_fixed ∈ lw_ok := lw_okmem (List.mem_of_getElem? (i := 4030) (by decide +kernel)) rfl
theorem d_Law_907 : decode code 907 = .ok (.aload_n 1, 1) := by decide +kernel
theorem d_Law_908 : decode code 908 = .ok (.aload_n 0, 1) := by decide +kernel
theorem d_Law_909 : decode code 909 = .ok (.iload_n 3, 1) := by decide +kernel
theorem d_Law_910 : decode code 910 = .ok (.iconst 1, 1) := by decide +kernel
theorem d_Law_911 : decode code 911 = .ok (.iadd, 1) := by decide +kernel
theorem d_Law_912 : decode code 912 = .ok (.iaload, 1) := by decide +kernel
theorem d_Law_913 : decode code 913 = .ok (.aload_n 0, 1) := by decide +kernel
theorem d_Law_914 : decode code 914 = .ok (.iload_n 3, 1) := by decide +kernel
theorem d_Law_915 : decode code 915 = .ok (.iconst 2, 1) := by decide +kernel
theorem d_Law_916 : decode code 916 = .ok (.iadd, 1) := by decide +kernel
theorem d_Law_917 : decode code 917 = .ok (.iaload, 1) := by decide +kernel
theorem d_Law_918 : decode code 918 = .ok (.aload_n 0, 1) := by decide +kernel
theorem d_Law_919 : decode code 919 = .ok (.iload_n 3, 1) := by decide +kernel
theorem d_Law_920 : decode code 920 = .ok (.iconst 3, 1) := by decide +kernel
theorem d_Law_921 : decode code 921 = .ok (.iadd, 1) := by decide +kernel
theorem d_Law_922 : decode code 922 = .ok (.iaload, 1) := by decide +kernel
theorem d_Law_923 : decode code 923 = .ok (.invokevirtual 96, 3) := by decide +kernel
theorem d_Law_926 : decode code 926 = .ok (.aload_n 2, 1) := by decide +kernel
theorem d_Law_927 : decode code 927 = .ok (.aload_n 0, 1) := by decide +kernel
theorem d_Law_928 : decode code 928 = .ok (.iload_n 3, 1) := by decide +kernel
theorem d_Law_929 : decode code 929 = .ok (.iconst 1, 1) := by decide +kernel
theorem d_Law_930 : decode code 930 = .ok (.iadd, 1) := by decide +kernel
theorem d_Law_931 : decode code 931 = .ok (.iaload, 1) := by decide +kernel
theorem d_Law_932 : decode code 932 = .ok (.aload_n 0, 1) := by decide +kernel
theorem d_Law_933 : decode code 933 = .ok (.iload_n 3, 1) := by decide +kernel
theorem d_Law_934 : decode code 934 = .ok (.iconst 2, 1) := by decide +kernel
theorem d_Law_935 : decode code 935 = .ok (.iadd, 1) := by decide +kernel
theorem d_Law_936 : decode code 936 = .ok (.iaload, 1) := by decide +kernel
theorem d_Law_937 : decode code 937 = .ok (.aload_n 0, 1) := by decide +kernel
theorem d_Law_938 : decode code 938 = .ok (.iload_n 3, 1) := by decide +kernel
theorem d_Law_939 : decode code 939 = .ok (.iconst 3, 1) := by decide +kernel
theorem d_Law_940 : decode code 940 = .ok (.iadd, 1) := by decide +kernel
theorem d_Law_941 : decode code 941 = .ok (.iaload, 1) := by decide +kernel
theorem d_Law_942 : decode code 942 = .ok (.invokevirtual 99, 3) := by decide +kernel
theorem d_Law_945 : decode code 945 = .ok (.if_icmp .eq 823, 3) := by decide +kernel
set_option maxHeartbeats 4000000 in
set_option maxRecDepth 100000 in
theorem law_fixed {p : Program} {e : Env} {s : State} {m : MethodId} {below : List Frame} {meth : Method} {c : Code} {l : Launch} {D : va_G} {g : Nat → ClassId} {sl : List SL} {b : Nat} {xs : Nat → Int32} {A : Nat → Prop} (h0 : Nat) (r_cwords : Nat) (r_creader : Nat) (r_cchecker : Nat) (r_cfinder : Nat) (r_cwriter : Nat) (r_cmachines : Nat) (r_ctape : Nat) (r_cstock : Nat) (r_csizes : Nat) (r_cmet : Nat) (r_cfound : Nat) (r_cdraft : Nat) (r_cfewestFor : Nat) (r_cfewestNext : Nat) (mm0 : Nat) (mm1 : Nat) (mm2 : Nat) (mm3 : Nat) (ww0 : Nat) (r_m0heap : Nat) (r_m0runs : Nat) (r_m0counts : Nat) (r_m0traceRow : Nat) (f_m0traceCount : Int32) (r_m0startedList : Nat) (f_m0startedCount : Int32) (f_m0present : Int32) (f_m0quantum : Int32) (f_m0stepsDone : Int32) (f_m0turnSteps : Int32) (f_m0turnMost : Int32) (f_m0turnOver : Int32) (r_m0finder : Nat) (r_m0names : Nat) (f_m0fault : Int32) (f_m0wanted : Int32) (f_m0thrown : Int32) (ww1 : Nat) (r_m1heap : Nat) (r_m1runs : Nat) (r_m1counts : Nat) (r_m1traceRow : Nat) (f_m1traceCount : Int32) (r_m1startedList : Nat) (f_m1startedCount : Int32) (f_m1present : Int32) (f_m1quantum : Int32) (f_m1stepsDone : Int32) (f_m1turnSteps : Int32) (f_m1turnMost : Int32) (f_m1turnOver : Int32) (r_m1finder : Nat) (r_m1names : Nat) (f_m1fault : Int32) (f_m1wanted : Int32) (f_m1thrown : Int32) (ww2 : Nat) (r_m2heap : Nat) (r_m2runs : Nat) (r_m2counts : Nat) (r_m2traceRow : Nat) (f_m2traceCount : Int32) (r_m2startedList : Nat) (f_m2startedCount : Int32) (f_m2present : Int32) (f_m2quantum : Int32) (f_m2stepsDone : Int32) (f_m2turnSteps : Int32) (f_m2turnMost : Int32) (f_m2turnOver : Int32) (r_m2finder : Nat) (r_m2names : Nat) (f_m2fault : Int32) (f_m2wanted : Int32) (f_m2thrown : Int32) (r_w0names : Nat) (f_w0wrongClass : Int32) (f_w0wrongMethod : Int32) (f_w0wrongAt : Int32) (r_w0rows : Nat) (r_w0above : Nat) (r_w0fields : Nat) (r_w0methods : Nat) (r_w0codes : Nat) (r_w0handlers : Nat) (r_w0extra : Nat) (r_w0orders : Nat) (r_w0classNamed : Nat) (f_w0breaks : Int32) (r_w0marks : Nat) (r_w1names : Nat) (f_w1wrongClass : Int32) (f_w1wrongMethod : Int32) (f_w1wrongAt : Int32) (r_w1rows : Nat) (r_w1above : Nat) (r_w1fields : Nat) (r_w1methods : Nat) (r_w1codes : Nat) (r_w1handlers : Nat) (r_w1extra : Nat) (r_w1orders : Nat) (r_w1classNamed : Nat) (f_w1breaks : Int32) (r_w1marks : Nat) (r_w2names : Nat) (f_w2wrongClass : Int32) (f_w2wrongMethod : Int32) (f_w2wrongAt : Int32) (r_w2rows : Nat) (r_w2above : Nat) (r_w2fields : Nat) (r_w2methods : Nat) (r_w2codes : Nat) (r_w2handlers : Nat) (r_w2extra : Nat) (r_w2orders : Nat) (r_w2classNamed : Nat) (f_w2breaks : Int32) (r_w2marks : Nat) (h0X : Nat) (fsX : List Value) (owX : Nat) (v0X : Nat) (v1X : Nat) (v2X : Nat) (v3X : Nat) (fw0X : List Value) (fw1X : List Value) (fw2X : List Value) (G : GV l p s m #[Value.ref b] meth c (⟨"ClassWorksLaw", meth.name, ""⟩ : MethodName) code 4 ret g D sl A) (hX : va_X b 6 xs s s.heap) (hbl : b < s.heap.size) (hbA : ¬ A b) (hAA : ∀ q, A q → s.heap.size ≤ q) {H : Heap} {locs : List Loc} {ls : Array Slot} (glenX : fsX.length = 131) (gk0X : fsX[44]? = some (.ref owX)) (gw0X : fw0X.length = 72) (gt0X : fw0X[0]? = some (.int (nI 0))) (gw1X : fw1X.length = 72) (gt1X : fw1X[0]? = some (.int (nI 0))) (gw2X : fw2X.length = 72) (gt2X : fw2X[0]? = some (.int (nI 0))) (hP : va_P D CL [(h0, .inr (11, [.ref r_cwords, .ref r_creader, .ref r_cchecker, .ref r_cfinder, .ref r_cwriter, .ref r_cmachines, .ref r_ctape, .int (nI 0), .int (-2), .int (nI 60000), .ref r_cstock, .ref r_csizes, .ref r_cmet, .ref r_cfound, .int (nI 0), .ref r_cdraft, .int (nI 0), .int (nI 0), .ref r_cfewestFor, .ref r_cfewestNext])), (r_cmachines, .inl (g 4, 4, .inr (.inr (.inr (.inr (va_up (va_up (va_up (va_up (fun _ => none) 0 (some mm0)) 1 (some mm1)) 2 (some mm2)) 3 (some mm3))))))), (mm0, .inr (4, [.ref ww0, .ref r_m0heap, .ref r_m0runs, .ref r_m0counts, .ref r_m0traceRow, .int f_m0traceCount, .ref r_m0startedList, .int f_m0startedCount, .int f_m0present, .int f_m0quantum, .int f_m0stepsDone, .int f_m0turnSteps, .int f_m0turnMost, .int f_m0turnOver, .ref r_m0finder, .ref r_m0names, .int f_m0fault, .int f_m0wanted, .int f_m0thrown])), (mm1, .inr (4, [.ref ww1, .ref r_m1heap, .ref r_m1runs, .ref r_m1counts, .ref r_m1traceRow, .int f_m1traceCount, .ref r_m1startedList, .int f_m1startedCount, .int f_m1present, .int f_m1quantum, .int f_m1stepsDone, .int f_m1turnSteps, .int f_m1turnMost, .int f_m1turnOver, .ref r_m1finder, .ref r_m1names, .int f_m1fault, .int f_m1wanted, .int f_m1thrown])), (mm2, .inr (4, [.ref ww2, .ref r_m2heap, .ref r_m2runs, .ref r_m2counts, .ref r_m2traceRow, .int f_m2traceCount, .ref r_m2startedList, .int f_m2startedCount, .int f_m2present, .int f_m2quantum, .int f_m2stepsDone, .int f_m2turnSteps, .int f_m2turnMost, .int f_m2turnOver, .ref r_m2finder, .ref r_m2names, .int f_m2fault, .int f_m2wanted, .int f_m2thrown])), (ww0, .inr (9, [.ref r_w0names, .int (nI 0), .int (nI 21), .int f_w0wrongClass, .int f_w0wrongMethod, .int f_w0wrongAt, .ref r_w0rows, .ref r_w0above, .ref r_w0fields, .ref r_w0methods, .ref r_w0codes, .ref r_w0handlers, .ref r_w0extra, .ref r_w0orders, .ref r_w0classNamed, .int f_w0breaks, .ref r_w0marks])), (ww1, .inr (9, [.ref r_w1names, .int (nI 0), .int (nI 21), .int f_w1wrongClass, .int f_w1wrongMethod, .int f_w1wrongAt, .ref r_w1rows, .ref r_w1above, .ref r_w1fields, .ref r_w1methods, .ref r_w1codes, .ref r_w1handlers, .ref r_w1extra, .ref r_w1orders, .ref r_w1classNamed, .int f_w1breaks, .ref r_w1marks])), (ww2, .inr (9, [.ref r_w2names, .int (nI 0), .int (nI 21), .int f_w2wrongClass, .int f_w2wrongMethod, .int f_w2wrongAt, .ref r_w2rows, .ref r_w2above, .ref r_w2fields, .ref r_w2methods, .ref r_w2codes, .ref r_w2handlers, .ref r_w2extra, .ref r_w2orders, .ref r_w2classNamed, .int f_w2breaks, .ref r_w2marks])), (h0X, .inr (14, fsX)), (owX, .inl (g 6, 4, .inr (.inr (.inr (.inr (va_up (va_up (va_up (va_up (fun _ => none) 0 (some v0X)) 1 (some v1X)) 2 (some v2X)) 3 (some v3X))))))), (v0X, .inr (13, fw0X)), (v1X, .inr (13, fw1X)), (v2X, .inr (13, fw2X))] H) (hD : va_D A [(h0, .inr (11, [.ref r_cwords, .ref r_creader, .ref r_cchecker, .ref r_cfinder, .ref r_cwriter, .ref r_cmachines, .ref r_ctape, .int (nI 0), .int (-2), .int (nI 60000), .ref r_cstock, .ref r_csizes, .ref r_cmet, .ref r_cfound, .int (nI 0), .ref r_cdraft, .int (nI 0), .int (nI 0), .ref r_cfewestFor, .ref r_cfewestNext])), (r_cmachines, .inl (g 4, 4, .inr (.inr (.inr (.inr (va_up (va_up (va_up (va_up (fun _ => none) 0 (some mm0)) 1 (some mm1)) 2 (some mm2)) 3 (some mm3))))))), (mm0, .inr (4, [.ref ww0, .ref r_m0heap, .ref r_m0runs, .ref r_m0counts, .ref r_m0traceRow, .int f_m0traceCount, .ref r_m0startedList, .int f_m0startedCount, .int f_m0present, .int f_m0quantum, .int f_m0stepsDone, .int f_m0turnSteps, .int f_m0turnMost, .int f_m0turnOver, .ref r_m0finder, .ref r_m0names, .int f_m0fault, .int f_m0wanted, .int f_m0thrown])), (mm1, .inr (4, [.ref ww1, .ref r_m1heap, .ref r_m1runs, .ref r_m1counts, .ref r_m1traceRow, .int f_m1traceCount, .ref r_m1startedList, .int f_m1startedCount, .int f_m1present, .int f_m1quantum, .int f_m1stepsDone, .int f_m1turnSteps, .int f_m1turnMost, .int f_m1turnOver, .ref r_m1finder, .ref r_m1names, .int f_m1fault, .int f_m1wanted, .int f_m1thrown])), (mm2, .inr (4, [.ref ww2, .ref r_m2heap, .ref r_m2runs, .ref r_m2counts, .ref r_m2traceRow, .int f_m2traceCount, .ref r_m2startedList, .int f_m2startedCount, .int f_m2present, .int f_m2quantum, .int f_m2stepsDone, .int f_m2turnSteps, .int f_m2turnMost, .int f_m2turnOver, .ref r_m2finder, .ref r_m2names, .int f_m2fault, .int f_m2wanted, .int f_m2thrown])), (ww0, .inr (9, [.ref r_w0names, .int (nI 0), .int (nI 21), .int f_w0wrongClass, .int f_w0wrongMethod, .int f_w0wrongAt, .ref r_w0rows, .ref r_w0above, .ref r_w0fields, .ref r_w0methods, .ref r_w0codes, .ref r_w0handlers, .ref r_w0extra, .ref r_w0orders, .ref r_w0classNamed, .int f_w0breaks, .ref r_w0marks])), (ww1, .inr (9, [.ref r_w1names, .int (nI 0), .int (nI 21), .int f_w1wrongClass, .int f_w1wrongMethod, .int f_w1wrongAt, .ref r_w1rows, .ref r_w1above, .ref r_w1fields, .ref r_w1methods, .ref r_w1codes, .ref r_w1handlers, .ref r_w1extra, .ref r_w1orders, .ref r_w1classNamed, .int f_w1breaks, .ref r_w1marks])), (ww2, .inr (9, [.ref r_w2names, .int (nI 0), .int (nI 21), .int f_w2wrongClass, .int f_w2wrongMethod, .int f_w2wrongAt, .ref r_w2rows, .ref r_w2above, .ref r_w2fields, .ref r_w2methods, .ref r_w2codes, .ref r_w2handlers, .ref r_w2extra, .ref r_w2orders, .ref r_w2classNamed, .int f_w2breaks, .ref r_w2marks])), (h0X, .inr (14, fsX)), (owX, .inl (g 6, 4, .inr (.inr (.inr (.inr (va_up (va_up (va_up (va_up (fun _ => none) 0 (some v0X)) 1 (some v1X)) 2 (some v2X)) 3 (some v3X))))))), (v0X, .inr (13, fw0X)), (v1X, .inr (13, fw1X)), (v2X, .inr (13, fw2X))]) (hS : va_S A s.heap H locs) (hl : lv_has ls 4 [(0, .ref b), (1, .ref h0), (2, .ref h0X), (3, .int (nI 0))]) : W p l e room_1 s m #[Value.ref b] below meth c H locs 702 488194 (lw_Z below #[Value.ref b] s) (F0 m 907 ls []) := by
  refine lv_aload_n G.1 G.2.1 d_Law_907 rfl (lv_at hl 1 rfl) ?_
  refine lv_aload_n G.1 G.2.1 d_Law_908 rfl (lv_at hl 0 rfl) ?_
  refine lv_iload_n G.1 G.2.1 d_Law_909 rfl (lv_at hl 3 rfl) ?_
  refine lv_iconst (v := nI 1) G.1 G.2.1 d_Law_910 (by decide) ?_
  refine lv_iadd G.1 G.2.1 d_Law_911 ?_
  refine tpi (w := nI 1) (by decide) ?_
  refine va_sld G.1 G.2.1 hX hbl hbA hS (nI_inn (n := 6) (a := 1) (by decide) (by decide)) d_Law_912 ?_
  refine tpi (w := (xs 1)) (by rw [nI_clamp (by decide)]) ?_
  refine lv_aload_n G.1 G.2.1 d_Law_913 rfl (lv_at hl 0 rfl) ?_
  refine lv_iload_n G.1 G.2.1 d_Law_914 rfl (lv_at hl 3 rfl) ?_
  refine lv_iconst (v := nI 2) G.1 G.2.1 d_Law_915 (by decide) ?_
  refine lv_iadd G.1 G.2.1 d_Law_916 ?_
  refine tpi (w := nI 2) (by decide) ?_
  refine va_sld G.1 G.2.1 hX hbl hbA hS (nI_inn (n := 6) (a := 2) (by decide) (by decide)) d_Law_917 ?_
  refine tpi (w := (xs 2)) (by rw [nI_clamp (by decide)]) ?_
  refine W.eq (g2 := F0 m 918 ls [.int (xs 2), .int (xs 1), .ref h0]) rfl ?_
  refine lv_aload_n G.1 G.2.1 d_Law_918 rfl (lv_at hl 0 rfl) ?_
  refine lv_iload_n G.1 G.2.1 d_Law_919 rfl (lv_at hl 3 rfl) ?_
  refine lv_iconst (v := nI 3) G.1 G.2.1 d_Law_920 (by decide) ?_
  refine lv_iadd G.1 G.2.1 d_Law_921 ?_
  refine tpi (w := nI 3) (by decide) ?_
  refine va_sld G.1 G.2.1 hX hbl hbA hS (nI_inn (n := 6) (a := 3) (by decide) (by decide)) d_Law_922 ?_
  refine tpi (w := (xs 3)) (by rw [nI_clamp (by decide)]) ?_
  refine kEi (wr := [(h0X, .inr (14, fsX)), (owX, .inl (g 6, 4, .inr (.inr (.inr (.inr (va_up (va_up (va_up (va_up (fun _ => none) 0 (some v0X)) 1 (some v1X)) 2 (some v2X)) 3 (some v3X))))))), (v0X, .inr (13, fw0X)), (v1X, .inr (13, fw1X)), (v2X, .inr (13, fw2X))]) G (kV (As := [.int (xs 1), .int (xs 2), .int (xs 3)]) (rest := []) G hP hD hS [0, 1, 2, 3, 4, 5, 6, 7] rfl rfl (c_Cw_fixed l D g h0 (xs 1) (xs 2) (xs 3) r_cwords r_creader r_cchecker r_cfinder r_cwriter r_cmachines r_ctape r_cstock r_csizes r_cmet r_cfound r_cdraft r_cfewestFor r_cfewestNext mm0 mm1 mm2 mm3 ww0 r_m0heap r_m0runs r_m0counts r_m0traceRow f_m0traceCount r_m0startedList f_m0startedCount f_m0present f_m0quantum f_m0stepsDone f_m0turnSteps f_m0turnMost f_m0turnOver r_m0finder r_m0names f_m0fault f_m0wanted f_m0thrown ww1 r_m1heap r_m1runs r_m1counts r_m1traceRow f_m1traceCount r_m1startedList f_m1startedCount f_m1present f_m1quantum f_m1stepsDone f_m1turnSteps f_m1turnMost f_m1turnOver r_m1finder r_m1names f_m1fault f_m1wanted f_m1thrown ww2 r_m2heap r_m2runs r_m2counts r_m2traceRow f_m2traceCount r_m2startedList f_m2startedCount f_m2present f_m2quantum f_m2stepsDone f_m2turnSteps f_m2turnMost f_m2turnOver r_m2finder r_m2names f_m2fault f_m2wanted f_m2thrown r_w0names f_w0wrongClass f_w0wrongMethod f_w0wrongAt r_w0rows r_w0above r_w0fields r_w0methods r_w0codes r_w0handlers r_w0extra r_w0orders r_w0classNamed f_w0breaks r_w0marks r_w1names f_w1wrongClass f_w1wrongMethod f_w1wrongAt r_w1rows r_w1above r_w1fields r_w1methods r_w1codes r_w1handlers r_w1extra r_w1orders r_w1classNamed f_w1breaks r_w1marks r_w2names f_w2wrongClass f_w2wrongMethod f_w2wrongAt r_w2rows r_w2above r_w2fields r_w2methods r_w2codes r_w2handlers r_w2extra r_w2orders r_w2classNamed f_w2breaks r_w2marks H.size ) w_Cw_fixed q2124 rfl rfl ⟨Nat.le_of_ble_eq_true rfl, Nat.le_of_ble_eq_true rfl⟩ (fun _ h => absurd h List.not_mem_nil) 0 (ci := 11) rfl rfl rfl hl.1 rfl (Nat.le_of_ble_eq_true rfl) rfl ⟨Nat.le_of_ble_eq_true rfl, (Nat.le_of_ble_eq_true rfl)⟩ d_Law_923) hP hD hS [0, 1, 2, 3, 4, 5, 6, 7] [8, 9, 10, 11, 12] rfl rfl rfl rfl (fun r_1 u_2 H locs hw hP hD hS hzH => ?_)
  have hw : r_1 = (-1) := hw
  have hP : va_P D CL [(h0X, .inr (14, fsX)), (owX, .inl (g 6, 4, .inr (.inr (.inr (.inr (va_up (va_up (va_up (va_up (fun _ => none) 0 (some v0X)) 1 (some v1X)) 2 (some v2X)) 3 (some v3X))))))), (v0X, .inr (13, fw0X)), (v1X, .inr (13, fw1X)), (v2X, .inr (13, fw2X))] H := hP
  have hD : va_D A [(h0X, .inr (14, fsX)), (owX, .inl (g 6, 4, .inr (.inr (.inr (.inr (va_up (va_up (va_up (va_up (fun _ => none) 0 (some v0X)) 1 (some v1X)) 2 (some v2X)) 3 (some v3X))))))), (v0X, .inr (13, fw0X)), (v1X, .inr (13, fw1X)), (v2X, .inr (13, fw2X))] := hD
  subst hw
  refine tpst (w := [.int (-1)]) rfl ?_
  refine lv_aload_n G.1 G.2.1 d_Law_926 rfl (lv_at hl 2 rfl) ?_
  refine lv_aload_n G.1 G.2.1 d_Law_927 rfl (lv_at hl 0 rfl) ?_
  refine lv_iload_n G.1 G.2.1 d_Law_928 rfl (lv_at hl 3 rfl) ?_
  refine lv_iconst (v := nI 1) G.1 G.2.1 d_Law_929 (by decide) ?_
  refine lv_iadd G.1 G.2.1 d_Law_930 ?_
  refine tpi (w := nI 1) (by decide) ?_
  refine va_sld G.1 G.2.1 hX hbl hbA hS (nI_inn (n := 6) (a := 1) (by decide) (by decide)) d_Law_931 ?_
  refine tpi (w := (xs 1)) (by rw [nI_clamp (by decide)]) ?_
  refine W.eq (g2 := F0 m 932 ls [.int (xs 1), .ref h0X, .int (-1)]) rfl ?_
  refine lv_aload_n G.1 G.2.1 d_Law_932 rfl (lv_at hl 0 rfl) ?_
  refine lv_iload_n G.1 G.2.1 d_Law_933 rfl (lv_at hl 3 rfl) ?_
  refine lv_iconst (v := nI 2) G.1 G.2.1 d_Law_934 (by decide) ?_
  refine lv_iadd G.1 G.2.1 d_Law_935 ?_
  refine tpi (w := nI 2) (by decide) ?_
  refine va_sld G.1 G.2.1 hX hbl hbA hS (nI_inn (n := 6) (a := 2) (by decide) (by decide)) d_Law_936 ?_
  refine tpi (w := (xs 2)) (by rw [nI_clamp (by decide)]) ?_
  refine lv_aload_n G.1 G.2.1 d_Law_937 rfl (lv_at hl 0 rfl) ?_
  refine lv_iload_n G.1 G.2.1 d_Law_938 rfl (lv_at hl 3 rfl) ?_
  refine lv_iconst (v := nI 3) G.1 G.2.1 d_Law_939 (by decide) ?_
  refine lv_iadd G.1 G.2.1 d_Law_940 ?_
  refine tpi (w := nI 3) (by decide) ?_
  refine va_sld G.1 G.2.1 hX hbl hbA hS (nI_inn (n := 6) (a := 3) (by decide) (by decide)) d_Law_941 ?_
  refine tpi (w := (xs 3)) (by rw [nI_clamp (by decide)]) ?_
  refine kEi (wr := []) G (kV (As := [.int (xs 1), .int (xs 2), .int (xs 3)]) (rest := [.int (-1)]) G hP hD hS [0, 1, 2, 3, 4] rfl rfl (c_Mo_fixed l D g h0X (xs 1) (xs 2) (xs 3) fsX owX v0X v1X v2X v3X fw0X fw1X fw2X H.size glenX gk0X gw0X gt0X gw1X gt1X gw2X gt2X) w_Mo_fixed q4030 rfl rfl ⟨Nat.le_of_ble_eq_true rfl, Nat.le_of_ble_eq_true rfl⟩ (fun _ h => absurd h List.not_mem_nil) 0 (ci := 14) rfl rfl rfl hl.1 rfl (Nat.le_of_ble_eq_true rfl) rfl ⟨Nat.le_of_ble_eq_true rfl, (Nat.le_of_ble_eq_true rfl)⟩ d_Law_942) hP hD hS [0, 1, 2, 3, 4] [] rfl rfl rfl rfl (fun r_3 u_4 H locs hw hP hD hS hzH => ?_)
  have hw : r_3 = (-1) := hw
  have hP : va_P D CL [] H := hP
  have hD : va_D A [] := hD
  subst hw
  refine tpst (w := [.int (-1), .int (-1)]) rfl ?_
  refine lv_icmp_eq (tgt := 1768) G.1 G.2.1 d_Law_945 (by decide) (fun c945 => ?_) (fun c945 => absurd c945 (fun h => h rfl))
  refine W.eq (g2 := F0 m 1768 ls []) rfl ?_
  refine lv_iinc (v := nI 6) (lv' := [(3, .int (nI 6)), (0, .ref b), (1, .ref h0), (2, .ref h0X)]) G.1 G.2.1 d_Law_1768 hl (k := 3) rfl (show (nI 0) + Int32.ofInt 6 = nI 6 from by decide) (by decide) rfl (fun ls hl => ?_)
  refine lv_goto (tgt := 18) G.1 G.2.1 d_Law_1771 (by decide) ?_
  refine lv_iload_n G.1 G.2.1 d_Law_18 rfl (lv_at hl 0 rfl) ?_
  refine lv_aload_n G.1 G.2.1 d_Law_19 rfl (lv_at hl 1 rfl) ?_
  refine va_slen G.1 G.2.1 hX hbl hbA hS d_Law_20 ?_
  refine tpi (w := nI 6) rfl ?_
  refine lv_bipush (v := nI 6) G.1 G.2.1 d_Law_21 (by decide) ?_
  refine lv_isub G.1 G.2.1 d_Law_23 ?_
  refine tpi (w := nI 0) (by decide) ?_
  refine lv_icmp_gt (tgt := 1774) G.1 G.2.1 d_Law_24 (by decide) (fun c24 => ?_) (fun c24 => absurd c24 (by decide))
  refine lv_iconst (v := nI 1) G.1 G.2.1 d_Law_1774 (by decide) ?_
  refine va_forget (fun q hq => hAA _ (hS.2.2 q hq)) ?_
  refine W.widen (k := 600002) (n := 7302232) (Nat.le_of_ble_eq_true rfl) (Nat.le_of_ble_eq_true rfl) ?_
  exact lw_ret G.1 G.2.1 G.2.2.2.1 G.2.2.2.2.1 d_Law_1775
theorem q2131 : Cond.code y_Cw_object b_Cw_object 7 (some .int) ∈ lw_ok := lw_okmem (List.mem_of_getElem? (i := 2131) (by decide +kernel)) rfl
theorem q2129 : Cond.instanceMethod y_Cw_object ∈ lw_ok := lw_okmem (List.mem_of_getElem? (i := 2129) (by decide +kernel)) rfl
theorem q2130 : Cond.selects y_Cw_object.cls y_Cw_object y_Cw_object ∈ lw_ok := lw_okmem (List.mem_of_getElem? (i := 2130) (by decide +kernel)) rfl
theorem w_Cw_object : CWv y_Cw_object b_Cw_object 7 (some .int) 3 ∧ Cond.instanceMethod y_Cw_object ∈ lw_ok ∧ Cond.selects y_Cw_object.cls y_Cw_object y_Cw_object ∈ lw_ok := ⟨⟨q2131, q329, by decide +kernel, by decide +kernel, by decide +kernel⟩, q2129, q2130⟩
theorem q2128 : Cond.methodLink "ClassWorksLaw" 100 y_Cw_object ∈ lw_ok := lw_okmem (List.mem_of_getElem? (i := 2128) (by decide +kernel)) rfl
theorem q4037 : Cond.code y_Mo_object b_Mo_object 5 (some .int) ∈ lw_ok := lw_okmem (List.mem_of_getElem? (i := 4037) (by decide +kernel)) rfl
theorem q4035 : Cond.instanceMethod y_Mo_object ∈ lw_ok := lw_okmem (List.mem_of_getElem? (i := 4035) (by decide +kernel)) rfl
theorem q4036 : Cond.selects y_Mo_object.cls y_Mo_object y_Mo_object ∈ lw_ok := lw_okmem (List.mem_of_getElem? (i := 4036) (by decide +kernel)) rfl
theorem w_Mo_object : CWv y_Mo_object b_Mo_object 5 (some .int) 3 ∧ Cond.instanceMethod y_Mo_object ∈ lw_ok ∧ Cond.selects y_Mo_object.cls y_Mo_object y_Mo_object ∈ lw_ok := ⟨⟨q4037, q348, by decide +kernel, by decide +kernel, by decide +kernel⟩, q4035, q4036⟩
theorem q4034 : Cond.methodLink "ClassWorksLaw" 103 y_Mo_object ∈ lw_ok := lw_okmem (List.mem_of_getElem? (i := 4034) (by decide +kernel)) rfl
theorem d_Law_950 : decode code 950 = .ok (.aload_n 1, 1) := by decide +kernel
theorem d_Law_951 : decode code 951 = .ok (.aload_n 0, 1) := by decide +kernel
theorem d_Law_952 : decode code 952 = .ok (.iload_n 3, 1) := by decide +kernel
theorem d_Law_953 : decode code 953 = .ok (.iconst 1, 1) := by decide +kernel
theorem d_Law_954 : decode code 954 = .ok (.iadd, 1) := by decide +kernel
theorem d_Law_955 : decode code 955 = .ok (.iaload, 1) := by decide +kernel
theorem d_Law_956 : decode code 956 = .ok (.aload_n 0, 1) := by decide +kernel
theorem d_Law_957 : decode code 957 = .ok (.iload_n 3, 1) := by decide +kernel
theorem d_Law_958 : decode code 958 = .ok (.iconst 2, 1) := by decide +kernel
theorem d_Law_959 : decode code 959 = .ok (.iadd, 1) := by decide +kernel
theorem d_Law_960 : decode code 960 = .ok (.iaload, 1) := by decide +kernel
theorem d_Law_961 : decode code 961 = .ok (.aload_n 0, 1) := by decide +kernel
theorem d_Law_962 : decode code 962 = .ok (.iload_n 3, 1) := by decide +kernel
theorem d_Law_963 : decode code 963 = .ok (.iconst 3, 1) := by decide +kernel
theorem d_Law_964 : decode code 964 = .ok (.iadd, 1) := by decide +kernel
theorem d_Law_965 : decode code 965 = .ok (.iaload, 1) := by decide +kernel
theorem d_Law_966 : decode code 966 = .ok (.invokevirtual 100, 3) := by decide +kernel
theorem d_Law_969 : decode code 969 = .ok (.aload_n 2, 1) := by decide +kernel
theorem d_Law_970 : decode code 970 = .ok (.aload_n 0, 1) := by decide +kernel
theorem d_Law_971 : decode code 971 = .ok (.iload_n 3, 1) := by decide +kernel
theorem d_Law_972 : decode code 972 = .ok (.iconst 1, 1) := by decide +kernel
theorem d_Law_973 : decode code 973 = .ok (.iadd, 1) := by decide +kernel
theorem d_Law_974 : decode code 974 = .ok (.iaload, 1) := by decide +kernel
theorem d_Law_975 : decode code 975 = .ok (.aload_n 0, 1) := by decide +kernel
theorem d_Law_976 : decode code 976 = .ok (.iload_n 3, 1) := by decide +kernel
theorem d_Law_977 : decode code 977 = .ok (.iconst 2, 1) := by decide +kernel
theorem d_Law_978 : decode code 978 = .ok (.iadd, 1) := by decide +kernel
theorem d_Law_979 : decode code 979 = .ok (.iaload, 1) := by decide +kernel
theorem d_Law_980 : decode code 980 = .ok (.aload_n 0, 1) := by decide +kernel
theorem d_Law_981 : decode code 981 = .ok (.iload_n 3, 1) := by decide +kernel
theorem d_Law_982 : decode code 982 = .ok (.iconst 3, 1) := by decide +kernel
theorem d_Law_983 : decode code 983 = .ok (.iadd, 1) := by decide +kernel
theorem d_Law_984 : decode code 984 = .ok (.iaload, 1) := by decide +kernel
theorem d_Law_985 : decode code 985 = .ok (.invokevirtual 103, 3) := by decide +kernel
theorem d_Law_988 : decode code 988 = .ok (.if_icmp .eq 780, 3) := by decide +kernel
set_option maxHeartbeats 4000000 in
set_option maxRecDepth 100000 in
theorem law_object {p : Program} {e : Env} {s : State} {m : MethodId} {below : List Frame} {meth : Method} {c : Code} {l : Launch} {D : va_G} {g : Nat → ClassId} {sl : List SL} {b : Nat} {xs : Nat → Int32} {A : Nat → Prop} (h0 : Nat) (r_cwords : Nat) (r_creader : Nat) (r_cchecker : Nat) (r_cfinder : Nat) (r_cwriter : Nat) (r_cmachines : Nat) (r_ctape : Nat) (r_cstock : Nat) (r_csizes : Nat) (r_cmet : Nat) (r_cfound : Nat) (r_cdraft : Nat) (r_cfewestFor : Nat) (r_cfewestNext : Nat) (mm0 : Nat) (mm1 : Nat) (mm2 : Nat) (mm3 : Nat) (ww0 : Nat) (r_m0heap : Nat) (r_m0runs : Nat) (r_m0counts : Nat) (r_m0traceRow : Nat) (f_m0traceCount : Int32) (r_m0startedList : Nat) (f_m0startedCount : Int32) (f_m0present : Int32) (f_m0quantum : Int32) (f_m0stepsDone : Int32) (f_m0turnSteps : Int32) (f_m0turnMost : Int32) (f_m0turnOver : Int32) (r_m0finder : Nat) (r_m0names : Nat) (f_m0fault : Int32) (f_m0wanted : Int32) (f_m0thrown : Int32) (ww1 : Nat) (r_m1heap : Nat) (r_m1runs : Nat) (r_m1counts : Nat) (r_m1traceRow : Nat) (f_m1traceCount : Int32) (r_m1startedList : Nat) (f_m1startedCount : Int32) (f_m1present : Int32) (f_m1quantum : Int32) (f_m1stepsDone : Int32) (f_m1turnSteps : Int32) (f_m1turnMost : Int32) (f_m1turnOver : Int32) (r_m1finder : Nat) (r_m1names : Nat) (f_m1fault : Int32) (f_m1wanted : Int32) (f_m1thrown : Int32) (ww2 : Nat) (r_m2heap : Nat) (r_m2runs : Nat) (r_m2counts : Nat) (r_m2traceRow : Nat) (f_m2traceCount : Int32) (r_m2startedList : Nat) (f_m2startedCount : Int32) (f_m2present : Int32) (f_m2quantum : Int32) (f_m2stepsDone : Int32) (f_m2turnSteps : Int32) (f_m2turnMost : Int32) (f_m2turnOver : Int32) (r_m2finder : Nat) (r_m2names : Nat) (f_m2fault : Int32) (f_m2wanted : Int32) (f_m2thrown : Int32) (r_w0names : Nat) (f_w0wrongClass : Int32) (f_w0wrongMethod : Int32) (f_w0wrongAt : Int32) (r_w0rows : Nat) (r_w0above : Nat) (r_w0fields : Nat) (r_w0methods : Nat) (r_w0codes : Nat) (r_w0handlers : Nat) (r_w0extra : Nat) (r_w0orders : Nat) (r_w0classNamed : Nat) (f_w0breaks : Int32) (r_w0marks : Nat) (r_w1names : Nat) (f_w1wrongClass : Int32) (f_w1wrongMethod : Int32) (f_w1wrongAt : Int32) (r_w1rows : Nat) (r_w1above : Nat) (r_w1fields : Nat) (r_w1methods : Nat) (r_w1codes : Nat) (r_w1handlers : Nat) (r_w1extra : Nat) (r_w1orders : Nat) (r_w1classNamed : Nat) (f_w1breaks : Int32) (r_w1marks : Nat) (r_w2names : Nat) (f_w2wrongClass : Int32) (f_w2wrongMethod : Int32) (f_w2wrongAt : Int32) (r_w2rows : Nat) (r_w2above : Nat) (r_w2fields : Nat) (r_w2methods : Nat) (r_w2codes : Nat) (r_w2handlers : Nat) (r_w2extra : Nat) (r_w2orders : Nat) (r_w2classNamed : Nat) (f_w2breaks : Int32) (r_w2marks : Nat) (h0X : Nat) (fsX : List Value) (owX : Nat) (v0X : Nat) (v1X : Nat) (v2X : Nat) (v3X : Nat) (fw0X : List Value) (fw1X : List Value) (fw2X : List Value) (G : GV l p s m #[Value.ref b] meth c (⟨"ClassWorksLaw", meth.name, ""⟩ : MethodName) code 4 ret g D sl A) (hX : va_X b 6 xs s s.heap) (hbl : b < s.heap.size) (hbA : ¬ A b) (hAA : ∀ q, A q → s.heap.size ≤ q) {H : Heap} {locs : List Loc} {ls : Array Slot} (glenX : fsX.length = 131) (gk0X : fsX[44]? = some (.ref owX)) (gw0X : fw0X.length = 72) (gt0X : fw0X[0]? = some (.int (nI 0))) (gw1X : fw1X.length = 72) (gt1X : fw1X[0]? = some (.int (nI 0))) (gw2X : fw2X.length = 72) (gt2X : fw2X[0]? = some (.int (nI 0))) (hP : va_P D CL [(h0, .inr (11, [.ref r_cwords, .ref r_creader, .ref r_cchecker, .ref r_cfinder, .ref r_cwriter, .ref r_cmachines, .ref r_ctape, .int (nI 0), .int (-2), .int (nI 60000), .ref r_cstock, .ref r_csizes, .ref r_cmet, .ref r_cfound, .int (nI 0), .ref r_cdraft, .int (nI 0), .int (nI 0), .ref r_cfewestFor, .ref r_cfewestNext])), (r_cmachines, .inl (g 4, 4, .inr (.inr (.inr (.inr (va_up (va_up (va_up (va_up (fun _ => none) 0 (some mm0)) 1 (some mm1)) 2 (some mm2)) 3 (some mm3))))))), (mm0, .inr (4, [.ref ww0, .ref r_m0heap, .ref r_m0runs, .ref r_m0counts, .ref r_m0traceRow, .int f_m0traceCount, .ref r_m0startedList, .int f_m0startedCount, .int f_m0present, .int f_m0quantum, .int f_m0stepsDone, .int f_m0turnSteps, .int f_m0turnMost, .int f_m0turnOver, .ref r_m0finder, .ref r_m0names, .int f_m0fault, .int f_m0wanted, .int f_m0thrown])), (mm1, .inr (4, [.ref ww1, .ref r_m1heap, .ref r_m1runs, .ref r_m1counts, .ref r_m1traceRow, .int f_m1traceCount, .ref r_m1startedList, .int f_m1startedCount, .int f_m1present, .int f_m1quantum, .int f_m1stepsDone, .int f_m1turnSteps, .int f_m1turnMost, .int f_m1turnOver, .ref r_m1finder, .ref r_m1names, .int f_m1fault, .int f_m1wanted, .int f_m1thrown])), (mm2, .inr (4, [.ref ww2, .ref r_m2heap, .ref r_m2runs, .ref r_m2counts, .ref r_m2traceRow, .int f_m2traceCount, .ref r_m2startedList, .int f_m2startedCount, .int f_m2present, .int f_m2quantum, .int f_m2stepsDone, .int f_m2turnSteps, .int f_m2turnMost, .int f_m2turnOver, .ref r_m2finder, .ref r_m2names, .int f_m2fault, .int f_m2wanted, .int f_m2thrown])), (ww0, .inr (9, [.ref r_w0names, .int (nI 0), .int (nI 21), .int f_w0wrongClass, .int f_w0wrongMethod, .int f_w0wrongAt, .ref r_w0rows, .ref r_w0above, .ref r_w0fields, .ref r_w0methods, .ref r_w0codes, .ref r_w0handlers, .ref r_w0extra, .ref r_w0orders, .ref r_w0classNamed, .int f_w0breaks, .ref r_w0marks])), (ww1, .inr (9, [.ref r_w1names, .int (nI 0), .int (nI 21), .int f_w1wrongClass, .int f_w1wrongMethod, .int f_w1wrongAt, .ref r_w1rows, .ref r_w1above, .ref r_w1fields, .ref r_w1methods, .ref r_w1codes, .ref r_w1handlers, .ref r_w1extra, .ref r_w1orders, .ref r_w1classNamed, .int f_w1breaks, .ref r_w1marks])), (ww2, .inr (9, [.ref r_w2names, .int (nI 0), .int (nI 21), .int f_w2wrongClass, .int f_w2wrongMethod, .int f_w2wrongAt, .ref r_w2rows, .ref r_w2above, .ref r_w2fields, .ref r_w2methods, .ref r_w2codes, .ref r_w2handlers, .ref r_w2extra, .ref r_w2orders, .ref r_w2classNamed, .int f_w2breaks, .ref r_w2marks])), (h0X, .inr (14, fsX)), (owX, .inl (g 6, 4, .inr (.inr (.inr (.inr (va_up (va_up (va_up (va_up (fun _ => none) 0 (some v0X)) 1 (some v1X)) 2 (some v2X)) 3 (some v3X))))))), (v0X, .inr (13, fw0X)), (v1X, .inr (13, fw1X)), (v2X, .inr (13, fw2X))] H) (hD : va_D A [(h0, .inr (11, [.ref r_cwords, .ref r_creader, .ref r_cchecker, .ref r_cfinder, .ref r_cwriter, .ref r_cmachines, .ref r_ctape, .int (nI 0), .int (-2), .int (nI 60000), .ref r_cstock, .ref r_csizes, .ref r_cmet, .ref r_cfound, .int (nI 0), .ref r_cdraft, .int (nI 0), .int (nI 0), .ref r_cfewestFor, .ref r_cfewestNext])), (r_cmachines, .inl (g 4, 4, .inr (.inr (.inr (.inr (va_up (va_up (va_up (va_up (fun _ => none) 0 (some mm0)) 1 (some mm1)) 2 (some mm2)) 3 (some mm3))))))), (mm0, .inr (4, [.ref ww0, .ref r_m0heap, .ref r_m0runs, .ref r_m0counts, .ref r_m0traceRow, .int f_m0traceCount, .ref r_m0startedList, .int f_m0startedCount, .int f_m0present, .int f_m0quantum, .int f_m0stepsDone, .int f_m0turnSteps, .int f_m0turnMost, .int f_m0turnOver, .ref r_m0finder, .ref r_m0names, .int f_m0fault, .int f_m0wanted, .int f_m0thrown])), (mm1, .inr (4, [.ref ww1, .ref r_m1heap, .ref r_m1runs, .ref r_m1counts, .ref r_m1traceRow, .int f_m1traceCount, .ref r_m1startedList, .int f_m1startedCount, .int f_m1present, .int f_m1quantum, .int f_m1stepsDone, .int f_m1turnSteps, .int f_m1turnMost, .int f_m1turnOver, .ref r_m1finder, .ref r_m1names, .int f_m1fault, .int f_m1wanted, .int f_m1thrown])), (mm2, .inr (4, [.ref ww2, .ref r_m2heap, .ref r_m2runs, .ref r_m2counts, .ref r_m2traceRow, .int f_m2traceCount, .ref r_m2startedList, .int f_m2startedCount, .int f_m2present, .int f_m2quantum, .int f_m2stepsDone, .int f_m2turnSteps, .int f_m2turnMost, .int f_m2turnOver, .ref r_m2finder, .ref r_m2names, .int f_m2fault, .int f_m2wanted, .int f_m2thrown])), (ww0, .inr (9, [.ref r_w0names, .int (nI 0), .int (nI 21), .int f_w0wrongClass, .int f_w0wrongMethod, .int f_w0wrongAt, .ref r_w0rows, .ref r_w0above, .ref r_w0fields, .ref r_w0methods, .ref r_w0codes, .ref r_w0handlers, .ref r_w0extra, .ref r_w0orders, .ref r_w0classNamed, .int f_w0breaks, .ref r_w0marks])), (ww1, .inr (9, [.ref r_w1names, .int (nI 0), .int (nI 21), .int f_w1wrongClass, .int f_w1wrongMethod, .int f_w1wrongAt, .ref r_w1rows, .ref r_w1above, .ref r_w1fields, .ref r_w1methods, .ref r_w1codes, .ref r_w1handlers, .ref r_w1extra, .ref r_w1orders, .ref r_w1classNamed, .int f_w1breaks, .ref r_w1marks])), (ww2, .inr (9, [.ref r_w2names, .int (nI 0), .int (nI 21), .int f_w2wrongClass, .int f_w2wrongMethod, .int f_w2wrongAt, .ref r_w2rows, .ref r_w2above, .ref r_w2fields, .ref r_w2methods, .ref r_w2codes, .ref r_w2handlers, .ref r_w2extra, .ref r_w2orders, .ref r_w2classNamed, .int f_w2breaks, .ref r_w2marks])), (h0X, .inr (14, fsX)), (owX, .inl (g 6, 4, .inr (.inr (.inr (.inr (va_up (va_up (va_up (va_up (fun _ => none) 0 (some v0X)) 1 (some v1X)) 2 (some v2X)) 3 (some v3X))))))), (v0X, .inr (13, fw0X)), (v1X, .inr (13, fw1X)), (v2X, .inr (13, fw2X))]) (hS : va_S A s.heap H locs) (hl : lv_has ls 4 [(0, .ref b), (1, .ref h0), (2, .ref h0X), (3, .int (nI 0))]) : W p l e room_1 s m #[Value.ref b] below meth c H locs 702 488194 (lw_Z below #[Value.ref b] s) (F0 m 950 ls []) := by
  refine lv_aload_n G.1 G.2.1 d_Law_950 rfl (lv_at hl 1 rfl) ?_
  refine lv_aload_n G.1 G.2.1 d_Law_951 rfl (lv_at hl 0 rfl) ?_
  refine lv_iload_n G.1 G.2.1 d_Law_952 rfl (lv_at hl 3 rfl) ?_
  refine lv_iconst (v := nI 1) G.1 G.2.1 d_Law_953 (by decide) ?_
  refine lv_iadd G.1 G.2.1 d_Law_954 ?_
  refine tpi (w := nI 1) (by decide) ?_
  refine va_sld G.1 G.2.1 hX hbl hbA hS (nI_inn (n := 6) (a := 1) (by decide) (by decide)) d_Law_955 ?_
  refine tpi (w := (xs 1)) (by rw [nI_clamp (by decide)]) ?_
  refine lv_aload_n G.1 G.2.1 d_Law_956 rfl (lv_at hl 0 rfl) ?_
  refine lv_iload_n G.1 G.2.1 d_Law_957 rfl (lv_at hl 3 rfl) ?_
  refine lv_iconst (v := nI 2) G.1 G.2.1 d_Law_958 (by decide) ?_
  refine lv_iadd G.1 G.2.1 d_Law_959 ?_
  refine tpi (w := nI 2) (by decide) ?_
  refine va_sld G.1 G.2.1 hX hbl hbA hS (nI_inn (n := 6) (a := 2) (by decide) (by decide)) d_Law_960 ?_
  refine tpi (w := (xs 2)) (by rw [nI_clamp (by decide)]) ?_
  refine W.eq (g2 := F0 m 961 ls [.int (xs 2), .int (xs 1), .ref h0]) rfl ?_
  refine lv_aload_n G.1 G.2.1 d_Law_961 rfl (lv_at hl 0 rfl) ?_
  refine lv_iload_n G.1 G.2.1 d_Law_962 rfl (lv_at hl 3 rfl) ?_
  refine lv_iconst (v := nI 3) G.1 G.2.1 d_Law_963 (by decide) ?_
  refine lv_iadd G.1 G.2.1 d_Law_964 ?_
  refine tpi (w := nI 3) (by decide) ?_
  refine va_sld G.1 G.2.1 hX hbl hbA hS (nI_inn (n := 6) (a := 3) (by decide) (by decide)) d_Law_965 ?_
  refine tpi (w := (xs 3)) (by rw [nI_clamp (by decide)]) ?_
  refine kEi (wr := [(h0X, .inr (14, fsX)), (owX, .inl (g 6, 4, .inr (.inr (.inr (.inr (va_up (va_up (va_up (va_up (fun _ => none) 0 (some v0X)) 1 (some v1X)) 2 (some v2X)) 3 (some v3X))))))), (v0X, .inr (13, fw0X)), (v1X, .inr (13, fw1X)), (v2X, .inr (13, fw2X))]) G (kV (As := [.int (xs 1), .int (xs 2), .int (xs 3)]) (rest := []) G hP hD hS [0, 1, 2, 3, 4, 5, 6, 7] rfl rfl (c_Cw_object l D g h0 (xs 1) (xs 2) (xs 3) r_cwords r_creader r_cchecker r_cfinder r_cwriter r_cmachines r_ctape r_cstock r_csizes r_cmet r_cfound r_cdraft r_cfewestFor r_cfewestNext mm0 mm1 mm2 mm3 ww0 r_m0heap r_m0runs r_m0counts r_m0traceRow f_m0traceCount r_m0startedList f_m0startedCount f_m0present f_m0quantum f_m0stepsDone f_m0turnSteps f_m0turnMost f_m0turnOver r_m0finder r_m0names f_m0fault f_m0wanted f_m0thrown ww1 r_m1heap r_m1runs r_m1counts r_m1traceRow f_m1traceCount r_m1startedList f_m1startedCount f_m1present f_m1quantum f_m1stepsDone f_m1turnSteps f_m1turnMost f_m1turnOver r_m1finder r_m1names f_m1fault f_m1wanted f_m1thrown ww2 r_m2heap r_m2runs r_m2counts r_m2traceRow f_m2traceCount r_m2startedList f_m2startedCount f_m2present f_m2quantum f_m2stepsDone f_m2turnSteps f_m2turnMost f_m2turnOver r_m2finder r_m2names f_m2fault f_m2wanted f_m2thrown r_w0names f_w0wrongClass f_w0wrongMethod f_w0wrongAt r_w0rows r_w0above r_w0fields r_w0methods r_w0codes r_w0handlers r_w0extra r_w0orders r_w0classNamed f_w0breaks r_w0marks r_w1names f_w1wrongClass f_w1wrongMethod f_w1wrongAt r_w1rows r_w1above r_w1fields r_w1methods r_w1codes r_w1handlers r_w1extra r_w1orders r_w1classNamed f_w1breaks r_w1marks r_w2names f_w2wrongClass f_w2wrongMethod f_w2wrongAt r_w2rows r_w2above r_w2fields r_w2methods r_w2codes r_w2handlers r_w2extra r_w2orders r_w2classNamed f_w2breaks r_w2marks H.size ) w_Cw_object q2128 rfl rfl ⟨Nat.le_of_ble_eq_true rfl, Nat.le_of_ble_eq_true rfl⟩ (fun _ h => absurd h List.not_mem_nil) 0 (ci := 11) rfl rfl rfl hl.1 rfl (Nat.le_of_ble_eq_true rfl) rfl ⟨Nat.le_of_ble_eq_true rfl, (Nat.le_of_ble_eq_true rfl)⟩ d_Law_966) hP hD hS [0, 1, 2, 3, 4, 5, 6, 7] [8, 9, 10, 11, 12] rfl rfl rfl rfl (fun r_1 u_2 H locs hw hP hD hS hzH => ?_)
  have hw : r_1 = (-1) := hw
  have hP : va_P D CL [(h0X, .inr (14, fsX)), (owX, .inl (g 6, 4, .inr (.inr (.inr (.inr (va_up (va_up (va_up (va_up (fun _ => none) 0 (some v0X)) 1 (some v1X)) 2 (some v2X)) 3 (some v3X))))))), (v0X, .inr (13, fw0X)), (v1X, .inr (13, fw1X)), (v2X, .inr (13, fw2X))] H := hP
  have hD : va_D A [(h0X, .inr (14, fsX)), (owX, .inl (g 6, 4, .inr (.inr (.inr (.inr (va_up (va_up (va_up (va_up (fun _ => none) 0 (some v0X)) 1 (some v1X)) 2 (some v2X)) 3 (some v3X))))))), (v0X, .inr (13, fw0X)), (v1X, .inr (13, fw1X)), (v2X, .inr (13, fw2X))] := hD
  subst hw
  refine tpst (w := [.int (-1)]) rfl ?_
  refine lv_aload_n G.1 G.2.1 d_Law_969 rfl (lv_at hl 2 rfl) ?_
  refine lv_aload_n G.1 G.2.1 d_Law_970 rfl (lv_at hl 0 rfl) ?_
  refine lv_iload_n G.1 G.2.1 d_Law_971 rfl (lv_at hl 3 rfl) ?_
  refine lv_iconst (v := nI 1) G.1 G.2.1 d_Law_972 (by decide) ?_
  refine lv_iadd G.1 G.2.1 d_Law_973 ?_
  refine tpi (w := nI 1) (by decide) ?_
  refine va_sld G.1 G.2.1 hX hbl hbA hS (nI_inn (n := 6) (a := 1) (by decide) (by decide)) d_Law_974 ?_
  refine tpi (w := (xs 1)) (by rw [nI_clamp (by decide)]) ?_
  refine W.eq (g2 := F0 m 975 ls [.int (xs 1), .ref h0X, .int (-1)]) rfl ?_
  refine lv_aload_n G.1 G.2.1 d_Law_975 rfl (lv_at hl 0 rfl) ?_
  refine lv_iload_n G.1 G.2.1 d_Law_976 rfl (lv_at hl 3 rfl) ?_
  refine lv_iconst (v := nI 2) G.1 G.2.1 d_Law_977 (by decide) ?_
  refine lv_iadd G.1 G.2.1 d_Law_978 ?_
  refine tpi (w := nI 2) (by decide) ?_
  refine va_sld G.1 G.2.1 hX hbl hbA hS (nI_inn (n := 6) (a := 2) (by decide) (by decide)) d_Law_979 ?_
  refine tpi (w := (xs 2)) (by rw [nI_clamp (by decide)]) ?_
  refine lv_aload_n G.1 G.2.1 d_Law_980 rfl (lv_at hl 0 rfl) ?_
  refine lv_iload_n G.1 G.2.1 d_Law_981 rfl (lv_at hl 3 rfl) ?_
  refine lv_iconst (v := nI 3) G.1 G.2.1 d_Law_982 (by decide) ?_
  refine lv_iadd G.1 G.2.1 d_Law_983 ?_
  refine tpi (w := nI 3) (by decide) ?_
  refine va_sld G.1 G.2.1 hX hbl hbA hS (nI_inn (n := 6) (a := 3) (by decide) (by decide)) d_Law_984 ?_
  refine tpi (w := (xs 3)) (by rw [nI_clamp (by decide)]) ?_
  refine kEi (wr := []) G (kV (As := [.int (xs 1), .int (xs 2), .int (xs 3)]) (rest := [.int (-1)]) G hP hD hS [0, 1, 2, 3, 4] rfl rfl (c_Mo_object l D g h0X (xs 1) (xs 2) (xs 3) fsX owX v0X v1X v2X v3X fw0X fw1X fw2X H.size glenX gk0X gw0X gt0X gw1X gt1X gw2X gt2X) w_Mo_object q4034 rfl rfl ⟨Nat.le_of_ble_eq_true rfl, Nat.le_of_ble_eq_true rfl⟩ (fun _ h => absurd h List.not_mem_nil) 0 (ci := 14) rfl rfl rfl hl.1 rfl (Nat.le_of_ble_eq_true rfl) rfl ⟨Nat.le_of_ble_eq_true rfl, (Nat.le_of_ble_eq_true rfl)⟩ d_Law_985) hP hD hS [0, 1, 2, 3, 4] [] rfl rfl rfl rfl (fun r_3 u_4 H locs hw hP hD hS hzH => ?_)
  have hw : r_3 = (-1) := hw
  have hP : va_P D CL [] H := hP
  have hD : va_D A [] := hD
  subst hw
  refine tpst (w := [.int (-1), .int (-1)]) rfl ?_
  refine lv_icmp_eq (tgt := 1768) G.1 G.2.1 d_Law_988 (by decide) (fun c988 => ?_) (fun c988 => absurd c988 (fun h => h rfl))
  refine W.eq (g2 := F0 m 1768 ls []) rfl ?_
  refine lv_iinc (v := nI 6) (lv' := [(3, .int (nI 6)), (0, .ref b), (1, .ref h0), (2, .ref h0X)]) G.1 G.2.1 d_Law_1768 hl (k := 3) rfl (show (nI 0) + Int32.ofInt 6 = nI 6 from by decide) (by decide) rfl (fun ls hl => ?_)
  refine lv_goto (tgt := 18) G.1 G.2.1 d_Law_1771 (by decide) ?_
  refine lv_iload_n G.1 G.2.1 d_Law_18 rfl (lv_at hl 0 rfl) ?_
  refine lv_aload_n G.1 G.2.1 d_Law_19 rfl (lv_at hl 1 rfl) ?_
  refine va_slen G.1 G.2.1 hX hbl hbA hS d_Law_20 ?_
  refine tpi (w := nI 6) rfl ?_
  refine lv_bipush (v := nI 6) G.1 G.2.1 d_Law_21 (by decide) ?_
  refine lv_isub G.1 G.2.1 d_Law_23 ?_
  refine tpi (w := nI 0) (by decide) ?_
  refine lv_icmp_gt (tgt := 1774) G.1 G.2.1 d_Law_24 (by decide) (fun c24 => ?_) (fun c24 => absurd c24 (by decide))
  refine lv_iconst (v := nI 1) G.1 G.2.1 d_Law_1774 (by decide) ?_
  refine va_forget (fun q hq => hAA _ (hS.2.2 q hq)) ?_
  refine W.widen (k := 600002) (n := 7302232) (Nat.le_of_ble_eq_true rfl) (Nat.le_of_ble_eq_true rfl) ?_
  exact lw_ret G.1 G.2.1 G.2.2.2.1 G.2.2.2.2.1 d_Law_1775
theorem q2145 : Cond.code y_Cw_print b_Cw_print 4 (some .int) ∈ lw_ok := lw_okmem (List.mem_of_getElem? (i := 2145) (by decide +kernel)) rfl
theorem q2143 : Cond.instanceMethod y_Cw_print ∈ lw_ok := lw_okmem (List.mem_of_getElem? (i := 2143) (by decide +kernel)) rfl
theorem q2144 : Cond.selects y_Cw_print.cls y_Cw_print y_Cw_print ∈ lw_ok := lw_okmem (List.mem_of_getElem? (i := 2144) (by decide +kernel)) rfl
theorem w_Cw_print : CWv y_Cw_print b_Cw_print 4 (some .int) 2 ∧ Cond.instanceMethod y_Cw_print ∈ lw_ok ∧ Cond.selects y_Cw_print.cls y_Cw_print y_Cw_print ∈ lw_ok := ⟨⟨q2145, q329, by decide +kernel, by decide +kernel, by decide +kernel⟩, q2143, q2144⟩
theorem q2142 : Cond.methodLink "ClassWorksLaw" 104 y_Cw_print ∈ lw_ok := lw_okmem (List.mem_of_getElem? (i := 2142) (by decide +kernel)) rfl
theorem q4045 : Cond.code y_Mo_print b_Mo_print 4 (some .int) ∈ lw_ok := lw_okmem (List.mem_of_getElem? (i := 4045) (by decide +kernel)) rfl
theorem q4043 : Cond.instanceMethod y_Mo_print ∈ lw_ok := lw_okmem (List.mem_of_getElem? (i := 4043) (by decide +kernel)) rfl
theorem q4044 : Cond.selects y_Mo_print.cls y_Mo_print y_Mo_print ∈ lw_ok := lw_okmem (List.mem_of_getElem? (i := 4044) (by decide +kernel)) rfl
theorem w_Mo_print : CWv y_Mo_print b_Mo_print 4 (some .int) 2 ∧ Cond.instanceMethod y_Mo_print ∈ lw_ok ∧ Cond.selects y_Mo_print.cls y_Mo_print y_Mo_print ∈ lw_ok := ⟨⟨q4045, q348, by decide +kernel, by decide +kernel, by decide +kernel⟩, q4043, q4044⟩
theorem q4042 : Cond.methodLink "ClassWorksLaw" 107 y_Mo_print ∈ lw_ok := lw_okmem (List.mem_of_getElem? (i := 4042) (by decide +kernel)) rfl
theorem d_Law_993 : decode code 993 = .ok (.aload_n 1, 1) := by decide +kernel
theorem d_Law_994 : decode code 994 = .ok (.aload_n 0, 1) := by decide +kernel
theorem d_Law_995 : decode code 995 = .ok (.iload_n 3, 1) := by decide +kernel
theorem d_Law_996 : decode code 996 = .ok (.iconst 1, 1) := by decide +kernel
theorem d_Law_997 : decode code 997 = .ok (.iadd, 1) := by decide +kernel
theorem d_Law_998 : decode code 998 = .ok (.iaload, 1) := by decide +kernel
theorem d_Law_999 : decode code 999 = .ok (.aload_n 0, 1) := by decide +kernel
theorem d_Law_1000 : decode code 1000 = .ok (.iload_n 3, 1) := by decide +kernel
theorem d_Law_1001 : decode code 1001 = .ok (.iconst 2, 1) := by decide +kernel
theorem d_Law_1002 : decode code 1002 = .ok (.iadd, 1) := by decide +kernel
theorem d_Law_1003 : decode code 1003 = .ok (.iaload, 1) := by decide +kernel
theorem d_Law_1004 : decode code 1004 = .ok (.invokevirtual 104, 3) := by decide +kernel
theorem d_Law_1007 : decode code 1007 = .ok (.aload_n 2, 1) := by decide +kernel
theorem d_Law_1008 : decode code 1008 = .ok (.aload_n 0, 1) := by decide +kernel
theorem d_Law_1009 : decode code 1009 = .ok (.iload_n 3, 1) := by decide +kernel
theorem d_Law_1010 : decode code 1010 = .ok (.iconst 1, 1) := by decide +kernel
theorem d_Law_1011 : decode code 1011 = .ok (.iadd, 1) := by decide +kernel
theorem d_Law_1012 : decode code 1012 = .ok (.iaload, 1) := by decide +kernel
theorem d_Law_1013 : decode code 1013 = .ok (.aload_n 0, 1) := by decide +kernel
theorem d_Law_1014 : decode code 1014 = .ok (.iload_n 3, 1) := by decide +kernel
theorem d_Law_1015 : decode code 1015 = .ok (.iconst 2, 1) := by decide +kernel
theorem d_Law_1016 : decode code 1016 = .ok (.iadd, 1) := by decide +kernel
theorem d_Law_1017 : decode code 1017 = .ok (.iaload, 1) := by decide +kernel
theorem d_Law_1018 : decode code 1018 = .ok (.invokevirtual 107, 3) := by decide +kernel
theorem d_Law_1021 : decode code 1021 = .ok (.if_icmp .eq 747, 3) := by decide +kernel
set_option maxHeartbeats 4000000 in
set_option maxRecDepth 100000 in
theorem law_print {p : Program} {e : Env} {s : State} {m : MethodId} {below : List Frame} {meth : Method} {c : Code} {l : Launch} {D : va_G} {g : Nat → ClassId} {sl : List SL} {b : Nat} {xs : Nat → Int32} {A : Nat → Prop} (h0 : Nat) (r_cwords : Nat) (r_creader : Nat) (r_cchecker : Nat) (r_cfinder : Nat) (r_cwriter : Nat) (r_cmachines : Nat) (r_ctape : Nat) (r_cstock : Nat) (r_csizes : Nat) (r_cmet : Nat) (r_cfound : Nat) (r_cdraft : Nat) (r_cfewestFor : Nat) (r_cfewestNext : Nat) (mm0 : Nat) (mm1 : Nat) (mm2 : Nat) (mm3 : Nat) (ww0 : Nat) (r_m0heap : Nat) (r_m0runs : Nat) (r_m0counts : Nat) (r_m0traceRow : Nat) (f_m0traceCount : Int32) (r_m0startedList : Nat) (f_m0startedCount : Int32) (f_m0present : Int32) (f_m0quantum : Int32) (f_m0stepsDone : Int32) (f_m0turnSteps : Int32) (f_m0turnMost : Int32) (f_m0turnOver : Int32) (r_m0finder : Nat) (r_m0names : Nat) (f_m0fault : Int32) (f_m0wanted : Int32) (f_m0thrown : Int32) (ww1 : Nat) (r_m1heap : Nat) (r_m1runs : Nat) (r_m1counts : Nat) (r_m1traceRow : Nat) (f_m1traceCount : Int32) (r_m1startedList : Nat) (f_m1startedCount : Int32) (f_m1present : Int32) (f_m1quantum : Int32) (f_m1stepsDone : Int32) (f_m1turnSteps : Int32) (f_m1turnMost : Int32) (f_m1turnOver : Int32) (r_m1finder : Nat) (r_m1names : Nat) (f_m1fault : Int32) (f_m1wanted : Int32) (f_m1thrown : Int32) (ww2 : Nat) (r_m2heap : Nat) (r_m2runs : Nat) (r_m2counts : Nat) (r_m2traceRow : Nat) (f_m2traceCount : Int32) (r_m2startedList : Nat) (f_m2startedCount : Int32) (f_m2present : Int32) (f_m2quantum : Int32) (f_m2stepsDone : Int32) (f_m2turnSteps : Int32) (f_m2turnMost : Int32) (f_m2turnOver : Int32) (r_m2finder : Nat) (r_m2names : Nat) (f_m2fault : Int32) (f_m2wanted : Int32) (f_m2thrown : Int32) (r_w0names : Nat) (f_w0wrongClass : Int32) (f_w0wrongMethod : Int32) (f_w0wrongAt : Int32) (r_w0rows : Nat) (r_w0above : Nat) (r_w0fields : Nat) (r_w0methods : Nat) (r_w0codes : Nat) (r_w0handlers : Nat) (r_w0extra : Nat) (r_w0orders : Nat) (r_w0classNamed : Nat) (f_w0breaks : Int32) (r_w0marks : Nat) (r_w1names : Nat) (f_w1wrongClass : Int32) (f_w1wrongMethod : Int32) (f_w1wrongAt : Int32) (r_w1rows : Nat) (r_w1above : Nat) (r_w1fields : Nat) (r_w1methods : Nat) (r_w1codes : Nat) (r_w1handlers : Nat) (r_w1extra : Nat) (r_w1orders : Nat) (r_w1classNamed : Nat) (f_w1breaks : Int32) (r_w1marks : Nat) (r_w2names : Nat) (f_w2wrongClass : Int32) (f_w2wrongMethod : Int32) (f_w2wrongAt : Int32) (r_w2rows : Nat) (r_w2above : Nat) (r_w2fields : Nat) (r_w2methods : Nat) (r_w2codes : Nat) (r_w2handlers : Nat) (r_w2extra : Nat) (r_w2orders : Nat) (r_w2classNamed : Nat) (f_w2breaks : Int32) (r_w2marks : Nat) (h0X : Nat) (fsX : List Value) (owX : Nat) (v0X : Nat) (v1X : Nat) (v2X : Nat) (v3X : Nat) (fw0X : List Value) (fw1X : List Value) (fw2X : List Value) (G : GV l p s m #[Value.ref b] meth c (⟨"ClassWorksLaw", meth.name, ""⟩ : MethodName) code 4 ret g D sl A) (hX : va_X b 6 xs s s.heap) (hbl : b < s.heap.size) (hbA : ¬ A b) (hAA : ∀ q, A q → s.heap.size ≤ q) {H : Heap} {locs : List Loc} {ls : Array Slot} (glenX : fsX.length = 131) (gk0X : fsX[44]? = some (.ref owX)) (gw0X : fw0X.length = 72) (gt0X : fw0X[0]? = some (.int (nI 0))) (gw1X : fw1X.length = 72) (gt1X : fw1X[0]? = some (.int (nI 0))) (gw2X : fw2X.length = 72) (gt2X : fw2X[0]? = some (.int (nI 0))) (hP : va_P D CL [(h0, .inr (11, [.ref r_cwords, .ref r_creader, .ref r_cchecker, .ref r_cfinder, .ref r_cwriter, .ref r_cmachines, .ref r_ctape, .int (nI 0), .int (-2), .int (nI 60000), .ref r_cstock, .ref r_csizes, .ref r_cmet, .ref r_cfound, .int (nI 0), .ref r_cdraft, .int (nI 0), .int (nI 0), .ref r_cfewestFor, .ref r_cfewestNext])), (r_cmachines, .inl (g 4, 4, .inr (.inr (.inr (.inr (va_up (va_up (va_up (va_up (fun _ => none) 0 (some mm0)) 1 (some mm1)) 2 (some mm2)) 3 (some mm3))))))), (mm0, .inr (4, [.ref ww0, .ref r_m0heap, .ref r_m0runs, .ref r_m0counts, .ref r_m0traceRow, .int f_m0traceCount, .ref r_m0startedList, .int f_m0startedCount, .int f_m0present, .int f_m0quantum, .int f_m0stepsDone, .int f_m0turnSteps, .int f_m0turnMost, .int f_m0turnOver, .ref r_m0finder, .ref r_m0names, .int f_m0fault, .int f_m0wanted, .int f_m0thrown])), (mm1, .inr (4, [.ref ww1, .ref r_m1heap, .ref r_m1runs, .ref r_m1counts, .ref r_m1traceRow, .int f_m1traceCount, .ref r_m1startedList, .int f_m1startedCount, .int f_m1present, .int f_m1quantum, .int f_m1stepsDone, .int f_m1turnSteps, .int f_m1turnMost, .int f_m1turnOver, .ref r_m1finder, .ref r_m1names, .int f_m1fault, .int f_m1wanted, .int f_m1thrown])), (mm2, .inr (4, [.ref ww2, .ref r_m2heap, .ref r_m2runs, .ref r_m2counts, .ref r_m2traceRow, .int f_m2traceCount, .ref r_m2startedList, .int f_m2startedCount, .int f_m2present, .int f_m2quantum, .int f_m2stepsDone, .int f_m2turnSteps, .int f_m2turnMost, .int f_m2turnOver, .ref r_m2finder, .ref r_m2names, .int f_m2fault, .int f_m2wanted, .int f_m2thrown])), (ww0, .inr (9, [.ref r_w0names, .int (nI 0), .int (nI 21), .int f_w0wrongClass, .int f_w0wrongMethod, .int f_w0wrongAt, .ref r_w0rows, .ref r_w0above, .ref r_w0fields, .ref r_w0methods, .ref r_w0codes, .ref r_w0handlers, .ref r_w0extra, .ref r_w0orders, .ref r_w0classNamed, .int f_w0breaks, .ref r_w0marks])), (ww1, .inr (9, [.ref r_w1names, .int (nI 0), .int (nI 21), .int f_w1wrongClass, .int f_w1wrongMethod, .int f_w1wrongAt, .ref r_w1rows, .ref r_w1above, .ref r_w1fields, .ref r_w1methods, .ref r_w1codes, .ref r_w1handlers, .ref r_w1extra, .ref r_w1orders, .ref r_w1classNamed, .int f_w1breaks, .ref r_w1marks])), (ww2, .inr (9, [.ref r_w2names, .int (nI 0), .int (nI 21), .int f_w2wrongClass, .int f_w2wrongMethod, .int f_w2wrongAt, .ref r_w2rows, .ref r_w2above, .ref r_w2fields, .ref r_w2methods, .ref r_w2codes, .ref r_w2handlers, .ref r_w2extra, .ref r_w2orders, .ref r_w2classNamed, .int f_w2breaks, .ref r_w2marks])), (h0X, .inr (14, fsX)), (owX, .inl (g 6, 4, .inr (.inr (.inr (.inr (va_up (va_up (va_up (va_up (fun _ => none) 0 (some v0X)) 1 (some v1X)) 2 (some v2X)) 3 (some v3X))))))), (v0X, .inr (13, fw0X)), (v1X, .inr (13, fw1X)), (v2X, .inr (13, fw2X))] H) (hD : va_D A [(h0, .inr (11, [.ref r_cwords, .ref r_creader, .ref r_cchecker, .ref r_cfinder, .ref r_cwriter, .ref r_cmachines, .ref r_ctape, .int (nI 0), .int (-2), .int (nI 60000), .ref r_cstock, .ref r_csizes, .ref r_cmet, .ref r_cfound, .int (nI 0), .ref r_cdraft, .int (nI 0), .int (nI 0), .ref r_cfewestFor, .ref r_cfewestNext])), (r_cmachines, .inl (g 4, 4, .inr (.inr (.inr (.inr (va_up (va_up (va_up (va_up (fun _ => none) 0 (some mm0)) 1 (some mm1)) 2 (some mm2)) 3 (some mm3))))))), (mm0, .inr (4, [.ref ww0, .ref r_m0heap, .ref r_m0runs, .ref r_m0counts, .ref r_m0traceRow, .int f_m0traceCount, .ref r_m0startedList, .int f_m0startedCount, .int f_m0present, .int f_m0quantum, .int f_m0stepsDone, .int f_m0turnSteps, .int f_m0turnMost, .int f_m0turnOver, .ref r_m0finder, .ref r_m0names, .int f_m0fault, .int f_m0wanted, .int f_m0thrown])), (mm1, .inr (4, [.ref ww1, .ref r_m1heap, .ref r_m1runs, .ref r_m1counts, .ref r_m1traceRow, .int f_m1traceCount, .ref r_m1startedList, .int f_m1startedCount, .int f_m1present, .int f_m1quantum, .int f_m1stepsDone, .int f_m1turnSteps, .int f_m1turnMost, .int f_m1turnOver, .ref r_m1finder, .ref r_m1names, .int f_m1fault, .int f_m1wanted, .int f_m1thrown])), (mm2, .inr (4, [.ref ww2, .ref r_m2heap, .ref r_m2runs, .ref r_m2counts, .ref r_m2traceRow, .int f_m2traceCount, .ref r_m2startedList, .int f_m2startedCount, .int f_m2present, .int f_m2quantum, .int f_m2stepsDone, .int f_m2turnSteps, .int f_m2turnMost, .int f_m2turnOver, .ref r_m2finder, .ref r_m2names, .int f_m2fault, .int f_m2wanted, .int f_m2thrown])), (ww0, .inr (9, [.ref r_w0names, .int (nI 0), .int (nI 21), .int f_w0wrongClass, .int f_w0wrongMethod, .int f_w0wrongAt, .ref r_w0rows, .ref r_w0above, .ref r_w0fields, .ref r_w0methods, .ref r_w0codes, .ref r_w0handlers, .ref r_w0extra, .ref r_w0orders, .ref r_w0classNamed, .int f_w0breaks, .ref r_w0marks])), (ww1, .inr (9, [.ref r_w1names, .int (nI 0), .int (nI 21), .int f_w1wrongClass, .int f_w1wrongMethod, .int f_w1wrongAt, .ref r_w1rows, .ref r_w1above, .ref r_w1fields, .ref r_w1methods, .ref r_w1codes, .ref r_w1handlers, .ref r_w1extra, .ref r_w1orders, .ref r_w1classNamed, .int f_w1breaks, .ref r_w1marks])), (ww2, .inr (9, [.ref r_w2names, .int (nI 0), .int (nI 21), .int f_w2wrongClass, .int f_w2wrongMethod, .int f_w2wrongAt, .ref r_w2rows, .ref r_w2above, .ref r_w2fields, .ref r_w2methods, .ref r_w2codes, .ref r_w2handlers, .ref r_w2extra, .ref r_w2orders, .ref r_w2classNamed, .int f_w2breaks, .ref r_w2marks])), (h0X, .inr (14, fsX)), (owX, .inl (g 6, 4, .inr (.inr (.inr (.inr (va_up (va_up (va_up (va_up (fun _ => none) 0 (some v0X)) 1 (some v1X)) 2 (some v2X)) 3 (some v3X))))))), (v0X, .inr (13, fw0X)), (v1X, .inr (13, fw1X)), (v2X, .inr (13, fw2X))]) (hS : va_S A s.heap H locs) (hl : lv_has ls 4 [(0, .ref b), (1, .ref h0), (2, .ref h0X), (3, .int (nI 0))]) : W p l e room_1 s m #[Value.ref b] below meth c H locs 702 488194 (lw_Z below #[Value.ref b] s) (F0 m 993 ls []) := by
  refine lv_aload_n G.1 G.2.1 d_Law_993 rfl (lv_at hl 1 rfl) ?_
  refine lv_aload_n G.1 G.2.1 d_Law_994 rfl (lv_at hl 0 rfl) ?_
  refine lv_iload_n G.1 G.2.1 d_Law_995 rfl (lv_at hl 3 rfl) ?_
  refine lv_iconst (v := nI 1) G.1 G.2.1 d_Law_996 (by decide) ?_
  refine lv_iadd G.1 G.2.1 d_Law_997 ?_
  refine tpi (w := nI 1) (by decide) ?_
  refine va_sld G.1 G.2.1 hX hbl hbA hS (nI_inn (n := 6) (a := 1) (by decide) (by decide)) d_Law_998 ?_
  refine tpi (w := (xs 1)) (by rw [nI_clamp (by decide)]) ?_
  refine lv_aload_n G.1 G.2.1 d_Law_999 rfl (lv_at hl 0 rfl) ?_
  refine lv_iload_n G.1 G.2.1 d_Law_1000 rfl (lv_at hl 3 rfl) ?_
  refine lv_iconst (v := nI 2) G.1 G.2.1 d_Law_1001 (by decide) ?_
  refine lv_iadd G.1 G.2.1 d_Law_1002 ?_
  refine tpi (w := nI 2) (by decide) ?_
  refine va_sld G.1 G.2.1 hX hbl hbA hS (nI_inn (n := 6) (a := 2) (by decide) (by decide)) d_Law_1003 ?_
  refine tpi (w := (xs 2)) (by rw [nI_clamp (by decide)]) ?_
  refine W.eq (g2 := F0 m 1004 ls [.int (xs 2), .int (xs 1), .ref h0]) rfl ?_
  refine kEi (wr := [(h0X, .inr (14, fsX)), (owX, .inl (g 6, 4, .inr (.inr (.inr (.inr (va_up (va_up (va_up (va_up (fun _ => none) 0 (some v0X)) 1 (some v1X)) 2 (some v2X)) 3 (some v3X))))))), (v0X, .inr (13, fw0X)), (v1X, .inr (13, fw1X)), (v2X, .inr (13, fw2X))]) G (kV (As := [.int (xs 1), .int (xs 2)]) (rest := []) G hP hD hS [0, 1, 2, 3, 4, 5, 6, 7] rfl rfl (c_Cw_print l D g h0 (xs 1) (xs 2) r_cwords r_creader r_cchecker r_cfinder r_cwriter r_cmachines r_ctape r_cstock r_csizes r_cmet r_cfound r_cdraft r_cfewestFor r_cfewestNext mm0 mm1 mm2 mm3 ww0 r_m0heap r_m0runs r_m0counts r_m0traceRow f_m0traceCount r_m0startedList f_m0startedCount f_m0present f_m0quantum f_m0stepsDone f_m0turnSteps f_m0turnMost f_m0turnOver r_m0finder r_m0names f_m0fault f_m0wanted f_m0thrown ww1 r_m1heap r_m1runs r_m1counts r_m1traceRow f_m1traceCount r_m1startedList f_m1startedCount f_m1present f_m1quantum f_m1stepsDone f_m1turnSteps f_m1turnMost f_m1turnOver r_m1finder r_m1names f_m1fault f_m1wanted f_m1thrown ww2 r_m2heap r_m2runs r_m2counts r_m2traceRow f_m2traceCount r_m2startedList f_m2startedCount f_m2present f_m2quantum f_m2stepsDone f_m2turnSteps f_m2turnMost f_m2turnOver r_m2finder r_m2names f_m2fault f_m2wanted f_m2thrown r_w0names f_w0wrongClass f_w0wrongMethod f_w0wrongAt r_w0rows r_w0above r_w0fields r_w0methods r_w0codes r_w0handlers r_w0extra r_w0orders r_w0classNamed f_w0breaks r_w0marks r_w1names f_w1wrongClass f_w1wrongMethod f_w1wrongAt r_w1rows r_w1above r_w1fields r_w1methods r_w1codes r_w1handlers r_w1extra r_w1orders r_w1classNamed f_w1breaks r_w1marks r_w2names f_w2wrongClass f_w2wrongMethod f_w2wrongAt r_w2rows r_w2above r_w2fields r_w2methods r_w2codes r_w2handlers r_w2extra r_w2orders r_w2classNamed f_w2breaks r_w2marks H.size ) w_Cw_print q2142 rfl rfl ⟨Nat.le_of_ble_eq_true rfl, Nat.le_of_ble_eq_true rfl⟩ (fun _ h => absurd h List.not_mem_nil) 0 (ci := 11) rfl rfl rfl hl.1 rfl (Nat.le_of_ble_eq_true rfl) rfl ⟨Nat.le_of_ble_eq_true rfl, (Nat.le_of_ble_eq_true rfl)⟩ d_Law_1004) hP hD hS [0, 1, 2, 3, 4, 5, 6, 7] [8, 9, 10, 11, 12] rfl rfl rfl rfl (fun r_1 u_2 H locs hw hP hD hS hzH => ?_)
  have hw : r_1 = (-1) := hw
  have hP : va_P D CL [(h0X, .inr (14, fsX)), (owX, .inl (g 6, 4, .inr (.inr (.inr (.inr (va_up (va_up (va_up (va_up (fun _ => none) 0 (some v0X)) 1 (some v1X)) 2 (some v2X)) 3 (some v3X))))))), (v0X, .inr (13, fw0X)), (v1X, .inr (13, fw1X)), (v2X, .inr (13, fw2X))] H := hP
  have hD : va_D A [(h0X, .inr (14, fsX)), (owX, .inl (g 6, 4, .inr (.inr (.inr (.inr (va_up (va_up (va_up (va_up (fun _ => none) 0 (some v0X)) 1 (some v1X)) 2 (some v2X)) 3 (some v3X))))))), (v0X, .inr (13, fw0X)), (v1X, .inr (13, fw1X)), (v2X, .inr (13, fw2X))] := hD
  subst hw
  refine tpst (w := [.int (-1)]) rfl ?_
  refine lv_aload_n G.1 G.2.1 d_Law_1007 rfl (lv_at hl 2 rfl) ?_
  refine lv_aload_n G.1 G.2.1 d_Law_1008 rfl (lv_at hl 0 rfl) ?_
  refine lv_iload_n G.1 G.2.1 d_Law_1009 rfl (lv_at hl 3 rfl) ?_
  refine lv_iconst (v := nI 1) G.1 G.2.1 d_Law_1010 (by decide) ?_
  refine lv_iadd G.1 G.2.1 d_Law_1011 ?_
  refine tpi (w := nI 1) (by decide) ?_
  refine va_sld G.1 G.2.1 hX hbl hbA hS (nI_inn (n := 6) (a := 1) (by decide) (by decide)) d_Law_1012 ?_
  refine tpi (w := (xs 1)) (by rw [nI_clamp (by decide)]) ?_
  refine lv_aload_n G.1 G.2.1 d_Law_1013 rfl (lv_at hl 0 rfl) ?_
  refine lv_iload_n G.1 G.2.1 d_Law_1014 rfl (lv_at hl 3 rfl) ?_
  refine lv_iconst (v := nI 2) G.1 G.2.1 d_Law_1015 (by decide) ?_
  refine lv_iadd G.1 G.2.1 d_Law_1016 ?_
  refine tpi (w := nI 2) (by decide) ?_
  refine va_sld G.1 G.2.1 hX hbl hbA hS (nI_inn (n := 6) (a := 2) (by decide) (by decide)) d_Law_1017 ?_
  refine tpi (w := (xs 2)) (by rw [nI_clamp (by decide)]) ?_
  refine W.eq (g2 := F0 m 1018 ls [.int (xs 2), .int (xs 1), .ref h0X, .int (-1)]) rfl ?_
  refine kEi (wr := []) G (kV (As := [.int (xs 1), .int (xs 2)]) (rest := [.int (-1)]) G hP hD hS [0, 1, 2, 3, 4] rfl rfl (c_Mo_print l D g h0X (xs 1) (xs 2) fsX owX v0X v1X v2X v3X fw0X fw1X fw2X H.size glenX gk0X gw0X gt0X gw1X gt1X gw2X gt2X) w_Mo_print q4042 rfl rfl ⟨Nat.le_of_ble_eq_true rfl, Nat.le_of_ble_eq_true rfl⟩ (fun _ h => absurd h List.not_mem_nil) 0 (ci := 14) rfl rfl rfl hl.1 rfl (Nat.le_of_ble_eq_true rfl) rfl ⟨Nat.le_of_ble_eq_true rfl, (Nat.le_of_ble_eq_true rfl)⟩ d_Law_1018) hP hD hS [0, 1, 2, 3, 4] [] rfl rfl rfl rfl (fun r_3 u_4 H locs hw hP hD hS hzH => ?_)
  have hw : r_3 = (-1) := hw
  have hP : va_P D CL [] H := hP
  have hD : va_D A [] := hD
  subst hw
  refine tpst (w := [.int (-1), .int (-1)]) rfl ?_
  refine lv_icmp_eq (tgt := 1768) G.1 G.2.1 d_Law_1021 (by decide) (fun c1021 => ?_) (fun c1021 => absurd c1021 (fun h => h rfl))
  refine lv_iinc (v := nI 6) (lv' := [(3, .int (nI 6)), (0, .ref b), (1, .ref h0), (2, .ref h0X)]) G.1 G.2.1 d_Law_1768 hl (k := 3) rfl (show (nI 0) + Int32.ofInt 6 = nI 6 from by decide) (by decide) rfl (fun ls hl => ?_)
  refine lv_goto (tgt := 18) G.1 G.2.1 d_Law_1771 (by decide) ?_
  refine lv_iload_n G.1 G.2.1 d_Law_18 rfl (lv_at hl 0 rfl) ?_
  refine lv_aload_n G.1 G.2.1 d_Law_19 rfl (lv_at hl 1 rfl) ?_
  refine va_slen G.1 G.2.1 hX hbl hbA hS d_Law_20 ?_
  refine tpi (w := nI 6) rfl ?_
  refine lv_bipush (v := nI 6) G.1 G.2.1 d_Law_21 (by decide) ?_
  refine lv_isub G.1 G.2.1 d_Law_23 ?_
  refine tpi (w := nI 0) (by decide) ?_
  refine lv_icmp_gt (tgt := 1774) G.1 G.2.1 d_Law_24 (by decide) (fun c24 => ?_) (fun c24 => absurd c24 (by decide))
  refine lv_iconst (v := nI 1) G.1 G.2.1 d_Law_1774 (by decide) ?_
  refine va_forget (fun q hq => hAA _ (hS.2.2 q hq)) ?_
  refine W.widen (k := 600002) (n := 7302232) (Nat.le_of_ble_eq_true rfl) (Nat.le_of_ble_eq_true rfl) ?_
  exact lw_ret G.1 G.2.1 G.2.2.2.1 G.2.2.2.2.1 d_Law_1775
theorem q2262 : Cond.code y_Cw_written b_Cw_written 2 (some .int) ∈ lw_ok := lw_okmem (List.mem_of_getElem? (i := 2262) (by decide +kernel)) rfl
theorem q2260 : Cond.instanceMethod y_Cw_written ∈ lw_ok := lw_okmem (List.mem_of_getElem? (i := 2260) (by decide +kernel)) rfl
theorem q2261 : Cond.selects y_Cw_written.cls y_Cw_written y_Cw_written ∈ lw_ok := lw_okmem (List.mem_of_getElem? (i := 2261) (by decide +kernel)) rfl
theorem w_Cw_written : CWv y_Cw_written b_Cw_written 2 (some .int) 1 ∧ Cond.instanceMethod y_Cw_written ∈ lw_ok ∧ Cond.selects y_Cw_written.cls y_Cw_written y_Cw_written ∈ lw_ok := ⟨⟨q2262, q329, by decide +kernel, by decide +kernel, by decide +kernel⟩, q2260, q2261⟩
theorem q2259 : Cond.methodLink "ClassWorksLaw" 108 y_Cw_written ∈ lw_ok := lw_okmem (List.mem_of_getElem? (i := 2259) (by decide +kernel)) rfl
theorem q4116 : Cond.code y_Mo_written b_Mo_written 2 (some .int) ∈ lw_ok := lw_okmem (List.mem_of_getElem? (i := 4116) (by decide +kernel)) rfl
theorem q4114 : Cond.instanceMethod y_Mo_written ∈ lw_ok := lw_okmem (List.mem_of_getElem? (i := 4114) (by decide +kernel)) rfl
theorem q4115 : Cond.selects y_Mo_written.cls y_Mo_written y_Mo_written ∈ lw_ok := lw_okmem (List.mem_of_getElem? (i := 4115) (by decide +kernel)) rfl
theorem w_Mo_written : CWv y_Mo_written b_Mo_written 2 (some .int) 1 ∧ Cond.instanceMethod y_Mo_written ∈ lw_ok ∧ Cond.selects y_Mo_written.cls y_Mo_written y_Mo_written ∈ lw_ok := ⟨⟨q4116, q348, by decide +kernel, by decide +kernel, by decide +kernel⟩, q4114, q4115⟩
theorem q4113 : Cond.methodLink "ClassWorksLaw" 111 y_Mo_written ∈ lw_ok := lw_okmem (List.mem_of_getElem? (i := 4113) (by decide +kernel)) rfl
theorem d_Law_1026 : decode code 1026 = .ok (.aload_n 1, 1) := by decide +kernel
theorem d_Law_1027 : decode code 1027 = .ok (.aload_n 0, 1) := by decide +kernel
theorem d_Law_1028 : decode code 1028 = .ok (.iload_n 3, 1) := by decide +kernel
theorem d_Law_1029 : decode code 1029 = .ok (.iconst 1, 1) := by decide +kernel
theorem d_Law_1030 : decode code 1030 = .ok (.iadd, 1) := by decide +kernel
theorem d_Law_1031 : decode code 1031 = .ok (.iaload, 1) := by decide +kernel
theorem d_Law_1032 : decode code 1032 = .ok (.invokevirtual 108, 3) := by decide +kernel
theorem d_Law_1035 : decode code 1035 = .ok (.aload_n 2, 1) := by decide +kernel
theorem d_Law_1036 : decode code 1036 = .ok (.aload_n 0, 1) := by decide +kernel
theorem d_Law_1037 : decode code 1037 = .ok (.iload_n 3, 1) := by decide +kernel
theorem d_Law_1038 : decode code 1038 = .ok (.iconst 1, 1) := by decide +kernel
theorem d_Law_1039 : decode code 1039 = .ok (.iadd, 1) := by decide +kernel
theorem d_Law_1040 : decode code 1040 = .ok (.iaload, 1) := by decide +kernel
theorem d_Law_1041 : decode code 1041 = .ok (.invokevirtual 111, 3) := by decide +kernel
theorem d_Law_1044 : decode code 1044 = .ok (.if_icmp .eq 724, 3) := by decide +kernel
set_option maxHeartbeats 4000000 in
set_option maxRecDepth 100000 in
theorem law_written {p : Program} {e : Env} {s : State} {m : MethodId} {below : List Frame} {meth : Method} {c : Code} {l : Launch} {D : va_G} {g : Nat → ClassId} {sl : List SL} {b : Nat} {xs : Nat → Int32} {A : Nat → Prop} (h0 : Nat) (r_cwords : Nat) (r_creader : Nat) (r_cchecker : Nat) (r_cfinder : Nat) (r_cwriter : Nat) (r_cmachines : Nat) (r_ctape : Nat) (r_cstock : Nat) (r_csizes : Nat) (r_cmet : Nat) (r_cfound : Nat) (r_cdraft : Nat) (r_cfewestFor : Nat) (r_cfewestNext : Nat) (r_oout : Nat) (r_onames : Nat) (f_ocls : Int32) (f_omethod : Int32) (f_oopen : Int32) (r_olabels : Nat) (i_oout : Nat) (h0X : Nat) (fsX : List Value) (G : GV l p s m #[Value.ref b] meth c (⟨"ClassWorksLaw", meth.name, ""⟩ : MethodName) code 4 ret g D sl A) (hX : va_X b 6 xs s s.heap) (hbl : b < s.heap.size) (hbA : ¬ A b) (hAA : ∀ q, A q → s.heap.size ≤ q) {H : Heap} {locs : List Loc} {ls : Array Slot} (glenX : fsX.length = 131) (gk0X : fsX[95]? = some (.int (nI 0))) (hP : va_P D CL [(h0, .inr (11, [.ref r_cwords, .ref r_creader, .ref r_cchecker, .ref r_cfinder, .ref r_cwriter, .ref r_cmachines, .ref r_ctape, .int (nI 0), .int (-2), .int (nI 60000), .ref r_cstock, .ref r_csizes, .ref r_cmet, .ref r_cfound, .int (nI 0), .ref r_cdraft, .int (nI 0), .int (nI 0), .ref r_cfewestFor, .ref r_cfewestNext])), (r_cwriter, .inr (10, [.ref r_oout, .ref r_onames, .null, .int f_ocls, .int f_omethod, .int f_oopen, .ref r_olabels])), (r_oout, .inr (3, [.ref i_oout, .int (nI 0)])), (h0X, .inr (14, fsX))] H) (hD : va_D A [(h0, .inr (11, [.ref r_cwords, .ref r_creader, .ref r_cchecker, .ref r_cfinder, .ref r_cwriter, .ref r_cmachines, .ref r_ctape, .int (nI 0), .int (-2), .int (nI 60000), .ref r_cstock, .ref r_csizes, .ref r_cmet, .ref r_cfound, .int (nI 0), .ref r_cdraft, .int (nI 0), .int (nI 0), .ref r_cfewestFor, .ref r_cfewestNext])), (r_cwriter, .inr (10, [.ref r_oout, .ref r_onames, .null, .int f_ocls, .int f_omethod, .int f_oopen, .ref r_olabels])), (r_oout, .inr (3, [.ref i_oout, .int (nI 0)])), (h0X, .inr (14, fsX))]) (hS : va_S A s.heap H locs) (hl : lv_has ls 4 [(0, .ref b), (1, .ref h0), (2, .ref h0X), (3, .int (nI 0))]) : W p l e room_1 s m #[Value.ref b] below meth c H locs 702 488194 (lw_Z below #[Value.ref b] s) (F0 m 1026 ls []) := by
  refine lv_aload_n G.1 G.2.1 d_Law_1026 rfl (lv_at hl 1 rfl) ?_
  refine lv_aload_n G.1 G.2.1 d_Law_1027 rfl (lv_at hl 0 rfl) ?_
  refine lv_iload_n G.1 G.2.1 d_Law_1028 rfl (lv_at hl 3 rfl) ?_
  refine lv_iconst (v := nI 1) G.1 G.2.1 d_Law_1029 (by decide) ?_
  refine lv_iadd G.1 G.2.1 d_Law_1030 ?_
  refine tpi (w := nI 1) (by decide) ?_
  refine va_sld G.1 G.2.1 hX hbl hbA hS (nI_inn (n := 6) (a := 1) (by decide) (by decide)) d_Law_1031 ?_
  refine tpi (w := (xs 1)) (by rw [nI_clamp (by decide)]) ?_
  refine kEi (wr := [(h0X, .inr (14, fsX))]) G (kV (As := [.int (xs 1)]) (rest := []) G hP hD hS [0, 1, 2] rfl rfl (c_Cw_written l D g h0 (xs 1) r_cwords r_creader r_cchecker r_cfinder r_cwriter r_cmachines r_ctape r_cstock r_csizes r_cmet r_cfound r_cdraft r_cfewestFor r_cfewestNext r_oout r_onames f_ocls f_omethod f_oopen r_olabels i_oout H.size ) w_Cw_written q2259 rfl rfl ⟨Nat.le_of_ble_eq_true rfl, Nat.le_of_ble_eq_true rfl⟩ (fun _ h => absurd h List.not_mem_nil) 0 (ci := 11) rfl rfl rfl hl.1 rfl (Nat.le_of_ble_eq_true rfl) rfl ⟨Nat.le_of_ble_eq_true rfl, (Nat.le_of_ble_eq_true rfl)⟩ d_Law_1032) hP hD hS [0, 1, 2] [3] rfl rfl rfl rfl (fun r_1 u_2 H locs hw hP hD hS hzH => ?_)
  have hw : r_1 = (-1) := hw
  have hP : va_P D CL [(h0X, .inr (14, fsX))] H := hP
  have hD : va_D A [(h0X, .inr (14, fsX))] := hD
  subst hw
  refine tpst (w := [.int (-1)]) rfl ?_
  refine lv_aload_n G.1 G.2.1 d_Law_1035 rfl (lv_at hl 2 rfl) ?_
  refine lv_aload_n G.1 G.2.1 d_Law_1036 rfl (lv_at hl 0 rfl) ?_
  refine lv_iload_n G.1 G.2.1 d_Law_1037 rfl (lv_at hl 3 rfl) ?_
  refine lv_iconst (v := nI 1) G.1 G.2.1 d_Law_1038 (by decide) ?_
  refine W.eq (g2 := F0 m 1039 ls [.int (nI 1), .int (nI 0), .ref b, .ref h0X, .int (-1)]) rfl ?_
  refine lv_iadd G.1 G.2.1 d_Law_1039 ?_
  refine tpi (w := nI 1) (by decide) ?_
  refine va_sld G.1 G.2.1 hX hbl hbA hS (nI_inn (n := 6) (a := 1) (by decide) (by decide)) d_Law_1040 ?_
  refine tpi (w := (xs 1)) (by rw [nI_clamp (by decide)]) ?_
  refine kEi (wr := []) G (kV (As := [.int (xs 1)]) (rest := [.int (-1)]) G hP hD hS [0] rfl rfl (c_Mo_written l D g h0X (xs 1) fsX H.size glenX gk0X) w_Mo_written q4113 rfl rfl ⟨Nat.le_of_ble_eq_true rfl, Nat.le_of_ble_eq_true rfl⟩ (fun _ h => absurd h List.not_mem_nil) 0 (ci := 14) rfl rfl rfl hl.1 rfl (Nat.le_of_ble_eq_true rfl) rfl ⟨Nat.le_of_ble_eq_true rfl, (Nat.le_of_ble_eq_true rfl)⟩ d_Law_1041) hP hD hS [0] [] rfl rfl rfl rfl (fun r_3 u_4 H locs hw hP hD hS hzH => ?_)
  have hw : r_3 = (-1) := hw
  have hP : va_P D CL [] H := hP
  have hD : va_D A [] := hD
  subst hw
  refine tpst (w := [.int (-1), .int (-1)]) rfl ?_
  refine lv_icmp_eq (tgt := 1768) G.1 G.2.1 d_Law_1044 (by decide) (fun c1044 => ?_) (fun c1044 => absurd c1044 (fun h => h rfl))
  refine lv_iinc (v := nI 6) (lv' := [(3, .int (nI 6)), (0, .ref b), (1, .ref h0), (2, .ref h0X)]) G.1 G.2.1 d_Law_1768 hl (k := 3) rfl (show (nI 0) + Int32.ofInt 6 = nI 6 from by decide) (by decide) rfl (fun ls hl => ?_)
  refine lv_goto (tgt := 18) G.1 G.2.1 d_Law_1771 (by decide) ?_
  refine lv_iload_n G.1 G.2.1 d_Law_18 rfl (lv_at hl 0 rfl) ?_
  refine lv_aload_n G.1 G.2.1 d_Law_19 rfl (lv_at hl 1 rfl) ?_
  refine va_slen G.1 G.2.1 hX hbl hbA hS d_Law_20 ?_
  refine tpi (w := nI 6) rfl ?_
  refine lv_bipush (v := nI 6) G.1 G.2.1 d_Law_21 (by decide) ?_
  refine lv_isub G.1 G.2.1 d_Law_23 ?_
  refine tpi (w := nI 0) (by decide) ?_
  refine lv_icmp_gt (tgt := 1774) G.1 G.2.1 d_Law_24 (by decide) (fun c24 => ?_) (fun c24 => absurd c24 (by decide))
  refine W.eq (g2 := F0 m 1774 ls []) rfl ?_
  refine lv_iconst (v := nI 1) G.1 G.2.1 d_Law_1774 (by decide) ?_
  refine va_forget (fun q hq => hAA _ (hS.2.2 q hq)) ?_
  refine W.widen (k := 600002) (n := 7302232) (Nat.le_of_ble_eq_true rfl) (Nat.le_of_ble_eq_true rfl) ?_
  exact lw_ret G.1 G.2.1 G.2.2.2.1 G.2.2.2.2.1 d_Law_1775
theorem q2266 : Cond.code y_Cw_kinds b_Cw_kinds 7 (some .int) ∈ lw_ok := lw_okmem (List.mem_of_getElem? (i := 2266) (by decide +kernel)) rfl
theorem q2264 : Cond.instanceMethod y_Cw_kinds ∈ lw_ok := lw_okmem (List.mem_of_getElem? (i := 2264) (by decide +kernel)) rfl
theorem q2265 : Cond.selects y_Cw_kinds.cls y_Cw_kinds y_Cw_kinds ∈ lw_ok := lw_okmem (List.mem_of_getElem? (i := 2265) (by decide +kernel)) rfl
theorem w_Cw_kinds : CWv y_Cw_kinds b_Cw_kinds 7 (some .int) 4 ∧ Cond.instanceMethod y_Cw_kinds ∈ lw_ok ∧ Cond.selects y_Cw_kinds.cls y_Cw_kinds y_Cw_kinds ∈ lw_ok := ⟨⟨q2266, q329, by decide +kernel, by decide +kernel, by decide +kernel⟩, q2264, q2265⟩
theorem q2263 : Cond.methodLink "ClassWorksLaw" 112 y_Cw_kinds ∈ lw_ok := lw_okmem (List.mem_of_getElem? (i := 2263) (by decide +kernel)) rfl
theorem q4120 : Cond.code y_Mo_kinds b_Mo_kinds 9 (some .int) ∈ lw_ok := lw_okmem (List.mem_of_getElem? (i := 4120) (by decide +kernel)) rfl
theorem q4118 : Cond.instanceMethod y_Mo_kinds ∈ lw_ok := lw_okmem (List.mem_of_getElem? (i := 4118) (by decide +kernel)) rfl
theorem q4119 : Cond.selects y_Mo_kinds.cls y_Mo_kinds y_Mo_kinds ∈ lw_ok := lw_okmem (List.mem_of_getElem? (i := 4119) (by decide +kernel)) rfl
theorem w_Mo_kinds : CWv y_Mo_kinds b_Mo_kinds 9 (some .int) 4 ∧ Cond.instanceMethod y_Mo_kinds ∈ lw_ok ∧ Cond.selects y_Mo_kinds.cls y_Mo_kinds y_Mo_kinds ∈ lw_ok := ⟨⟨q4120, q348, by decide +kernel, by decide +kernel, by decide +kernel⟩, q4118, q4119⟩
theorem q4117 : Cond.methodLink "ClassWorksLaw" 116 y_Mo_kinds ∈ lw_ok := lw_okmem (List.mem_of_getElem? (i := 4117) (by decide +kernel)) rfl
theorem d_Law_1049 : decode code 1049 = .ok (.aload_n 1, 1) := by decide +kernel
theorem d_Law_1050 : decode code 1050 = .ok (.aload_n 0, 1) := by decide +kernel
theorem d_Law_1051 : decode code 1051 = .ok (.iload_n 3, 1) := by decide +kernel
theorem d_Law_1052 : decode code 1052 = .ok (.iconst 1, 1) := by decide +kernel
theorem d_Law_1053 : decode code 1053 = .ok (.iadd, 1) := by decide +kernel
theorem d_Law_1054 : decode code 1054 = .ok (.iaload, 1) := by decide +kernel
theorem d_Law_1055 : decode code 1055 = .ok (.aload_n 0, 1) := by decide +kernel
theorem d_Law_1056 : decode code 1056 = .ok (.iload_n 3, 1) := by decide +kernel
theorem d_Law_1057 : decode code 1057 = .ok (.iconst 2, 1) := by decide +kernel
theorem d_Law_1058 : decode code 1058 = .ok (.iadd, 1) := by decide +kernel
theorem d_Law_1059 : decode code 1059 = .ok (.iaload, 1) := by decide +kernel
theorem d_Law_1060 : decode code 1060 = .ok (.aload_n 0, 1) := by decide +kernel
theorem d_Law_1061 : decode code 1061 = .ok (.iload_n 3, 1) := by decide +kernel
theorem d_Law_1062 : decode code 1062 = .ok (.iconst 3, 1) := by decide +kernel
theorem d_Law_1063 : decode code 1063 = .ok (.iadd, 1) := by decide +kernel
theorem d_Law_1064 : decode code 1064 = .ok (.iaload, 1) := by decide +kernel
theorem d_Law_1065 : decode code 1065 = .ok (.aload_n 0, 1) := by decide +kernel
theorem d_Law_1066 : decode code 1066 = .ok (.iload_n 3, 1) := by decide +kernel
theorem d_Law_1067 : decode code 1067 = .ok (.iconst 4, 1) := by decide +kernel
theorem d_Law_1068 : decode code 1068 = .ok (.iadd, 1) := by decide +kernel
theorem d_Law_1069 : decode code 1069 = .ok (.iaload, 1) := by decide +kernel
theorem d_Law_1070 : decode code 1070 = .ok (.ifCond .eq 7, 3) := by decide +kernel
theorem d_Law_1073 : decode code 1073 = .ok (.iconst 1, 1) := by decide +kernel
theorem d_Law_1074 : decode code 1074 = .ok (.goto 4, 3) := by decide +kernel
theorem d_Law_1077 : decode code 1077 = .ok (.iconst 0, 1) := by decide +kernel
theorem d_Law_1078 : decode code 1078 = .ok (.invokevirtual 112, 3) := by decide +kernel
theorem d_Law_1081 : decode code 1081 = .ok (.aload_n 2, 1) := by decide +kernel
theorem d_Law_1082 : decode code 1082 = .ok (.aload_n 0, 1) := by decide +kernel
theorem d_Law_1083 : decode code 1083 = .ok (.iload_n 3, 1) := by decide +kernel
theorem d_Law_1084 : decode code 1084 = .ok (.iconst 1, 1) := by decide +kernel
theorem d_Law_1085 : decode code 1085 = .ok (.iadd, 1) := by decide +kernel
theorem d_Law_1086 : decode code 1086 = .ok (.iaload, 1) := by decide +kernel
theorem d_Law_1087 : decode code 1087 = .ok (.aload_n 0, 1) := by decide +kernel
theorem d_Law_1088 : decode code 1088 = .ok (.iload_n 3, 1) := by decide +kernel
theorem d_Law_1089 : decode code 1089 = .ok (.iconst 2, 1) := by decide +kernel
theorem d_Law_1090 : decode code 1090 = .ok (.iadd, 1) := by decide +kernel
theorem d_Law_1091 : decode code 1091 = .ok (.iaload, 1) := by decide +kernel
theorem d_Law_1092 : decode code 1092 = .ok (.aload_n 0, 1) := by decide +kernel
theorem d_Law_1093 : decode code 1093 = .ok (.iload_n 3, 1) := by decide +kernel
theorem d_Law_1094 : decode code 1094 = .ok (.iconst 3, 1) := by decide +kernel
theorem d_Law_1095 : decode code 1095 = .ok (.iadd, 1) := by decide +kernel
theorem d_Law_1096 : decode code 1096 = .ok (.iaload, 1) := by decide +kernel
theorem d_Law_1097 : decode code 1097 = .ok (.aload_n 0, 1) := by decide +kernel
theorem d_Law_1098 : decode code 1098 = .ok (.iload_n 3, 1) := by decide +kernel
theorem d_Law_1099 : decode code 1099 = .ok (.iconst 4, 1) := by decide +kernel
theorem d_Law_1100 : decode code 1100 = .ok (.iadd, 1) := by decide +kernel
theorem d_Law_1101 : decode code 1101 = .ok (.iaload, 1) := by decide +kernel
theorem d_Law_1102 : decode code 1102 = .ok (.ifCond .eq 7, 3) := by decide +kernel
theorem d_Law_1105 : decode code 1105 = .ok (.iconst 1, 1) := by decide +kernel
theorem d_Law_1106 : decode code 1106 = .ok (.goto 4, 3) := by decide +kernel
theorem d_Law_1109 : decode code 1109 = .ok (.iconst 0, 1) := by decide +kernel
theorem d_Law_1110 : decode code 1110 = .ok (.invokevirtual 116, 3) := by decide +kernel
theorem d_Law_1113 : decode code 1113 = .ok (.if_icmp .eq 655, 3) := by decide +kernel
set_option maxHeartbeats 4000000 in
set_option maxRecDepth 100000 in
theorem law_kinds {p : Program} {e : Env} {s : State} {m : MethodId} {below : List Frame} {meth : Method} {c : Code} {l : Launch} {D : va_G} {g : Nat → ClassId} {sl : List SL} {b : Nat} {xs : Nat → Int32} {A : Nat → Prop} (h0 : Nat) (r_cwords : Nat) (r_creader : Nat) (r_cchecker : Nat) (r_cfinder : Nat) (r_cwriter : Nat) (r_cmachines : Nat) (r_ctape : Nat) (r_cstock : Nat) (r_csizes : Nat) (r_cmet : Nat) (r_cfound : Nat) (r_cdraft : Nat) (r_cfewestFor : Nat) (r_cfewestNext : Nat) (mm0 : Nat) (mm1 : Nat) (mm2 : Nat) (mm3 : Nat) (ww0 : Nat) (r_m0heap : Nat) (r_m0runs : Nat) (r_m0counts : Nat) (r_m0traceRow : Nat) (f_m0traceCount : Int32) (r_m0startedList : Nat) (f_m0startedCount : Int32) (f_m0present : Int32) (f_m0quantum : Int32) (f_m0stepsDone : Int32) (f_m0turnSteps : Int32) (f_m0turnMost : Int32) (f_m0turnOver : Int32) (r_m0finder : Nat) (r_m0names : Nat) (f_m0fault : Int32) (f_m0wanted : Int32) (f_m0thrown : Int32) (ww1 : Nat) (r_m1heap : Nat) (r_m1runs : Nat) (r_m1counts : Nat) (r_m1traceRow : Nat) (f_m1traceCount : Int32) (r_m1startedList : Nat) (f_m1startedCount : Int32) (f_m1present : Int32) (f_m1quantum : Int32) (f_m1stepsDone : Int32) (f_m1turnSteps : Int32) (f_m1turnMost : Int32) (f_m1turnOver : Int32) (r_m1finder : Nat) (r_m1names : Nat) (f_m1fault : Int32) (f_m1wanted : Int32) (f_m1thrown : Int32) (ww2 : Nat) (r_m2heap : Nat) (r_m2runs : Nat) (r_m2counts : Nat) (r_m2traceRow : Nat) (f_m2traceCount : Int32) (r_m2startedList : Nat) (f_m2startedCount : Int32) (f_m2present : Int32) (f_m2quantum : Int32) (f_m2stepsDone : Int32) (f_m2turnSteps : Int32) (f_m2turnMost : Int32) (f_m2turnOver : Int32) (r_m2finder : Nat) (r_m2names : Nat) (f_m2fault : Int32) (f_m2wanted : Int32) (f_m2thrown : Int32) (r_w0names : Nat) (f_w0wrongClass : Int32) (f_w0wrongMethod : Int32) (f_w0wrongAt : Int32) (r_w0rows : Nat) (r_w0above : Nat) (r_w0fields : Nat) (r_w0methods : Nat) (r_w0codes : Nat) (r_w0handlers : Nat) (r_w0extra : Nat) (r_w0orders : Nat) (r_w0classNamed : Nat) (f_w0breaks : Int32) (r_w0marks : Nat) (r_w1names : Nat) (f_w1wrongClass : Int32) (f_w1wrongMethod : Int32) (f_w1wrongAt : Int32) (r_w1rows : Nat) (r_w1above : Nat) (r_w1fields : Nat) (r_w1methods : Nat) (r_w1codes : Nat) (r_w1handlers : Nat) (r_w1extra : Nat) (r_w1orders : Nat) (r_w1classNamed : Nat) (f_w1breaks : Int32) (r_w1marks : Nat) (r_w2names : Nat) (f_w2wrongClass : Int32) (f_w2wrongMethod : Int32) (f_w2wrongAt : Int32) (r_w2rows : Nat) (r_w2above : Nat) (r_w2fields : Nat) (r_w2methods : Nat) (r_w2codes : Nat) (r_w2handlers : Nat) (r_w2extra : Nat) (r_w2orders : Nat) (r_w2classNamed : Nat) (f_w2breaks : Int32) (r_w2marks : Nat) (h0X : Nat) (fsX : List Value) (owX : Nat) (v0X : Nat) (v1X : Nat) (v2X : Nat) (v3X : Nat) (fw0X : List Value) (fw1X : List Value) (fw2X : List Value) (G : GV l p s m #[Value.ref b] meth c (⟨"ClassWorksLaw", meth.name, ""⟩ : MethodName) code 4 ret g D sl A) (hX : va_X b 6 xs s s.heap) (hbl : b < s.heap.size) (hbA : ¬ A b) (hAA : ∀ q, A q → s.heap.size ≤ q) {H : Heap} {locs : List Loc} {ls : Array Slot} (glenX : fsX.length = 131) (gk0X : fsX[44]? = some (.ref owX)) (gw0X : fw0X.length = 72) (gt0X : fw0X[0]? = some (.int (nI 0))) (gw1X : fw1X.length = 72) (gt1X : fw1X[0]? = some (.int (nI 0))) (gw2X : fw2X.length = 72) (gt2X : fw2X[0]? = some (.int (nI 0))) (hP : va_P D CL [(h0, .inr (11, [.ref r_cwords, .ref r_creader, .ref r_cchecker, .ref r_cfinder, .ref r_cwriter, .ref r_cmachines, .ref r_ctape, .int (nI 0), .int (-2), .int (nI 60000), .ref r_cstock, .ref r_csizes, .ref r_cmet, .ref r_cfound, .int (nI 0), .ref r_cdraft, .int (nI 0), .int (nI 0), .ref r_cfewestFor, .ref r_cfewestNext])), (r_cmachines, .inl (g 4, 4, .inr (.inr (.inr (.inr (va_up (va_up (va_up (va_up (fun _ => none) 0 (some mm0)) 1 (some mm1)) 2 (some mm2)) 3 (some mm3))))))), (mm0, .inr (4, [.ref ww0, .ref r_m0heap, .ref r_m0runs, .ref r_m0counts, .ref r_m0traceRow, .int f_m0traceCount, .ref r_m0startedList, .int f_m0startedCount, .int f_m0present, .int f_m0quantum, .int f_m0stepsDone, .int f_m0turnSteps, .int f_m0turnMost, .int f_m0turnOver, .ref r_m0finder, .ref r_m0names, .int f_m0fault, .int f_m0wanted, .int f_m0thrown])), (mm1, .inr (4, [.ref ww1, .ref r_m1heap, .ref r_m1runs, .ref r_m1counts, .ref r_m1traceRow, .int f_m1traceCount, .ref r_m1startedList, .int f_m1startedCount, .int f_m1present, .int f_m1quantum, .int f_m1stepsDone, .int f_m1turnSteps, .int f_m1turnMost, .int f_m1turnOver, .ref r_m1finder, .ref r_m1names, .int f_m1fault, .int f_m1wanted, .int f_m1thrown])), (mm2, .inr (4, [.ref ww2, .ref r_m2heap, .ref r_m2runs, .ref r_m2counts, .ref r_m2traceRow, .int f_m2traceCount, .ref r_m2startedList, .int f_m2startedCount, .int f_m2present, .int f_m2quantum, .int f_m2stepsDone, .int f_m2turnSteps, .int f_m2turnMost, .int f_m2turnOver, .ref r_m2finder, .ref r_m2names, .int f_m2fault, .int f_m2wanted, .int f_m2thrown])), (ww0, .inr (9, [.ref r_w0names, .int (nI 0), .int (nI 21), .int f_w0wrongClass, .int f_w0wrongMethod, .int f_w0wrongAt, .ref r_w0rows, .ref r_w0above, .ref r_w0fields, .ref r_w0methods, .ref r_w0codes, .ref r_w0handlers, .ref r_w0extra, .ref r_w0orders, .ref r_w0classNamed, .int f_w0breaks, .ref r_w0marks])), (ww1, .inr (9, [.ref r_w1names, .int (nI 0), .int (nI 21), .int f_w1wrongClass, .int f_w1wrongMethod, .int f_w1wrongAt, .ref r_w1rows, .ref r_w1above, .ref r_w1fields, .ref r_w1methods, .ref r_w1codes, .ref r_w1handlers, .ref r_w1extra, .ref r_w1orders, .ref r_w1classNamed, .int f_w1breaks, .ref r_w1marks])), (ww2, .inr (9, [.ref r_w2names, .int (nI 0), .int (nI 21), .int f_w2wrongClass, .int f_w2wrongMethod, .int f_w2wrongAt, .ref r_w2rows, .ref r_w2above, .ref r_w2fields, .ref r_w2methods, .ref r_w2codes, .ref r_w2handlers, .ref r_w2extra, .ref r_w2orders, .ref r_w2classNamed, .int f_w2breaks, .ref r_w2marks])), (h0X, .inr (14, fsX)), (owX, .inl (g 6, 4, .inr (.inr (.inr (.inr (va_up (va_up (va_up (va_up (fun _ => none) 0 (some v0X)) 1 (some v1X)) 2 (some v2X)) 3 (some v3X))))))), (v0X, .inr (13, fw0X)), (v1X, .inr (13, fw1X)), (v2X, .inr (13, fw2X))] H) (hD : va_D A [(h0, .inr (11, [.ref r_cwords, .ref r_creader, .ref r_cchecker, .ref r_cfinder, .ref r_cwriter, .ref r_cmachines, .ref r_ctape, .int (nI 0), .int (-2), .int (nI 60000), .ref r_cstock, .ref r_csizes, .ref r_cmet, .ref r_cfound, .int (nI 0), .ref r_cdraft, .int (nI 0), .int (nI 0), .ref r_cfewestFor, .ref r_cfewestNext])), (r_cmachines, .inl (g 4, 4, .inr (.inr (.inr (.inr (va_up (va_up (va_up (va_up (fun _ => none) 0 (some mm0)) 1 (some mm1)) 2 (some mm2)) 3 (some mm3))))))), (mm0, .inr (4, [.ref ww0, .ref r_m0heap, .ref r_m0runs, .ref r_m0counts, .ref r_m0traceRow, .int f_m0traceCount, .ref r_m0startedList, .int f_m0startedCount, .int f_m0present, .int f_m0quantum, .int f_m0stepsDone, .int f_m0turnSteps, .int f_m0turnMost, .int f_m0turnOver, .ref r_m0finder, .ref r_m0names, .int f_m0fault, .int f_m0wanted, .int f_m0thrown])), (mm1, .inr (4, [.ref ww1, .ref r_m1heap, .ref r_m1runs, .ref r_m1counts, .ref r_m1traceRow, .int f_m1traceCount, .ref r_m1startedList, .int f_m1startedCount, .int f_m1present, .int f_m1quantum, .int f_m1stepsDone, .int f_m1turnSteps, .int f_m1turnMost, .int f_m1turnOver, .ref r_m1finder, .ref r_m1names, .int f_m1fault, .int f_m1wanted, .int f_m1thrown])), (mm2, .inr (4, [.ref ww2, .ref r_m2heap, .ref r_m2runs, .ref r_m2counts, .ref r_m2traceRow, .int f_m2traceCount, .ref r_m2startedList, .int f_m2startedCount, .int f_m2present, .int f_m2quantum, .int f_m2stepsDone, .int f_m2turnSteps, .int f_m2turnMost, .int f_m2turnOver, .ref r_m2finder, .ref r_m2names, .int f_m2fault, .int f_m2wanted, .int f_m2thrown])), (ww0, .inr (9, [.ref r_w0names, .int (nI 0), .int (nI 21), .int f_w0wrongClass, .int f_w0wrongMethod, .int f_w0wrongAt, .ref r_w0rows, .ref r_w0above, .ref r_w0fields, .ref r_w0methods, .ref r_w0codes, .ref r_w0handlers, .ref r_w0extra, .ref r_w0orders, .ref r_w0classNamed, .int f_w0breaks, .ref r_w0marks])), (ww1, .inr (9, [.ref r_w1names, .int (nI 0), .int (nI 21), .int f_w1wrongClass, .int f_w1wrongMethod, .int f_w1wrongAt, .ref r_w1rows, .ref r_w1above, .ref r_w1fields, .ref r_w1methods, .ref r_w1codes, .ref r_w1handlers, .ref r_w1extra, .ref r_w1orders, .ref r_w1classNamed, .int f_w1breaks, .ref r_w1marks])), (ww2, .inr (9, [.ref r_w2names, .int (nI 0), .int (nI 21), .int f_w2wrongClass, .int f_w2wrongMethod, .int f_w2wrongAt, .ref r_w2rows, .ref r_w2above, .ref r_w2fields, .ref r_w2methods, .ref r_w2codes, .ref r_w2handlers, .ref r_w2extra, .ref r_w2orders, .ref r_w2classNamed, .int f_w2breaks, .ref r_w2marks])), (h0X, .inr (14, fsX)), (owX, .inl (g 6, 4, .inr (.inr (.inr (.inr (va_up (va_up (va_up (va_up (fun _ => none) 0 (some v0X)) 1 (some v1X)) 2 (some v2X)) 3 (some v3X))))))), (v0X, .inr (13, fw0X)), (v1X, .inr (13, fw1X)), (v2X, .inr (13, fw2X))]) (hS : va_S A s.heap H locs) (hl : lv_has ls 4 [(0, .ref b), (1, .ref h0), (2, .ref h0X), (3, .int (nI 0))]) : W p l e room_1 s m #[Value.ref b] below meth c H locs 702 488194 (lw_Z below #[Value.ref b] s) (F0 m 1049 ls []) := by
  refine lv_aload_n G.1 G.2.1 d_Law_1049 rfl (lv_at hl 1 rfl) ?_
  refine lv_aload_n G.1 G.2.1 d_Law_1050 rfl (lv_at hl 0 rfl) ?_
  refine lv_iload_n G.1 G.2.1 d_Law_1051 rfl (lv_at hl 3 rfl) ?_
  refine lv_iconst (v := nI 1) G.1 G.2.1 d_Law_1052 (by decide) ?_
  refine lv_iadd G.1 G.2.1 d_Law_1053 ?_
  refine tpi (w := nI 1) (by decide) ?_
  refine va_sld G.1 G.2.1 hX hbl hbA hS (nI_inn (n := 6) (a := 1) (by decide) (by decide)) d_Law_1054 ?_
  refine tpi (w := (xs 1)) (by rw [nI_clamp (by decide)]) ?_
  refine lv_aload_n G.1 G.2.1 d_Law_1055 rfl (lv_at hl 0 rfl) ?_
  refine lv_iload_n G.1 G.2.1 d_Law_1056 rfl (lv_at hl 3 rfl) ?_
  refine lv_iconst (v := nI 2) G.1 G.2.1 d_Law_1057 (by decide) ?_
  refine lv_iadd G.1 G.2.1 d_Law_1058 ?_
  refine tpi (w := nI 2) (by decide) ?_
  refine va_sld G.1 G.2.1 hX hbl hbA hS (nI_inn (n := 6) (a := 2) (by decide) (by decide)) d_Law_1059 ?_
  refine tpi (w := (xs 2)) (by rw [nI_clamp (by decide)]) ?_
  refine W.eq (g2 := F0 m 1060 ls [.int (xs 2), .int (xs 1), .ref h0]) rfl ?_
  refine lv_aload_n G.1 G.2.1 d_Law_1060 rfl (lv_at hl 0 rfl) ?_
  refine lv_iload_n G.1 G.2.1 d_Law_1061 rfl (lv_at hl 3 rfl) ?_
  refine lv_iconst (v := nI 3) G.1 G.2.1 d_Law_1062 (by decide) ?_
  refine lv_iadd G.1 G.2.1 d_Law_1063 ?_
  refine tpi (w := nI 3) (by decide) ?_
  refine va_sld G.1 G.2.1 hX hbl hbA hS (nI_inn (n := 6) (a := 3) (by decide) (by decide)) d_Law_1064 ?_
  refine tpi (w := (xs 3)) (by rw [nI_clamp (by decide)]) ?_
  refine lv_aload_n G.1 G.2.1 d_Law_1065 rfl (lv_at hl 0 rfl) ?_
  refine lv_iload_n G.1 G.2.1 d_Law_1066 rfl (lv_at hl 3 rfl) ?_
  refine lv_iconst (v := nI 4) G.1 G.2.1 d_Law_1067 (by decide) ?_
  refine lv_iadd G.1 G.2.1 d_Law_1068 ?_
  refine tpi (w := nI 4) (by decide) ?_
  refine va_sld G.1 G.2.1 hX hbl hbA hS (nI_inn (n := 6) (a := 4) (by decide) (by decide)) d_Law_1069 ?_
  refine tpi (w := (xs 4)) (by rw [nI_clamp (by decide)]) ?_
  refine lv_if_eq (tgt := 1077) G.1 G.2.1 d_Law_1070 (by decide) (fun c1070 => ?_) (fun c1070 => ?_)
  · skip
    refine lv_iconst (v := nI 0) G.1 G.2.1 d_Law_1077 (by decide) ?_
    refine W.eq (g2 := F0 m 1078 ls [.int (nI 0), .int (xs 3), .int (xs 2), .int (xs 1), .ref h0]) rfl ?_
    refine kEi (wr := [(h0X, .inr (14, fsX)), (owX, .inl (g 6, 4, .inr (.inr (.inr (.inr (va_up (va_up (va_up (va_up (fun _ => none) 0 (some v0X)) 1 (some v1X)) 2 (some v2X)) 3 (some v3X))))))), (v0X, .inr (13, fw0X)), (v1X, .inr (13, fw1X)), (v2X, .inr (13, fw2X))]) G (kV (As := [.int (xs 1), .int (xs 2), .int (xs 3), .int (nI 0)]) (rest := []) G hP hD hS [0, 1, 2, 3, 4, 5, 6, 7] rfl rfl (c_Cw_kinds l D g h0 (xs 1) (xs 2) (xs 3) (nI 0) r_cwords r_creader r_cchecker r_cfinder r_cwriter r_cmachines r_ctape r_cstock r_csizes r_cmet r_cfound r_cdraft r_cfewestFor r_cfewestNext mm0 mm1 mm2 mm3 ww0 r_m0heap r_m0runs r_m0counts r_m0traceRow f_m0traceCount r_m0startedList f_m0startedCount f_m0present f_m0quantum f_m0stepsDone f_m0turnSteps f_m0turnMost f_m0turnOver r_m0finder r_m0names f_m0fault f_m0wanted f_m0thrown ww1 r_m1heap r_m1runs r_m1counts r_m1traceRow f_m1traceCount r_m1startedList f_m1startedCount f_m1present f_m1quantum f_m1stepsDone f_m1turnSteps f_m1turnMost f_m1turnOver r_m1finder r_m1names f_m1fault f_m1wanted f_m1thrown ww2 r_m2heap r_m2runs r_m2counts r_m2traceRow f_m2traceCount r_m2startedList f_m2startedCount f_m2present f_m2quantum f_m2stepsDone f_m2turnSteps f_m2turnMost f_m2turnOver r_m2finder r_m2names f_m2fault f_m2wanted f_m2thrown r_w0names f_w0wrongClass f_w0wrongMethod f_w0wrongAt r_w0rows r_w0above r_w0fields r_w0methods r_w0codes r_w0handlers r_w0extra r_w0orders r_w0classNamed f_w0breaks r_w0marks r_w1names f_w1wrongClass f_w1wrongMethod f_w1wrongAt r_w1rows r_w1above r_w1fields r_w1methods r_w1codes r_w1handlers r_w1extra r_w1orders r_w1classNamed f_w1breaks r_w1marks r_w2names f_w2wrongClass f_w2wrongMethod f_w2wrongAt r_w2rows r_w2above r_w2fields r_w2methods r_w2codes r_w2handlers r_w2extra r_w2orders r_w2classNamed f_w2breaks r_w2marks H.size ) w_Cw_kinds q2263 rfl rfl ⟨Nat.le_of_ble_eq_true rfl, Nat.le_of_ble_eq_true rfl⟩ (fun _ h => absurd h List.not_mem_nil) 0 (ci := 11) rfl rfl rfl hl.1 rfl (Nat.le_of_ble_eq_true rfl) rfl ⟨Nat.le_of_ble_eq_true rfl, (Nat.le_of_ble_eq_true rfl)⟩ d_Law_1078) hP hD hS [0, 1, 2, 3, 4, 5, 6, 7] [8, 9, 10, 11, 12] rfl rfl rfl rfl (fun r_1 u_2 H locs hw hP hD hS hzH => ?_)
    have hw : r_1 = (-1) := hw
    have hP : va_P D CL [(h0X, .inr (14, fsX)), (owX, .inl (g 6, 4, .inr (.inr (.inr (.inr (va_up (va_up (va_up (va_up (fun _ => none) 0 (some v0X)) 1 (some v1X)) 2 (some v2X)) 3 (some v3X))))))), (v0X, .inr (13, fw0X)), (v1X, .inr (13, fw1X)), (v2X, .inr (13, fw2X))] H := hP
    have hD : va_D A [(h0X, .inr (14, fsX)), (owX, .inl (g 6, 4, .inr (.inr (.inr (.inr (va_up (va_up (va_up (va_up (fun _ => none) 0 (some v0X)) 1 (some v1X)) 2 (some v2X)) 3 (some v3X))))))), (v0X, .inr (13, fw0X)), (v1X, .inr (13, fw1X)), (v2X, .inr (13, fw2X))] := hD
    subst hw
    refine tpst (w := [.int (-1)]) rfl ?_
    refine lv_aload_n G.1 G.2.1 d_Law_1081 rfl (lv_at hl 2 rfl) ?_
    refine lv_aload_n G.1 G.2.1 d_Law_1082 rfl (lv_at hl 0 rfl) ?_
    refine lv_iload_n G.1 G.2.1 d_Law_1083 rfl (lv_at hl 3 rfl) ?_
    refine lv_iconst (v := nI 1) G.1 G.2.1 d_Law_1084 (by decide) ?_
    refine lv_iadd G.1 G.2.1 d_Law_1085 ?_
    refine tpi (w := nI 1) (by decide) ?_
    refine va_sld G.1 G.2.1 hX hbl hbA hS (nI_inn (n := 6) (a := 1) (by decide) (by decide)) d_Law_1086 ?_
    refine tpi (w := (xs 1)) (by rw [nI_clamp (by decide)]) ?_
    refine lv_aload_n G.1 G.2.1 d_Law_1087 rfl (lv_at hl 0 rfl) ?_
    refine lv_iload_n G.1 G.2.1 d_Law_1088 rfl (lv_at hl 3 rfl) ?_
    refine lv_iconst (v := nI 2) G.1 G.2.1 d_Law_1089 (by decide) ?_
    refine lv_iadd G.1 G.2.1 d_Law_1090 ?_
    refine tpi (w := nI 2) (by decide) ?_
    refine va_sld G.1 G.2.1 hX hbl hbA hS (nI_inn (n := 6) (a := 2) (by decide) (by decide)) d_Law_1091 ?_
    refine tpi (w := (xs 2)) (by rw [nI_clamp (by decide)]) ?_
    refine W.eq (g2 := F0 m 1092 ls [.int (xs 2), .int (xs 1), .ref h0X, .int (-1)]) rfl ?_
    refine lv_aload_n G.1 G.2.1 d_Law_1092 rfl (lv_at hl 0 rfl) ?_
    refine lv_iload_n G.1 G.2.1 d_Law_1093 rfl (lv_at hl 3 rfl) ?_
    refine lv_iconst (v := nI 3) G.1 G.2.1 d_Law_1094 (by decide) ?_
    refine lv_iadd G.1 G.2.1 d_Law_1095 ?_
    refine tpi (w := nI 3) (by decide) ?_
    refine va_sld G.1 G.2.1 hX hbl hbA hS (nI_inn (n := 6) (a := 3) (by decide) (by decide)) d_Law_1096 ?_
    refine tpi (w := (xs 3)) (by rw [nI_clamp (by decide)]) ?_
    refine lv_aload_n G.1 G.2.1 d_Law_1097 rfl (lv_at hl 0 rfl) ?_
    refine lv_iload_n G.1 G.2.1 d_Law_1098 rfl (lv_at hl 3 rfl) ?_
    refine lv_iconst (v := nI 4) G.1 G.2.1 d_Law_1099 (by decide) ?_
    refine lv_iadd G.1 G.2.1 d_Law_1100 ?_
    refine tpi (w := nI 4) (by decide) ?_
    refine va_sld G.1 G.2.1 hX hbl hbA hS (nI_inn (n := 6) (a := 4) (by decide) (by decide)) d_Law_1101 ?_
    refine tpi (w := (xs 4)) (by rw [nI_clamp (by decide)]) ?_
    refine lv_if_eq (tgt := 1109) G.1 G.2.1 d_Law_1102 (by decide) (fun c1102 => ?_) (fun c1102 => ?_)
    · skip
      refine lv_iconst (v := nI 0) G.1 G.2.1 d_Law_1109 (by decide) ?_
      refine W.eq (g2 := F0 m 1110 ls [.int (nI 0), .int (xs 3), .int (xs 2), .int (xs 1), .ref h0X, .int (-1)]) rfl ?_
      refine kEi (wr := []) G (kV (As := [.int (xs 1), .int (xs 2), .int (xs 3), .int (nI 0)]) (rest := [.int (-1)]) G hP hD hS [0, 1, 2, 3, 4] rfl rfl (c_Mo_kinds l D g h0X (xs 1) (xs 2) (xs 3) (nI 0) fsX owX v0X v1X v2X v3X fw0X fw1X fw2X H.size glenX gk0X gw0X gt0X gw1X gt1X gw2X gt2X) w_Mo_kinds q4117 rfl rfl ⟨Nat.le_of_ble_eq_true rfl, Nat.le_of_ble_eq_true rfl⟩ (fun _ h => absurd h List.not_mem_nil) 0 (ci := 14) rfl rfl rfl hl.1 rfl (Nat.le_of_ble_eq_true rfl) rfl ⟨Nat.le_of_ble_eq_true rfl, (Nat.le_of_ble_eq_true rfl)⟩ d_Law_1110) hP hD hS [0, 1, 2, 3, 4] [] rfl rfl rfl rfl (fun r_3 u_4 H locs hw hP hD hS hzH => ?_)
      have hw : r_3 = (-1) := hw
      have hP : va_P D CL [] H := hP
      have hD : va_D A [] := hD
      subst hw
      refine tpst (w := [.int (-1), .int (-1)]) rfl ?_
      refine lv_icmp_eq (tgt := 1768) G.1 G.2.1 d_Law_1113 (by decide) (fun c1113 => ?_) (fun c1113 => absurd c1113 (fun h => h rfl))
      refine lv_iinc (v := nI 6) (lv' := [(3, .int (nI 6)), (0, .ref b), (1, .ref h0), (2, .ref h0X)]) G.1 G.2.1 d_Law_1768 hl (k := 3) rfl (show (nI 0) + Int32.ofInt 6 = nI 6 from by decide) (by decide) rfl (fun ls hl => ?_)
      refine lv_goto (tgt := 18) G.1 G.2.1 d_Law_1771 (by decide) ?_
      refine lv_iload_n G.1 G.2.1 d_Law_18 rfl (lv_at hl 0 rfl) ?_
      refine lv_aload_n G.1 G.2.1 d_Law_19 rfl (lv_at hl 1 rfl) ?_
      refine va_slen G.1 G.2.1 hX hbl hbA hS d_Law_20 ?_
      refine tpi (w := nI 6) rfl ?_
      refine lv_bipush (v := nI 6) G.1 G.2.1 d_Law_21 (by decide) ?_
      refine lv_isub G.1 G.2.1 d_Law_23 ?_
      refine tpi (w := nI 0) (by decide) ?_
      refine lv_icmp_gt (tgt := 1774) G.1 G.2.1 d_Law_24 (by decide) (fun c24 => ?_) (fun c24 => absurd c24 (by decide))
      refine lv_iconst (v := nI 1) G.1 G.2.1 d_Law_1774 (by decide) ?_
      refine va_forget (fun q hq => hAA _ (hS.2.2 q hq)) ?_
      refine W.widen (k := 600002) (n := 7302232) (Nat.le_of_ble_eq_true rfl) (Nat.le_of_ble_eq_true rfl) ?_
      exact lw_ret G.1 G.2.1 G.2.2.2.1 G.2.2.2.2.1 d_Law_1775
    · skip
      refine lv_iconst (v := nI 1) G.1 G.2.1 d_Law_1105 (by decide) ?_
      refine W.eq (g2 := F0 m 1106 ls [.int (nI 1), .int (xs 3), .int (xs 2), .int (xs 1), .ref h0X, .int (-1)]) rfl ?_
      refine lv_goto (tgt := 1110) G.1 G.2.1 d_Law_1106 (by decide) ?_
      refine kEi (wr := []) G (kV (As := [.int (xs 1), .int (xs 2), .int (xs 3), .int (nI 1)]) (rest := [.int (-1)]) G hP hD hS [0, 1, 2, 3, 4] rfl rfl (c_Mo_kinds l D g h0X (xs 1) (xs 2) (xs 3) (nI 1) fsX owX v0X v1X v2X v3X fw0X fw1X fw2X H.size glenX gk0X gw0X gt0X gw1X gt1X gw2X gt2X) w_Mo_kinds q4117 rfl rfl ⟨Nat.le_of_ble_eq_true rfl, Nat.le_of_ble_eq_true rfl⟩ (fun _ h => absurd h List.not_mem_nil) 0 (ci := 14) rfl rfl rfl hl.1 rfl (Nat.le_of_ble_eq_true rfl) rfl ⟨Nat.le_of_ble_eq_true rfl, (Nat.le_of_ble_eq_true rfl)⟩ d_Law_1110) hP hD hS [0, 1, 2, 3, 4] [] rfl rfl rfl rfl (fun r_5 u_6 H locs hw hP hD hS hzH => ?_)
      have hw : r_5 = (-1) := hw
      have hP : va_P D CL [] H := hP
      have hD : va_D A [] := hD
      subst hw
      refine tpst (w := [.int (-1), .int (-1)]) rfl ?_
      refine lv_icmp_eq (tgt := 1768) G.1 G.2.1 d_Law_1113 (by decide) (fun c1113 => ?_) (fun c1113 => absurd c1113 (fun h => h rfl))
      refine lv_iinc (v := nI 6) (lv' := [(3, .int (nI 6)), (0, .ref b), (1, .ref h0), (2, .ref h0X)]) G.1 G.2.1 d_Law_1768 hl (k := 3) rfl (show (nI 0) + Int32.ofInt 6 = nI 6 from by decide) (by decide) rfl (fun ls hl => ?_)
      refine lv_goto (tgt := 18) G.1 G.2.1 d_Law_1771 (by decide) ?_
      refine lv_iload_n G.1 G.2.1 d_Law_18 rfl (lv_at hl 0 rfl) ?_
      refine lv_aload_n G.1 G.2.1 d_Law_19 rfl (lv_at hl 1 rfl) ?_
      refine va_slen G.1 G.2.1 hX hbl hbA hS d_Law_20 ?_
      refine tpi (w := nI 6) rfl ?_
      refine lv_bipush (v := nI 6) G.1 G.2.1 d_Law_21 (by decide) ?_
      refine lv_isub G.1 G.2.1 d_Law_23 ?_
      refine tpi (w := nI 0) (by decide) ?_
      refine lv_icmp_gt (tgt := 1774) G.1 G.2.1 d_Law_24 (by decide) (fun c24 => ?_) (fun c24 => absurd c24 (by decide))
      refine lv_iconst (v := nI 1) G.1 G.2.1 d_Law_1774 (by decide) ?_
      refine W.eq (g2 := F0 m 1775 ls [.int (nI 1)]) rfl ?_
      refine va_forget (fun q hq => hAA _ (hS.2.2 q hq)) ?_
      refine W.widen (k := 600002) (n := 7302232) (Nat.le_of_ble_eq_true rfl) (Nat.le_of_ble_eq_true rfl) ?_
      exact lw_ret G.1 G.2.1 G.2.2.2.1 G.2.2.2.2.1 d_Law_1775
  · skip
    refine lv_iconst (v := nI 1) G.1 G.2.1 d_Law_1073 (by decide) ?_
    refine W.eq (g2 := F0 m 1074 ls [.int (nI 1), .int (xs 3), .int (xs 2), .int (xs 1), .ref h0]) rfl ?_
    refine lv_goto (tgt := 1078) G.1 G.2.1 d_Law_1074 (by decide) ?_
    refine kEi (wr := [(h0X, .inr (14, fsX)), (owX, .inl (g 6, 4, .inr (.inr (.inr (.inr (va_up (va_up (va_up (va_up (fun _ => none) 0 (some v0X)) 1 (some v1X)) 2 (some v2X)) 3 (some v3X))))))), (v0X, .inr (13, fw0X)), (v1X, .inr (13, fw1X)), (v2X, .inr (13, fw2X))]) G (kV (As := [.int (xs 1), .int (xs 2), .int (xs 3), .int (nI 1)]) (rest := []) G hP hD hS [0, 1, 2, 3, 4, 5, 6, 7] rfl rfl (c_Cw_kinds l D g h0 (xs 1) (xs 2) (xs 3) (nI 1) r_cwords r_creader r_cchecker r_cfinder r_cwriter r_cmachines r_ctape r_cstock r_csizes r_cmet r_cfound r_cdraft r_cfewestFor r_cfewestNext mm0 mm1 mm2 mm3 ww0 r_m0heap r_m0runs r_m0counts r_m0traceRow f_m0traceCount r_m0startedList f_m0startedCount f_m0present f_m0quantum f_m0stepsDone f_m0turnSteps f_m0turnMost f_m0turnOver r_m0finder r_m0names f_m0fault f_m0wanted f_m0thrown ww1 r_m1heap r_m1runs r_m1counts r_m1traceRow f_m1traceCount r_m1startedList f_m1startedCount f_m1present f_m1quantum f_m1stepsDone f_m1turnSteps f_m1turnMost f_m1turnOver r_m1finder r_m1names f_m1fault f_m1wanted f_m1thrown ww2 r_m2heap r_m2runs r_m2counts r_m2traceRow f_m2traceCount r_m2startedList f_m2startedCount f_m2present f_m2quantum f_m2stepsDone f_m2turnSteps f_m2turnMost f_m2turnOver r_m2finder r_m2names f_m2fault f_m2wanted f_m2thrown r_w0names f_w0wrongClass f_w0wrongMethod f_w0wrongAt r_w0rows r_w0above r_w0fields r_w0methods r_w0codes r_w0handlers r_w0extra r_w0orders r_w0classNamed f_w0breaks r_w0marks r_w1names f_w1wrongClass f_w1wrongMethod f_w1wrongAt r_w1rows r_w1above r_w1fields r_w1methods r_w1codes r_w1handlers r_w1extra r_w1orders r_w1classNamed f_w1breaks r_w1marks r_w2names f_w2wrongClass f_w2wrongMethod f_w2wrongAt r_w2rows r_w2above r_w2fields r_w2methods r_w2codes r_w2handlers r_w2extra r_w2orders r_w2classNamed f_w2breaks r_w2marks H.size ) w_Cw_kinds q2263 rfl rfl ⟨Nat.le_of_ble_eq_true rfl, Nat.le_of_ble_eq_true rfl⟩ (fun _ h => absurd h List.not_mem_nil) 0 (ci := 11) rfl rfl rfl hl.1 rfl (Nat.le_of_ble_eq_true rfl) rfl ⟨Nat.le_of_ble_eq_true rfl, (Nat.le_of_ble_eq_true rfl)⟩ d_Law_1078) hP hD hS [0, 1, 2, 3, 4, 5, 6, 7] [8, 9, 10, 11, 12] rfl rfl rfl rfl (fun r_7 u_8 H locs hw hP hD hS hzH => ?_)
    have hw : r_7 = (-1) := hw
    have hP : va_P D CL [(h0X, .inr (14, fsX)), (owX, .inl (g 6, 4, .inr (.inr (.inr (.inr (va_up (va_up (va_up (va_up (fun _ => none) 0 (some v0X)) 1 (some v1X)) 2 (some v2X)) 3 (some v3X))))))), (v0X, .inr (13, fw0X)), (v1X, .inr (13, fw1X)), (v2X, .inr (13, fw2X))] H := hP
    have hD : va_D A [(h0X, .inr (14, fsX)), (owX, .inl (g 6, 4, .inr (.inr (.inr (.inr (va_up (va_up (va_up (va_up (fun _ => none) 0 (some v0X)) 1 (some v1X)) 2 (some v2X)) 3 (some v3X))))))), (v0X, .inr (13, fw0X)), (v1X, .inr (13, fw1X)), (v2X, .inr (13, fw2X))] := hD
    subst hw
    refine tpst (w := [.int (-1)]) rfl ?_
    refine lv_aload_n G.1 G.2.1 d_Law_1081 rfl (lv_at hl 2 rfl) ?_
    refine lv_aload_n G.1 G.2.1 d_Law_1082 rfl (lv_at hl 0 rfl) ?_
    refine lv_iload_n G.1 G.2.1 d_Law_1083 rfl (lv_at hl 3 rfl) ?_
    refine lv_iconst (v := nI 1) G.1 G.2.1 d_Law_1084 (by decide) ?_
    refine lv_iadd G.1 G.2.1 d_Law_1085 ?_
    refine tpi (w := nI 1) (by decide) ?_
    refine va_sld G.1 G.2.1 hX hbl hbA hS (nI_inn (n := 6) (a := 1) (by decide) (by decide)) d_Law_1086 ?_
    refine tpi (w := (xs 1)) (by rw [nI_clamp (by decide)]) ?_
    refine lv_aload_n G.1 G.2.1 d_Law_1087 rfl (lv_at hl 0 rfl) ?_
    refine lv_iload_n G.1 G.2.1 d_Law_1088 rfl (lv_at hl 3 rfl) ?_
    refine lv_iconst (v := nI 2) G.1 G.2.1 d_Law_1089 (by decide) ?_
    refine lv_iadd G.1 G.2.1 d_Law_1090 ?_
    refine tpi (w := nI 2) (by decide) ?_
    refine W.eq (g2 := F0 m 1091 ls [.int (nI 2), .ref b, .int (xs 1), .ref h0X, .int (-1)]) rfl ?_
    refine va_sld G.1 G.2.1 hX hbl hbA hS (nI_inn (n := 6) (a := 2) (by decide) (by decide)) d_Law_1091 ?_
    refine tpi (w := (xs 2)) (by rw [nI_clamp (by decide)]) ?_
    refine lv_aload_n G.1 G.2.1 d_Law_1092 rfl (lv_at hl 0 rfl) ?_
    refine lv_iload_n G.1 G.2.1 d_Law_1093 rfl (lv_at hl 3 rfl) ?_
    refine lv_iconst (v := nI 3) G.1 G.2.1 d_Law_1094 (by decide) ?_
    refine lv_iadd G.1 G.2.1 d_Law_1095 ?_
    refine tpi (w := nI 3) (by decide) ?_
    refine va_sld G.1 G.2.1 hX hbl hbA hS (nI_inn (n := 6) (a := 3) (by decide) (by decide)) d_Law_1096 ?_
    refine tpi (w := (xs 3)) (by rw [nI_clamp (by decide)]) ?_
    refine lv_aload_n G.1 G.2.1 d_Law_1097 rfl (lv_at hl 0 rfl) ?_
    refine lv_iload_n G.1 G.2.1 d_Law_1098 rfl (lv_at hl 3 rfl) ?_
    refine lv_iconst (v := nI 4) G.1 G.2.1 d_Law_1099 (by decide) ?_
    refine lv_iadd G.1 G.2.1 d_Law_1100 ?_
    refine tpi (w := nI 4) (by decide) ?_
    refine va_sld G.1 G.2.1 hX hbl hbA hS (nI_inn (n := 6) (a := 4) (by decide) (by decide)) d_Law_1101 ?_
    refine tpi (w := (xs 4)) (by rw [nI_clamp (by decide)]) ?_
    refine lv_if_eq (tgt := 1109) G.1 G.2.1 d_Law_1102 (by decide) (fun c1102 => ?_) (fun c1102 => ?_)
    · skip
      refine W.eq (g2 := F0 m 1109 ls [.int (xs 3), .int (xs 2), .int (xs 1), .ref h0X, .int (-1)]) rfl ?_
      refine lv_iconst (v := nI 0) G.1 G.2.1 d_Law_1109 (by decide) ?_
      refine kEi (wr := []) G (kV (As := [.int (xs 1), .int (xs 2), .int (xs 3), .int (nI 0)]) (rest := [.int (-1)]) G hP hD hS [0, 1, 2, 3, 4] rfl rfl (c_Mo_kinds l D g h0X (xs 1) (xs 2) (xs 3) (nI 0) fsX owX v0X v1X v2X v3X fw0X fw1X fw2X H.size glenX gk0X gw0X gt0X gw1X gt1X gw2X gt2X) w_Mo_kinds q4117 rfl rfl ⟨Nat.le_of_ble_eq_true rfl, Nat.le_of_ble_eq_true rfl⟩ (fun _ h => absurd h List.not_mem_nil) 0 (ci := 14) rfl rfl rfl hl.1 rfl (Nat.le_of_ble_eq_true rfl) rfl ⟨Nat.le_of_ble_eq_true rfl, (Nat.le_of_ble_eq_true rfl)⟩ d_Law_1110) hP hD hS [0, 1, 2, 3, 4] [] rfl rfl rfl rfl (fun r_9 u_10 H locs hw hP hD hS hzH => ?_)
      have hw : r_9 = (-1) := hw
      have hP : va_P D CL [] H := hP
      have hD : va_D A [] := hD
      subst hw
      refine tpst (w := [.int (-1), .int (-1)]) rfl ?_
      refine lv_icmp_eq (tgt := 1768) G.1 G.2.1 d_Law_1113 (by decide) (fun c1113 => ?_) (fun c1113 => absurd c1113 (fun h => h rfl))
      refine lv_iinc (v := nI 6) (lv' := [(3, .int (nI 6)), (0, .ref b), (1, .ref h0), (2, .ref h0X)]) G.1 G.2.1 d_Law_1768 hl (k := 3) rfl (show (nI 0) + Int32.ofInt 6 = nI 6 from by decide) (by decide) rfl (fun ls hl => ?_)
      refine lv_goto (tgt := 18) G.1 G.2.1 d_Law_1771 (by decide) ?_
      refine lv_iload_n G.1 G.2.1 d_Law_18 rfl (lv_at hl 0 rfl) ?_
      refine lv_aload_n G.1 G.2.1 d_Law_19 rfl (lv_at hl 1 rfl) ?_
      refine va_slen G.1 G.2.1 hX hbl hbA hS d_Law_20 ?_
      refine tpi (w := nI 6) rfl ?_
      refine lv_bipush (v := nI 6) G.1 G.2.1 d_Law_21 (by decide) ?_
      refine lv_isub G.1 G.2.1 d_Law_23 ?_
      refine tpi (w := nI 0) (by decide) ?_
      refine lv_icmp_gt (tgt := 1774) G.1 G.2.1 d_Law_24 (by decide) (fun c24 => ?_) (fun c24 => absurd c24 (by decide))
      refine lv_iconst (v := nI 1) G.1 G.2.1 d_Law_1774 (by decide) ?_
      refine W.eq (g2 := F0 m 1775 ls [.int (nI 1)]) rfl ?_
      refine va_forget (fun q hq => hAA _ (hS.2.2 q hq)) ?_
      refine W.widen (k := 600002) (n := 7302232) (Nat.le_of_ble_eq_true rfl) (Nat.le_of_ble_eq_true rfl) ?_
      exact lw_ret G.1 G.2.1 G.2.2.2.1 G.2.2.2.2.1 d_Law_1775
    · skip
      refine W.eq (g2 := F0 m 1105 ls [.int (xs 3), .int (xs 2), .int (xs 1), .ref h0X, .int (-1)]) rfl ?_
      refine lv_iconst (v := nI 1) G.1 G.2.1 d_Law_1105 (by decide) ?_
      refine lv_goto (tgt := 1110) G.1 G.2.1 d_Law_1106 (by decide) ?_
      refine kEi (wr := []) G (kV (As := [.int (xs 1), .int (xs 2), .int (xs 3), .int (nI 1)]) (rest := [.int (-1)]) G hP hD hS [0, 1, 2, 3, 4] rfl rfl (c_Mo_kinds l D g h0X (xs 1) (xs 2) (xs 3) (nI 1) fsX owX v0X v1X v2X v3X fw0X fw1X fw2X H.size glenX gk0X gw0X gt0X gw1X gt1X gw2X gt2X) w_Mo_kinds q4117 rfl rfl ⟨Nat.le_of_ble_eq_true rfl, Nat.le_of_ble_eq_true rfl⟩ (fun _ h => absurd h List.not_mem_nil) 0 (ci := 14) rfl rfl rfl hl.1 rfl (Nat.le_of_ble_eq_true rfl) rfl ⟨Nat.le_of_ble_eq_true rfl, (Nat.le_of_ble_eq_true rfl)⟩ d_Law_1110) hP hD hS [0, 1, 2, 3, 4] [] rfl rfl rfl rfl (fun r_11 u_12 H locs hw hP hD hS hzH => ?_)
      have hw : r_11 = (-1) := hw
      have hP : va_P D CL [] H := hP
      have hD : va_D A [] := hD
      subst hw
      refine tpst (w := [.int (-1), .int (-1)]) rfl ?_
      refine lv_icmp_eq (tgt := 1768) G.1 G.2.1 d_Law_1113 (by decide) (fun c1113 => ?_) (fun c1113 => absurd c1113 (fun h => h rfl))
      refine lv_iinc (v := nI 6) (lv' := [(3, .int (nI 6)), (0, .ref b), (1, .ref h0), (2, .ref h0X)]) G.1 G.2.1 d_Law_1768 hl (k := 3) rfl (show (nI 0) + Int32.ofInt 6 = nI 6 from by decide) (by decide) rfl (fun ls hl => ?_)
      refine lv_goto (tgt := 18) G.1 G.2.1 d_Law_1771 (by decide) ?_
      refine lv_iload_n G.1 G.2.1 d_Law_18 rfl (lv_at hl 0 rfl) ?_
      refine lv_aload_n G.1 G.2.1 d_Law_19 rfl (lv_at hl 1 rfl) ?_
      refine va_slen G.1 G.2.1 hX hbl hbA hS d_Law_20 ?_
      refine tpi (w := nI 6) rfl ?_
      refine lv_bipush (v := nI 6) G.1 G.2.1 d_Law_21 (by decide) ?_
      refine lv_isub G.1 G.2.1 d_Law_23 ?_
      refine tpi (w := nI 0) (by decide) ?_
      refine lv_icmp_gt (tgt := 1774) G.1 G.2.1 d_Law_24 (by decide) (fun c24 => ?_) (fun c24 => absurd c24 (by decide))
      refine W.eq (g2 := F0 m 1774 ls []) rfl ?_
      refine lv_iconst (v := nI 1) G.1 G.2.1 d_Law_1774 (by decide) ?_
      refine va_forget (fun q hq => hAA _ (hS.2.2 q hq)) ?_
      refine W.widen (k := 600002) (n := 7302232) (Nat.le_of_ble_eq_true rfl) (Nat.le_of_ble_eq_true rfl) ?_
      exact lw_ret G.1 G.2.1 G.2.2.2.1 G.2.2.2.2.1 d_Law_1775
theorem q2305 : Cond.code y_Cw_kind b_Cw_kind 3 (some .int) ∈ lw_ok := lw_okmem (List.mem_of_getElem? (i := 2305) (by decide +kernel)) rfl
theorem q2303 : Cond.instanceMethod y_Cw_kind ∈ lw_ok := lw_okmem (List.mem_of_getElem? (i := 2303) (by decide +kernel)) rfl
theorem q2304 : Cond.selects y_Cw_kind.cls y_Cw_kind y_Cw_kind ∈ lw_ok := lw_okmem (List.mem_of_getElem? (i := 2304) (by decide +kernel)) rfl
theorem w_Cw_kind : CWv y_Cw_kind b_Cw_kind 3 (some .int) 2 ∧ Cond.instanceMethod y_Cw_kind ∈ lw_ok ∧ Cond.selects y_Cw_kind.cls y_Cw_kind y_Cw_kind ∈ lw_ok := ⟨⟨q2305, q329, by decide +kernel, by decide +kernel, by decide +kernel⟩, q2303, q2304⟩
theorem q2302 : Cond.methodLink "ClassWorksLaw" 117 y_Cw_kind ∈ lw_ok := lw_okmem (List.mem_of_getElem? (i := 2302) (by decide +kernel)) rfl
theorem q4152 : Cond.code y_Mo_kind b_Mo_kind 3 (some .int) ∈ lw_ok := lw_okmem (List.mem_of_getElem? (i := 4152) (by decide +kernel)) rfl
theorem q4150 : Cond.instanceMethod y_Mo_kind ∈ lw_ok := lw_okmem (List.mem_of_getElem? (i := 4150) (by decide +kernel)) rfl
theorem q4151 : Cond.selects y_Mo_kind.cls y_Mo_kind y_Mo_kind ∈ lw_ok := lw_okmem (List.mem_of_getElem? (i := 4151) (by decide +kernel)) rfl
theorem w_Mo_kind : CWv y_Mo_kind b_Mo_kind 3 (some .int) 2 ∧ Cond.instanceMethod y_Mo_kind ∈ lw_ok ∧ Cond.selects y_Mo_kind.cls y_Mo_kind y_Mo_kind ∈ lw_ok := ⟨⟨q4152, q348, by decide +kernel, by decide +kernel, by decide +kernel⟩, q4150, q4151⟩
theorem q4149 : Cond.methodLink "ClassWorksLaw" 120 y_Mo_kind ∈ lw_ok := lw_okmem (List.mem_of_getElem? (i := 4149) (by decide +kernel)) rfl
theorem d_Law_1118 : decode code 1118 = .ok (.aload_n 1, 1) := by decide +kernel
theorem d_Law_1119 : decode code 1119 = .ok (.aload_n 0, 1) := by decide +kernel
theorem d_Law_1120 : decode code 1120 = .ok (.iload_n 3, 1) := by decide +kernel
theorem d_Law_1121 : decode code 1121 = .ok (.iconst 1, 1) := by decide +kernel
theorem d_Law_1122 : decode code 1122 = .ok (.iadd, 1) := by decide +kernel
theorem d_Law_1123 : decode code 1123 = .ok (.iaload, 1) := by decide +kernel
theorem d_Law_1124 : decode code 1124 = .ok (.aload_n 0, 1) := by decide +kernel
theorem d_Law_1125 : decode code 1125 = .ok (.iload_n 3, 1) := by decide +kernel
theorem d_Law_1126 : decode code 1126 = .ok (.iconst 2, 1) := by decide +kernel
theorem d_Law_1127 : decode code 1127 = .ok (.iadd, 1) := by decide +kernel
theorem d_Law_1128 : decode code 1128 = .ok (.iaload, 1) := by decide +kernel
theorem d_Law_1129 : decode code 1129 = .ok (.invokevirtual 117, 3) := by decide +kernel
theorem d_Law_1132 : decode code 1132 = .ok (.aload_n 2, 1) := by decide +kernel
theorem d_Law_1133 : decode code 1133 = .ok (.aload_n 0, 1) := by decide +kernel
theorem d_Law_1134 : decode code 1134 = .ok (.iload_n 3, 1) := by decide +kernel
theorem d_Law_1135 : decode code 1135 = .ok (.iconst 1, 1) := by decide +kernel
theorem d_Law_1136 : decode code 1136 = .ok (.iadd, 1) := by decide +kernel
theorem d_Law_1137 : decode code 1137 = .ok (.iaload, 1) := by decide +kernel
theorem d_Law_1138 : decode code 1138 = .ok (.aload_n 0, 1) := by decide +kernel
theorem d_Law_1139 : decode code 1139 = .ok (.iload_n 3, 1) := by decide +kernel
theorem d_Law_1140 : decode code 1140 = .ok (.iconst 2, 1) := by decide +kernel
theorem d_Law_1141 : decode code 1141 = .ok (.iadd, 1) := by decide +kernel
theorem d_Law_1142 : decode code 1142 = .ok (.iaload, 1) := by decide +kernel
theorem d_Law_1143 : decode code 1143 = .ok (.invokevirtual 120, 3) := by decide +kernel
theorem d_Law_1146 : decode code 1146 = .ok (.if_icmp .eq 622, 3) := by decide +kernel
set_option maxHeartbeats 4000000 in
set_option maxRecDepth 100000 in
theorem law_kind {p : Program} {e : Env} {s : State} {m : MethodId} {below : List Frame} {meth : Method} {c : Code} {l : Launch} {D : va_G} {g : Nat → ClassId} {sl : List SL} {b : Nat} {xs : Nat → Int32} {A : Nat → Prop} (h0 : Nat) (r_cwords : Nat) (r_creader : Nat) (r_cchecker : Nat) (r_cfinder : Nat) (r_cwriter : Nat) (r_cmachines : Nat) (r_ctape : Nat) (r_cstock : Nat) (r_csizes : Nat) (r_cmet : Nat) (r_cfound : Nat) (r_cdraft : Nat) (r_cfewestFor : Nat) (r_cfewestNext : Nat) (f_kspot : Int32) (f_kspotMethod : Int32) (r_knames : Nat) (f_kcls : Int32) (f_kcode0 : Int32) (f_kcodes : Int32) (f_klocals : Int32) (f_kstack : Int32) (f_kresult : Int32) (f_kinMake : Int32) (f_krow : Int32) (f_kop : Int32) (f_kwants : Int32) (f_kmakes : Int32) (r_know : Nat) (f_kdepth : Int32) (f_kchanged : Int32) (r_kknown : Nat) (r_kdepths : Nat) (f_ktoldLocals : Int32) (h0X : Nat) (fsX : List Value) (G : GV l p s m #[Value.ref b] meth c (⟨"ClassWorksLaw", meth.name, ""⟩ : MethodName) code 4 ret g D sl A) (hX : va_X b 6 xs s s.heap) (hbl : b < s.heap.size) (hbA : ¬ A b) (hAA : ∀ q, A q → s.heap.size ≤ q) {H : Heap} {locs : List Loc} {ls : Array Slot} (glenX : fsX.length = 131) (gk0X : fsX[101]? = some (.int (nI 0))) (hP : va_P D CL [(h0, .inr (11, [.ref r_cwords, .ref r_creader, .ref r_cchecker, .ref r_cfinder, .ref r_cwriter, .ref r_cmachines, .ref r_ctape, .int (nI 0), .int (-2), .int (nI 60000), .ref r_cstock, .ref r_csizes, .ref r_cmet, .ref r_cfound, .int (nI 0), .ref r_cdraft, .int (nI 0), .int (nI 0), .ref r_cfewestFor, .ref r_cfewestNext])), (r_cchecker, .inr (0, [.int f_kspot, .int f_kspotMethod, .ref r_knames, .null, .int f_kcls, .int f_kcode0, .int f_kcodes, .int f_klocals, .int f_kstack, .int f_kresult, .int f_kinMake, .int f_krow, .int f_kop, .int f_kwants, .int f_kmakes, .ref r_know, .int f_kdepth, .int f_kchanged, .ref r_kknown, .ref r_kdepths, .int (nI 0), .int f_ktoldLocals])), (h0X, .inr (14, fsX))] H) (hD : va_D A [(h0, .inr (11, [.ref r_cwords, .ref r_creader, .ref r_cchecker, .ref r_cfinder, .ref r_cwriter, .ref r_cmachines, .ref r_ctape, .int (nI 0), .int (-2), .int (nI 60000), .ref r_cstock, .ref r_csizes, .ref r_cmet, .ref r_cfound, .int (nI 0), .ref r_cdraft, .int (nI 0), .int (nI 0), .ref r_cfewestFor, .ref r_cfewestNext])), (r_cchecker, .inr (0, [.int f_kspot, .int f_kspotMethod, .ref r_knames, .null, .int f_kcls, .int f_kcode0, .int f_kcodes, .int f_klocals, .int f_kstack, .int f_kresult, .int f_kinMake, .int f_krow, .int f_kop, .int f_kwants, .int f_kmakes, .ref r_know, .int f_kdepth, .int f_kchanged, .ref r_kknown, .ref r_kdepths, .int (nI 0), .int f_ktoldLocals])), (h0X, .inr (14, fsX))]) (hS : va_S A s.heap H locs) (hl : lv_has ls 4 [(0, .ref b), (1, .ref h0), (2, .ref h0X), (3, .int (nI 0))]) : W p l e room_1 s m #[Value.ref b] below meth c H locs 702 488194 (lw_Z below #[Value.ref b] s) (F0 m 1118 ls []) := by
  refine lv_aload_n G.1 G.2.1 d_Law_1118 rfl (lv_at hl 1 rfl) ?_
  refine lv_aload_n G.1 G.2.1 d_Law_1119 rfl (lv_at hl 0 rfl) ?_
  refine lv_iload_n G.1 G.2.1 d_Law_1120 rfl (lv_at hl 3 rfl) ?_
  refine lv_iconst (v := nI 1) G.1 G.2.1 d_Law_1121 (by decide) ?_
  refine lv_iadd G.1 G.2.1 d_Law_1122 ?_
  refine tpi (w := nI 1) (by decide) ?_
  refine va_sld G.1 G.2.1 hX hbl hbA hS (nI_inn (n := 6) (a := 1) (by decide) (by decide)) d_Law_1123 ?_
  refine tpi (w := (xs 1)) (by rw [nI_clamp (by decide)]) ?_
  refine lv_aload_n G.1 G.2.1 d_Law_1124 rfl (lv_at hl 0 rfl) ?_
  refine lv_iload_n G.1 G.2.1 d_Law_1125 rfl (lv_at hl 3 rfl) ?_
  refine lv_iconst (v := nI 2) G.1 G.2.1 d_Law_1126 (by decide) ?_
  refine lv_iadd G.1 G.2.1 d_Law_1127 ?_
  refine tpi (w := nI 2) (by decide) ?_
  refine va_sld G.1 G.2.1 hX hbl hbA hS (nI_inn (n := 6) (a := 2) (by decide) (by decide)) d_Law_1128 ?_
  refine tpi (w := (xs 2)) (by rw [nI_clamp (by decide)]) ?_
  refine W.eq (g2 := F0 m 1129 ls [.int (xs 2), .int (xs 1), .ref h0]) rfl ?_
  refine kEi (wr := [(h0X, .inr (14, fsX))]) G (kV (As := [.int (xs 1), .int (xs 2)]) (rest := []) G hP hD hS [0, 1] rfl rfl (c_Cw_kind l D g h0 (xs 1) (xs 2) r_cwords r_creader r_cchecker r_cfinder r_cwriter r_cmachines r_ctape r_cstock r_csizes r_cmet r_cfound r_cdraft r_cfewestFor r_cfewestNext f_kspot f_kspotMethod r_knames f_kcls f_kcode0 f_kcodes f_klocals f_kstack f_kresult f_kinMake f_krow f_kop f_kwants f_kmakes r_know f_kdepth f_kchanged r_kknown r_kdepths f_ktoldLocals H.size ) w_Cw_kind q2302 rfl rfl ⟨Nat.le_of_ble_eq_true rfl, Nat.le_of_ble_eq_true rfl⟩ (fun _ h => absurd h List.not_mem_nil) 0 (ci := 11) rfl rfl rfl hl.1 rfl (Nat.le_of_ble_eq_true rfl) rfl ⟨Nat.le_of_ble_eq_true rfl, (Nat.le_of_ble_eq_true rfl)⟩ d_Law_1129) hP hD hS [0, 1] [2] rfl rfl rfl rfl (fun r_1 u_2 H locs hw hP hD hS hzH => ?_)
  have hw : r_1 = (-1) := hw
  have hP : va_P D CL [(h0X, .inr (14, fsX))] H := hP
  have hD : va_D A [(h0X, .inr (14, fsX))] := hD
  subst hw
  refine tpst (w := [.int (-1)]) rfl ?_
  refine lv_aload_n G.1 G.2.1 d_Law_1132 rfl (lv_at hl 2 rfl) ?_
  refine lv_aload_n G.1 G.2.1 d_Law_1133 rfl (lv_at hl 0 rfl) ?_
  refine lv_iload_n G.1 G.2.1 d_Law_1134 rfl (lv_at hl 3 rfl) ?_
  refine lv_iconst (v := nI 1) G.1 G.2.1 d_Law_1135 (by decide) ?_
  refine lv_iadd G.1 G.2.1 d_Law_1136 ?_
  refine tpi (w := nI 1) (by decide) ?_
  refine va_sld G.1 G.2.1 hX hbl hbA hS (nI_inn (n := 6) (a := 1) (by decide) (by decide)) d_Law_1137 ?_
  refine tpi (w := (xs 1)) (by rw [nI_clamp (by decide)]) ?_
  refine lv_aload_n G.1 G.2.1 d_Law_1138 rfl (lv_at hl 0 rfl) ?_
  refine lv_iload_n G.1 G.2.1 d_Law_1139 rfl (lv_at hl 3 rfl) ?_
  refine lv_iconst (v := nI 2) G.1 G.2.1 d_Law_1140 (by decide) ?_
  refine lv_iadd G.1 G.2.1 d_Law_1141 ?_
  refine tpi (w := nI 2) (by decide) ?_
  refine va_sld G.1 G.2.1 hX hbl hbA hS (nI_inn (n := 6) (a := 2) (by decide) (by decide)) d_Law_1142 ?_
  refine tpi (w := (xs 2)) (by rw [nI_clamp (by decide)]) ?_
  refine W.eq (g2 := F0 m 1143 ls [.int (xs 2), .int (xs 1), .ref h0X, .int (-1)]) rfl ?_
  refine kEi (wr := []) G (kV (As := [.int (xs 1), .int (xs 2)]) (rest := [.int (-1)]) G hP hD hS [0] rfl rfl (c_Mo_kind l D g h0X (xs 1) (xs 2) fsX H.size glenX gk0X) w_Mo_kind q4149 rfl rfl ⟨Nat.le_of_ble_eq_true rfl, Nat.le_of_ble_eq_true rfl⟩ (fun _ h => absurd h List.not_mem_nil) 0 (ci := 14) rfl rfl rfl hl.1 rfl (Nat.le_of_ble_eq_true rfl) rfl ⟨Nat.le_of_ble_eq_true rfl, (Nat.le_of_ble_eq_true rfl)⟩ d_Law_1143) hP hD hS [0] [] rfl rfl rfl rfl (fun r_3 u_4 H locs hw hP hD hS hzH => ?_)
  have hw : r_3 = (-1) := hw
  have hP : va_P D CL [] H := hP
  have hD : va_D A [] := hD
  subst hw
  refine tpst (w := [.int (-1), .int (-1)]) rfl ?_
  refine lv_icmp_eq (tgt := 1768) G.1 G.2.1 d_Law_1146 (by decide) (fun c1146 => ?_) (fun c1146 => absurd c1146 (fun h => h rfl))
  refine lv_iinc (v := nI 6) (lv' := [(3, .int (nI 6)), (0, .ref b), (1, .ref h0), (2, .ref h0X)]) G.1 G.2.1 d_Law_1768 hl (k := 3) rfl (show (nI 0) + Int32.ofInt 6 = nI 6 from by decide) (by decide) rfl (fun ls hl => ?_)
  refine lv_goto (tgt := 18) G.1 G.2.1 d_Law_1771 (by decide) ?_
  refine lv_iload_n G.1 G.2.1 d_Law_18 rfl (lv_at hl 0 rfl) ?_
  refine lv_aload_n G.1 G.2.1 d_Law_19 rfl (lv_at hl 1 rfl) ?_
  refine va_slen G.1 G.2.1 hX hbl hbA hS d_Law_20 ?_
  refine tpi (w := nI 6) rfl ?_
  refine lv_bipush (v := nI 6) G.1 G.2.1 d_Law_21 (by decide) ?_
  refine lv_isub G.1 G.2.1 d_Law_23 ?_
  refine tpi (w := nI 0) (by decide) ?_
  refine lv_icmp_gt (tgt := 1774) G.1 G.2.1 d_Law_24 (by decide) (fun c24 => ?_) (fun c24 => absurd c24 (by decide))
  refine lv_iconst (v := nI 1) G.1 G.2.1 d_Law_1774 (by decide) ?_
  refine va_forget (fun q hq => hAA _ (hS.2.2 q hq)) ?_
  refine W.widen (k := 600002) (n := 7302232) (Nat.le_of_ble_eq_true rfl) (Nat.le_of_ble_eq_true rfl) ?_
  exact lw_ret G.1 G.2.1 G.2.2.2.1 G.2.2.2.2.1 d_Law_1775
theorem q2313 : Cond.code y_Cw_foretell b_Cw_foretell 10 (some .int) ∈ lw_ok := lw_okmem (List.mem_of_getElem? (i := 2313) (by decide +kernel)) rfl
theorem q2311 : Cond.instanceMethod y_Cw_foretell ∈ lw_ok := lw_okmem (List.mem_of_getElem? (i := 2311) (by decide +kernel)) rfl
theorem q2312 : Cond.selects y_Cw_foretell.cls y_Cw_foretell y_Cw_foretell ∈ lw_ok := lw_okmem (List.mem_of_getElem? (i := 2312) (by decide +kernel)) rfl
theorem w_Cw_foretell : CWv y_Cw_foretell b_Cw_foretell 10 (some .int) 4 ∧ Cond.instanceMethod y_Cw_foretell ∈ lw_ok ∧ Cond.selects y_Cw_foretell.cls y_Cw_foretell y_Cw_foretell ∈ lw_ok := ⟨⟨q2313, q329, by decide +kernel, by decide +kernel, by decide +kernel⟩, q2311, q2312⟩
theorem q2310 : Cond.methodLink "ClassWorksLaw" 121 y_Cw_foretell ∈ lw_ok := lw_okmem (List.mem_of_getElem? (i := 2310) (by decide +kernel)) rfl
theorem q4156 : Cond.code y_Mo_foretell b_Mo_foretell 10 (some .int) ∈ lw_ok := lw_okmem (List.mem_of_getElem? (i := 4156) (by decide +kernel)) rfl
theorem q4154 : Cond.instanceMethod y_Mo_foretell ∈ lw_ok := lw_okmem (List.mem_of_getElem? (i := 4154) (by decide +kernel)) rfl
theorem q4155 : Cond.selects y_Mo_foretell.cls y_Mo_foretell y_Mo_foretell ∈ lw_ok := lw_okmem (List.mem_of_getElem? (i := 4155) (by decide +kernel)) rfl
theorem w_Mo_foretell : CWv y_Mo_foretell b_Mo_foretell 10 (some .int) 4 ∧ Cond.instanceMethod y_Mo_foretell ∈ lw_ok ∧ Cond.selects y_Mo_foretell.cls y_Mo_foretell y_Mo_foretell ∈ lw_ok := ⟨⟨q4156, q348, by decide +kernel, by decide +kernel, by decide +kernel⟩, q4154, q4155⟩
theorem q4153 : Cond.methodLink "ClassWorksLaw" 124 y_Mo_foretell ∈ lw_ok := lw_okmem (List.mem_of_getElem? (i := 4153) (by decide +kernel)) rfl
theorem d_Law_1151 : decode code 1151 = .ok (.aload_n 1, 1) := by decide +kernel
theorem d_Law_1152 : decode code 1152 = .ok (.aload_n 0, 1) := by decide +kernel
theorem d_Law_1153 : decode code 1153 = .ok (.iload_n 3, 1) := by decide +kernel
theorem d_Law_1154 : decode code 1154 = .ok (.iconst 1, 1) := by decide +kernel
theorem d_Law_1155 : decode code 1155 = .ok (.iadd, 1) := by decide +kernel
theorem d_Law_1156 : decode code 1156 = .ok (.iaload, 1) := by decide +kernel
theorem d_Law_1157 : decode code 1157 = .ok (.aload_n 0, 1) := by decide +kernel
theorem d_Law_1158 : decode code 1158 = .ok (.iload_n 3, 1) := by decide +kernel
theorem d_Law_1159 : decode code 1159 = .ok (.iconst 2, 1) := by decide +kernel
theorem d_Law_1160 : decode code 1160 = .ok (.iadd, 1) := by decide +kernel
theorem d_Law_1161 : decode code 1161 = .ok (.iaload, 1) := by decide +kernel
theorem d_Law_1162 : decode code 1162 = .ok (.aload_n 0, 1) := by decide +kernel
theorem d_Law_1163 : decode code 1163 = .ok (.iload_n 3, 1) := by decide +kernel
theorem d_Law_1164 : decode code 1164 = .ok (.iconst 3, 1) := by decide +kernel
theorem d_Law_1165 : decode code 1165 = .ok (.iadd, 1) := by decide +kernel
theorem d_Law_1166 : decode code 1166 = .ok (.iaload, 1) := by decide +kernel
theorem d_Law_1167 : decode code 1167 = .ok (.aload_n 0, 1) := by decide +kernel
theorem d_Law_1168 : decode code 1168 = .ok (.iload_n 3, 1) := by decide +kernel
theorem d_Law_1169 : decode code 1169 = .ok (.iconst 4, 1) := by decide +kernel
theorem d_Law_1170 : decode code 1170 = .ok (.iadd, 1) := by decide +kernel
theorem d_Law_1171 : decode code 1171 = .ok (.iaload, 1) := by decide +kernel
theorem d_Law_1172 : decode code 1172 = .ok (.invokevirtual 121, 3) := by decide +kernel
theorem d_Law_1175 : decode code 1175 = .ok (.aload_n 2, 1) := by decide +kernel
theorem d_Law_1176 : decode code 1176 = .ok (.aload_n 0, 1) := by decide +kernel
theorem d_Law_1177 : decode code 1177 = .ok (.iload_n 3, 1) := by decide +kernel
theorem d_Law_1178 : decode code 1178 = .ok (.iconst 1, 1) := by decide +kernel
theorem d_Law_1179 : decode code 1179 = .ok (.iadd, 1) := by decide +kernel
theorem d_Law_1180 : decode code 1180 = .ok (.iaload, 1) := by decide +kernel
theorem d_Law_1181 : decode code 1181 = .ok (.aload_n 0, 1) := by decide +kernel
theorem d_Law_1182 : decode code 1182 = .ok (.iload_n 3, 1) := by decide +kernel
theorem d_Law_1183 : decode code 1183 = .ok (.iconst 2, 1) := by decide +kernel
theorem d_Law_1184 : decode code 1184 = .ok (.iadd, 1) := by decide +kernel
theorem d_Law_1185 : decode code 1185 = .ok (.iaload, 1) := by decide +kernel
theorem d_Law_1186 : decode code 1186 = .ok (.aload_n 0, 1) := by decide +kernel
theorem d_Law_1187 : decode code 1187 = .ok (.iload_n 3, 1) := by decide +kernel
theorem d_Law_1188 : decode code 1188 = .ok (.iconst 3, 1) := by decide +kernel
theorem d_Law_1189 : decode code 1189 = .ok (.iadd, 1) := by decide +kernel
theorem d_Law_1190 : decode code 1190 = .ok (.iaload, 1) := by decide +kernel
theorem d_Law_1191 : decode code 1191 = .ok (.aload_n 0, 1) := by decide +kernel
theorem d_Law_1192 : decode code 1192 = .ok (.iload_n 3, 1) := by decide +kernel
theorem d_Law_1193 : decode code 1193 = .ok (.iconst 4, 1) := by decide +kernel
theorem d_Law_1194 : decode code 1194 = .ok (.iadd, 1) := by decide +kernel
theorem d_Law_1195 : decode code 1195 = .ok (.iaload, 1) := by decide +kernel
theorem d_Law_1196 : decode code 1196 = .ok (.invokevirtual 124, 3) := by decide +kernel
theorem d_Law_1199 : decode code 1199 = .ok (.if_icmp .eq 569, 3) := by decide +kernel
set_option maxHeartbeats 4000000 in
set_option maxRecDepth 100000 in
theorem law_foretell {p : Program} {e : Env} {s : State} {m : MethodId} {below : List Frame} {meth : Method} {c : Code} {l : Launch} {D : va_G} {g : Nat → ClassId} {sl : List SL} {b : Nat} {xs : Nat → Int32} {A : Nat → Prop} (h0 : Nat) (r_cwords : Nat) (r_creader : Nat) (r_cchecker : Nat) (r_cfinder : Nat) (r_cwriter : Nat) (r_cmachines : Nat) (r_ctape : Nat) (r_cstock : Nat) (r_csizes : Nat) (r_cmet : Nat) (r_cfound : Nat) (r_cdraft : Nat) (r_cfewestFor : Nat) (r_cfewestNext : Nat) (mm0 : Nat) (mm1 : Nat) (mm2 : Nat) (mm3 : Nat) (ww0 : Nat) (r_m0heap : Nat) (r_m0runs : Nat) (r_m0counts : Nat) (r_m0traceRow : Nat) (f_m0traceCount : Int32) (r_m0startedList : Nat) (f_m0startedCount : Int32) (f_m0present : Int32) (f_m0quantum : Int32) (f_m0stepsDone : Int32) (f_m0turnSteps : Int32) (f_m0turnMost : Int32) (f_m0turnOver : Int32) (r_m0finder : Nat) (r_m0names : Nat) (f_m0fault : Int32) (f_m0wanted : Int32) (f_m0thrown : Int32) (ww1 : Nat) (r_m1heap : Nat) (r_m1runs : Nat) (r_m1counts : Nat) (r_m1traceRow : Nat) (f_m1traceCount : Int32) (r_m1startedList : Nat) (f_m1startedCount : Int32) (f_m1present : Int32) (f_m1quantum : Int32) (f_m1stepsDone : Int32) (f_m1turnSteps : Int32) (f_m1turnMost : Int32) (f_m1turnOver : Int32) (r_m1finder : Nat) (r_m1names : Nat) (f_m1fault : Int32) (f_m1wanted : Int32) (f_m1thrown : Int32) (ww2 : Nat) (r_m2heap : Nat) (r_m2runs : Nat) (r_m2counts : Nat) (r_m2traceRow : Nat) (f_m2traceCount : Int32) (r_m2startedList : Nat) (f_m2startedCount : Int32) (f_m2present : Int32) (f_m2quantum : Int32) (f_m2stepsDone : Int32) (f_m2turnSteps : Int32) (f_m2turnMost : Int32) (f_m2turnOver : Int32) (r_m2finder : Nat) (r_m2names : Nat) (f_m2fault : Int32) (f_m2wanted : Int32) (f_m2thrown : Int32) (r_w0names : Nat) (f_w0wrongClass : Int32) (f_w0wrongMethod : Int32) (f_w0wrongAt : Int32) (r_w0rows : Nat) (r_w0above : Nat) (r_w0fields : Nat) (r_w0methods : Nat) (r_w0codes : Nat) (r_w0handlers : Nat) (r_w0extra : Nat) (r_w0orders : Nat) (r_w0classNamed : Nat) (f_w0breaks : Int32) (r_w0marks : Nat) (r_w1names : Nat) (f_w1wrongClass : Int32) (f_w1wrongMethod : Int32) (f_w1wrongAt : Int32) (r_w1rows : Nat) (r_w1above : Nat) (r_w1fields : Nat) (r_w1methods : Nat) (r_w1codes : Nat) (r_w1handlers : Nat) (r_w1extra : Nat) (r_w1orders : Nat) (r_w1classNamed : Nat) (f_w1breaks : Int32) (r_w1marks : Nat) (r_w2names : Nat) (f_w2wrongClass : Int32) (f_w2wrongMethod : Int32) (f_w2wrongAt : Int32) (r_w2rows : Nat) (r_w2above : Nat) (r_w2fields : Nat) (r_w2methods : Nat) (r_w2codes : Nat) (r_w2handlers : Nat) (r_w2extra : Nat) (r_w2orders : Nat) (r_w2classNamed : Nat) (f_w2breaks : Int32) (r_w2marks : Nat) (h0X : Nat) (fsX : List Value) (owX : Nat) (v0X : Nat) (v1X : Nat) (v2X : Nat) (v3X : Nat) (fw0X : List Value) (fw1X : List Value) (fw2X : List Value) (G : GV l p s m #[Value.ref b] meth c (⟨"ClassWorksLaw", meth.name, ""⟩ : MethodName) code 4 ret g D sl A) (hX : va_X b 6 xs s s.heap) (hbl : b < s.heap.size) (hbA : ¬ A b) (hAA : ∀ q, A q → s.heap.size ≤ q) {H : Heap} {locs : List Loc} {ls : Array Slot} (glenX : fsX.length = 131) (gk0X : fsX[44]? = some (.ref owX)) (gw0X : fw0X.length = 72) (gt0X : fw0X[0]? = some (.int (nI 0))) (gw1X : fw1X.length = 72) (gt1X : fw1X[0]? = some (.int (nI 0))) (gw2X : fw2X.length = 72) (gt2X : fw2X[0]? = some (.int (nI 0))) (hP : va_P D CL [(h0, .inr (11, [.ref r_cwords, .ref r_creader, .ref r_cchecker, .ref r_cfinder, .ref r_cwriter, .ref r_cmachines, .ref r_ctape, .int (nI 0), .int (-2), .int (nI 60000), .ref r_cstock, .ref r_csizes, .ref r_cmet, .ref r_cfound, .int (nI 0), .ref r_cdraft, .int (nI 0), .int (nI 0), .ref r_cfewestFor, .ref r_cfewestNext])), (r_cmachines, .inl (g 4, 4, .inr (.inr (.inr (.inr (va_up (va_up (va_up (va_up (fun _ => none) 0 (some mm0)) 1 (some mm1)) 2 (some mm2)) 3 (some mm3))))))), (mm0, .inr (4, [.ref ww0, .ref r_m0heap, .ref r_m0runs, .ref r_m0counts, .ref r_m0traceRow, .int f_m0traceCount, .ref r_m0startedList, .int f_m0startedCount, .int f_m0present, .int f_m0quantum, .int f_m0stepsDone, .int f_m0turnSteps, .int f_m0turnMost, .int f_m0turnOver, .ref r_m0finder, .ref r_m0names, .int f_m0fault, .int f_m0wanted, .int f_m0thrown])), (mm1, .inr (4, [.ref ww1, .ref r_m1heap, .ref r_m1runs, .ref r_m1counts, .ref r_m1traceRow, .int f_m1traceCount, .ref r_m1startedList, .int f_m1startedCount, .int f_m1present, .int f_m1quantum, .int f_m1stepsDone, .int f_m1turnSteps, .int f_m1turnMost, .int f_m1turnOver, .ref r_m1finder, .ref r_m1names, .int f_m1fault, .int f_m1wanted, .int f_m1thrown])), (mm2, .inr (4, [.ref ww2, .ref r_m2heap, .ref r_m2runs, .ref r_m2counts, .ref r_m2traceRow, .int f_m2traceCount, .ref r_m2startedList, .int f_m2startedCount, .int f_m2present, .int f_m2quantum, .int f_m2stepsDone, .int f_m2turnSteps, .int f_m2turnMost, .int f_m2turnOver, .ref r_m2finder, .ref r_m2names, .int f_m2fault, .int f_m2wanted, .int f_m2thrown])), (ww0, .inr (9, [.ref r_w0names, .int (nI 0), .int (nI 21), .int f_w0wrongClass, .int f_w0wrongMethod, .int f_w0wrongAt, .ref r_w0rows, .ref r_w0above, .ref r_w0fields, .ref r_w0methods, .ref r_w0codes, .ref r_w0handlers, .ref r_w0extra, .ref r_w0orders, .ref r_w0classNamed, .int f_w0breaks, .ref r_w0marks])), (ww1, .inr (9, [.ref r_w1names, .int (nI 0), .int (nI 21), .int f_w1wrongClass, .int f_w1wrongMethod, .int f_w1wrongAt, .ref r_w1rows, .ref r_w1above, .ref r_w1fields, .ref r_w1methods, .ref r_w1codes, .ref r_w1handlers, .ref r_w1extra, .ref r_w1orders, .ref r_w1classNamed, .int f_w1breaks, .ref r_w1marks])), (ww2, .inr (9, [.ref r_w2names, .int (nI 0), .int (nI 21), .int f_w2wrongClass, .int f_w2wrongMethod, .int f_w2wrongAt, .ref r_w2rows, .ref r_w2above, .ref r_w2fields, .ref r_w2methods, .ref r_w2codes, .ref r_w2handlers, .ref r_w2extra, .ref r_w2orders, .ref r_w2classNamed, .int f_w2breaks, .ref r_w2marks])), (h0X, .inr (14, fsX)), (owX, .inl (g 6, 4, .inr (.inr (.inr (.inr (va_up (va_up (va_up (va_up (fun _ => none) 0 (some v0X)) 1 (some v1X)) 2 (some v2X)) 3 (some v3X))))))), (v0X, .inr (13, fw0X)), (v1X, .inr (13, fw1X)), (v2X, .inr (13, fw2X))] H) (hD : va_D A [(h0, .inr (11, [.ref r_cwords, .ref r_creader, .ref r_cchecker, .ref r_cfinder, .ref r_cwriter, .ref r_cmachines, .ref r_ctape, .int (nI 0), .int (-2), .int (nI 60000), .ref r_cstock, .ref r_csizes, .ref r_cmet, .ref r_cfound, .int (nI 0), .ref r_cdraft, .int (nI 0), .int (nI 0), .ref r_cfewestFor, .ref r_cfewestNext])), (r_cmachines, .inl (g 4, 4, .inr (.inr (.inr (.inr (va_up (va_up (va_up (va_up (fun _ => none) 0 (some mm0)) 1 (some mm1)) 2 (some mm2)) 3 (some mm3))))))), (mm0, .inr (4, [.ref ww0, .ref r_m0heap, .ref r_m0runs, .ref r_m0counts, .ref r_m0traceRow, .int f_m0traceCount, .ref r_m0startedList, .int f_m0startedCount, .int f_m0present, .int f_m0quantum, .int f_m0stepsDone, .int f_m0turnSteps, .int f_m0turnMost, .int f_m0turnOver, .ref r_m0finder, .ref r_m0names, .int f_m0fault, .int f_m0wanted, .int f_m0thrown])), (mm1, .inr (4, [.ref ww1, .ref r_m1heap, .ref r_m1runs, .ref r_m1counts, .ref r_m1traceRow, .int f_m1traceCount, .ref r_m1startedList, .int f_m1startedCount, .int f_m1present, .int f_m1quantum, .int f_m1stepsDone, .int f_m1turnSteps, .int f_m1turnMost, .int f_m1turnOver, .ref r_m1finder, .ref r_m1names, .int f_m1fault, .int f_m1wanted, .int f_m1thrown])), (mm2, .inr (4, [.ref ww2, .ref r_m2heap, .ref r_m2runs, .ref r_m2counts, .ref r_m2traceRow, .int f_m2traceCount, .ref r_m2startedList, .int f_m2startedCount, .int f_m2present, .int f_m2quantum, .int f_m2stepsDone, .int f_m2turnSteps, .int f_m2turnMost, .int f_m2turnOver, .ref r_m2finder, .ref r_m2names, .int f_m2fault, .int f_m2wanted, .int f_m2thrown])), (ww0, .inr (9, [.ref r_w0names, .int (nI 0), .int (nI 21), .int f_w0wrongClass, .int f_w0wrongMethod, .int f_w0wrongAt, .ref r_w0rows, .ref r_w0above, .ref r_w0fields, .ref r_w0methods, .ref r_w0codes, .ref r_w0handlers, .ref r_w0extra, .ref r_w0orders, .ref r_w0classNamed, .int f_w0breaks, .ref r_w0marks])), (ww1, .inr (9, [.ref r_w1names, .int (nI 0), .int (nI 21), .int f_w1wrongClass, .int f_w1wrongMethod, .int f_w1wrongAt, .ref r_w1rows, .ref r_w1above, .ref r_w1fields, .ref r_w1methods, .ref r_w1codes, .ref r_w1handlers, .ref r_w1extra, .ref r_w1orders, .ref r_w1classNamed, .int f_w1breaks, .ref r_w1marks])), (ww2, .inr (9, [.ref r_w2names, .int (nI 0), .int (nI 21), .int f_w2wrongClass, .int f_w2wrongMethod, .int f_w2wrongAt, .ref r_w2rows, .ref r_w2above, .ref r_w2fields, .ref r_w2methods, .ref r_w2codes, .ref r_w2handlers, .ref r_w2extra, .ref r_w2orders, .ref r_w2classNamed, .int f_w2breaks, .ref r_w2marks])), (h0X, .inr (14, fsX)), (owX, .inl (g 6, 4, .inr (.inr (.inr (.inr (va_up (va_up (va_up (va_up (fun _ => none) 0 (some v0X)) 1 (some v1X)) 2 (some v2X)) 3 (some v3X))))))), (v0X, .inr (13, fw0X)), (v1X, .inr (13, fw1X)), (v2X, .inr (13, fw2X))]) (hS : va_S A s.heap H locs) (hl : lv_has ls 4 [(0, .ref b), (1, .ref h0), (2, .ref h0X), (3, .int (nI 0))]) : W p l e room_1 s m #[Value.ref b] below meth c H locs 702 488194 (lw_Z below #[Value.ref b] s) (F0 m 1151 ls []) := by
  refine lv_aload_n G.1 G.2.1 d_Law_1151 rfl (lv_at hl 1 rfl) ?_
  refine lv_aload_n G.1 G.2.1 d_Law_1152 rfl (lv_at hl 0 rfl) ?_
  refine lv_iload_n G.1 G.2.1 d_Law_1153 rfl (lv_at hl 3 rfl) ?_
  refine lv_iconst (v := nI 1) G.1 G.2.1 d_Law_1154 (by decide) ?_
  refine lv_iadd G.1 G.2.1 d_Law_1155 ?_
  refine tpi (w := nI 1) (by decide) ?_
  refine va_sld G.1 G.2.1 hX hbl hbA hS (nI_inn (n := 6) (a := 1) (by decide) (by decide)) d_Law_1156 ?_
  refine tpi (w := (xs 1)) (by rw [nI_clamp (by decide)]) ?_
  refine lv_aload_n G.1 G.2.1 d_Law_1157 rfl (lv_at hl 0 rfl) ?_
  refine lv_iload_n G.1 G.2.1 d_Law_1158 rfl (lv_at hl 3 rfl) ?_
  refine lv_iconst (v := nI 2) G.1 G.2.1 d_Law_1159 (by decide) ?_
  refine lv_iadd G.1 G.2.1 d_Law_1160 ?_
  refine tpi (w := nI 2) (by decide) ?_
  refine va_sld G.1 G.2.1 hX hbl hbA hS (nI_inn (n := 6) (a := 2) (by decide) (by decide)) d_Law_1161 ?_
  refine tpi (w := (xs 2)) (by rw [nI_clamp (by decide)]) ?_
  refine W.eq (g2 := F0 m 1162 ls [.int (xs 2), .int (xs 1), .ref h0]) rfl ?_
  refine lv_aload_n G.1 G.2.1 d_Law_1162 rfl (lv_at hl 0 rfl) ?_
  refine lv_iload_n G.1 G.2.1 d_Law_1163 rfl (lv_at hl 3 rfl) ?_
  refine lv_iconst (v := nI 3) G.1 G.2.1 d_Law_1164 (by decide) ?_
  refine lv_iadd G.1 G.2.1 d_Law_1165 ?_
  refine tpi (w := nI 3) (by decide) ?_
  refine va_sld G.1 G.2.1 hX hbl hbA hS (nI_inn (n := 6) (a := 3) (by decide) (by decide)) d_Law_1166 ?_
  refine tpi (w := (xs 3)) (by rw [nI_clamp (by decide)]) ?_
  refine lv_aload_n G.1 G.2.1 d_Law_1167 rfl (lv_at hl 0 rfl) ?_
  refine lv_iload_n G.1 G.2.1 d_Law_1168 rfl (lv_at hl 3 rfl) ?_
  refine lv_iconst (v := nI 4) G.1 G.2.1 d_Law_1169 (by decide) ?_
  refine lv_iadd G.1 G.2.1 d_Law_1170 ?_
  refine tpi (w := nI 4) (by decide) ?_
  refine va_sld G.1 G.2.1 hX hbl hbA hS (nI_inn (n := 6) (a := 4) (by decide) (by decide)) d_Law_1171 ?_
  refine tpi (w := (xs 4)) (by rw [nI_clamp (by decide)]) ?_
  refine kEi (wr := [(h0X, .inr (14, fsX)), (owX, .inl (g 6, 4, .inr (.inr (.inr (.inr (va_up (va_up (va_up (va_up (fun _ => none) 0 (some v0X)) 1 (some v1X)) 2 (some v2X)) 3 (some v3X))))))), (v0X, .inr (13, fw0X)), (v1X, .inr (13, fw1X)), (v2X, .inr (13, fw2X))]) G (kV (As := [.int (xs 1), .int (xs 2), .int (xs 3), .int (xs 4)]) (rest := []) G hP hD hS [0, 1, 2, 3, 4, 5, 6, 7] rfl rfl (c_Cw_foretell l D g h0 (xs 1) (xs 2) (xs 3) (xs 4) r_cwords r_creader r_cchecker r_cfinder r_cwriter r_cmachines r_ctape r_cstock r_csizes r_cmet r_cfound r_cdraft r_cfewestFor r_cfewestNext mm0 mm1 mm2 mm3 ww0 r_m0heap r_m0runs r_m0counts r_m0traceRow f_m0traceCount r_m0startedList f_m0startedCount f_m0present f_m0quantum f_m0stepsDone f_m0turnSteps f_m0turnMost f_m0turnOver r_m0finder r_m0names f_m0fault f_m0wanted f_m0thrown ww1 r_m1heap r_m1runs r_m1counts r_m1traceRow f_m1traceCount r_m1startedList f_m1startedCount f_m1present f_m1quantum f_m1stepsDone f_m1turnSteps f_m1turnMost f_m1turnOver r_m1finder r_m1names f_m1fault f_m1wanted f_m1thrown ww2 r_m2heap r_m2runs r_m2counts r_m2traceRow f_m2traceCount r_m2startedList f_m2startedCount f_m2present f_m2quantum f_m2stepsDone f_m2turnSteps f_m2turnMost f_m2turnOver r_m2finder r_m2names f_m2fault f_m2wanted f_m2thrown r_w0names f_w0wrongClass f_w0wrongMethod f_w0wrongAt r_w0rows r_w0above r_w0fields r_w0methods r_w0codes r_w0handlers r_w0extra r_w0orders r_w0classNamed f_w0breaks r_w0marks r_w1names f_w1wrongClass f_w1wrongMethod f_w1wrongAt r_w1rows r_w1above r_w1fields r_w1methods r_w1codes r_w1handlers r_w1extra r_w1orders r_w1classNamed f_w1breaks r_w1marks r_w2names f_w2wrongClass f_w2wrongMethod f_w2wrongAt r_w2rows r_w2above r_w2fields r_w2methods r_w2codes r_w2handlers r_w2extra r_w2orders r_w2classNamed f_w2breaks r_w2marks H.size ) w_Cw_foretell q2310 rfl rfl ⟨Nat.le_of_ble_eq_true rfl, Nat.le_of_ble_eq_true rfl⟩ (fun _ h => absurd h List.not_mem_nil) 0 (ci := 11) rfl rfl rfl hl.1 rfl (Nat.le_of_ble_eq_true rfl) rfl ⟨Nat.le_of_ble_eq_true rfl, (Nat.le_of_ble_eq_true rfl)⟩ d_Law_1172) hP hD hS [0, 1, 2, 3, 4, 5, 6, 7] [8, 9, 10, 11, 12] rfl rfl rfl rfl (fun r_1 u_2 H locs hw hP hD hS hzH => ?_)
  have hw : r_1 = (-1) := hw
  have hP : va_P D CL [(h0X, .inr (14, fsX)), (owX, .inl (g 6, 4, .inr (.inr (.inr (.inr (va_up (va_up (va_up (va_up (fun _ => none) 0 (some v0X)) 1 (some v1X)) 2 (some v2X)) 3 (some v3X))))))), (v0X, .inr (13, fw0X)), (v1X, .inr (13, fw1X)), (v2X, .inr (13, fw2X))] H := hP
  have hD : va_D A [(h0X, .inr (14, fsX)), (owX, .inl (g 6, 4, .inr (.inr (.inr (.inr (va_up (va_up (va_up (va_up (fun _ => none) 0 (some v0X)) 1 (some v1X)) 2 (some v2X)) 3 (some v3X))))))), (v0X, .inr (13, fw0X)), (v1X, .inr (13, fw1X)), (v2X, .inr (13, fw2X))] := hD
  subst hw
  refine tpst (w := [.int (-1)]) rfl ?_
  refine lv_aload_n G.1 G.2.1 d_Law_1175 rfl (lv_at hl 2 rfl) ?_
  refine W.eq (g2 := F0 m 1176 ls [.ref h0X, .int (-1)]) rfl ?_
  refine lv_aload_n G.1 G.2.1 d_Law_1176 rfl (lv_at hl 0 rfl) ?_
  refine lv_iload_n G.1 G.2.1 d_Law_1177 rfl (lv_at hl 3 rfl) ?_
  refine lv_iconst (v := nI 1) G.1 G.2.1 d_Law_1178 (by decide) ?_
  refine lv_iadd G.1 G.2.1 d_Law_1179 ?_
  refine tpi (w := nI 1) (by decide) ?_
  refine va_sld G.1 G.2.1 hX hbl hbA hS (nI_inn (n := 6) (a := 1) (by decide) (by decide)) d_Law_1180 ?_
  refine tpi (w := (xs 1)) (by rw [nI_clamp (by decide)]) ?_
  refine lv_aload_n G.1 G.2.1 d_Law_1181 rfl (lv_at hl 0 rfl) ?_
  refine lv_iload_n G.1 G.2.1 d_Law_1182 rfl (lv_at hl 3 rfl) ?_
  refine lv_iconst (v := nI 2) G.1 G.2.1 d_Law_1183 (by decide) ?_
  refine lv_iadd G.1 G.2.1 d_Law_1184 ?_
  refine tpi (w := nI 2) (by decide) ?_
  refine va_sld G.1 G.2.1 hX hbl hbA hS (nI_inn (n := 6) (a := 2) (by decide) (by decide)) d_Law_1185 ?_
  refine tpi (w := (xs 2)) (by rw [nI_clamp (by decide)]) ?_
  refine lv_aload_n G.1 G.2.1 d_Law_1186 rfl (lv_at hl 0 rfl) ?_
  refine lv_iload_n G.1 G.2.1 d_Law_1187 rfl (lv_at hl 3 rfl) ?_
  refine W.eq (g2 := F0 m 1188 ls [.int (nI 0), .ref b, .int (xs 2), .int (xs 1), .ref h0X, .int (-1)]) rfl ?_
  refine lv_iconst (v := nI 3) G.1 G.2.1 d_Law_1188 (by decide) ?_
  refine lv_iadd G.1 G.2.1 d_Law_1189 ?_
  refine tpi (w := nI 3) (by decide) ?_
  refine va_sld G.1 G.2.1 hX hbl hbA hS (nI_inn (n := 6) (a := 3) (by decide) (by decide)) d_Law_1190 ?_
  refine tpi (w := (xs 3)) (by rw [nI_clamp (by decide)]) ?_
  refine lv_aload_n G.1 G.2.1 d_Law_1191 rfl (lv_at hl 0 rfl) ?_
  refine lv_iload_n G.1 G.2.1 d_Law_1192 rfl (lv_at hl 3 rfl) ?_
  refine lv_iconst (v := nI 4) G.1 G.2.1 d_Law_1193 (by decide) ?_
  refine lv_iadd G.1 G.2.1 d_Law_1194 ?_
  refine tpi (w := nI 4) (by decide) ?_
  refine va_sld G.1 G.2.1 hX hbl hbA hS (nI_inn (n := 6) (a := 4) (by decide) (by decide)) d_Law_1195 ?_
  refine tpi (w := (xs 4)) (by rw [nI_clamp (by decide)]) ?_
  refine kEi (wr := []) G (kV (As := [.int (xs 1), .int (xs 2), .int (xs 3), .int (xs 4)]) (rest := [.int (-1)]) G hP hD hS [0, 1, 2, 3, 4] rfl rfl (c_Mo_foretell l D g h0X (xs 1) (xs 2) (xs 3) (xs 4) fsX owX v0X v1X v2X v3X fw0X fw1X fw2X H.size glenX gk0X gw0X gt0X gw1X gt1X gw2X gt2X) w_Mo_foretell q4153 rfl rfl ⟨Nat.le_of_ble_eq_true rfl, Nat.le_of_ble_eq_true rfl⟩ (fun _ h => absurd h List.not_mem_nil) 0 (ci := 14) rfl rfl rfl hl.1 rfl (Nat.le_of_ble_eq_true rfl) rfl ⟨Nat.le_of_ble_eq_true rfl, (Nat.le_of_ble_eq_true rfl)⟩ d_Law_1196) hP hD hS [0, 1, 2, 3, 4] [] rfl rfl rfl rfl (fun r_3 u_4 H locs hw hP hD hS hzH => ?_)
  have hw : r_3 = (-1) := hw
  have hP : va_P D CL [] H := hP
  have hD : va_D A [] := hD
  subst hw
  refine tpst (w := [.int (-1), .int (-1)]) rfl ?_
  refine lv_icmp_eq (tgt := 1768) G.1 G.2.1 d_Law_1199 (by decide) (fun c1199 => ?_) (fun c1199 => absurd c1199 (fun h => h rfl))
  refine lv_iinc (v := nI 6) (lv' := [(3, .int (nI 6)), (0, .ref b), (1, .ref h0), (2, .ref h0X)]) G.1 G.2.1 d_Law_1768 hl (k := 3) rfl (show (nI 0) + Int32.ofInt 6 = nI 6 from by decide) (by decide) rfl (fun ls hl => ?_)
  refine lv_goto (tgt := 18) G.1 G.2.1 d_Law_1771 (by decide) ?_
  refine W.eq (g2 := F0 m 18 ls []) rfl ?_
  refine lv_iload_n G.1 G.2.1 d_Law_18 rfl (lv_at hl 0 rfl) ?_
  refine lv_aload_n G.1 G.2.1 d_Law_19 rfl (lv_at hl 1 rfl) ?_
  refine va_slen G.1 G.2.1 hX hbl hbA hS d_Law_20 ?_
  refine tpi (w := nI 6) rfl ?_
  refine lv_bipush (v := nI 6) G.1 G.2.1 d_Law_21 (by decide) ?_
  refine lv_isub G.1 G.2.1 d_Law_23 ?_
  refine tpi (w := nI 0) (by decide) ?_
  refine lv_icmp_gt (tgt := 1774) G.1 G.2.1 d_Law_24 (by decide) (fun c24 => ?_) (fun c24 => absurd c24 (by decide))
  refine lv_iconst (v := nI 1) G.1 G.2.1 d_Law_1774 (by decide) ?_
  refine va_forget (fun q hq => hAA _ (hS.2.2 q hq)) ?_
  refine W.widen (k := 600002) (n := 7302232) (Nat.le_of_ble_eq_true rfl) (Nat.le_of_ble_eq_true rfl) ?_
  exact lw_ret G.1 G.2.1 G.2.2.2.1 G.2.2.2.2.1 d_Law_1775
theorem q2330 : Cond.code y_Cw_asked b_Cw_asked 6 (some .int) ∈ lw_ok := lw_okmem (List.mem_of_getElem? (i := 2330) (by decide +kernel)) rfl
theorem q2328 : Cond.instanceMethod y_Cw_asked ∈ lw_ok := lw_okmem (List.mem_of_getElem? (i := 2328) (by decide +kernel)) rfl
theorem q2329 : Cond.selects y_Cw_asked.cls y_Cw_asked y_Cw_asked ∈ lw_ok := lw_okmem (List.mem_of_getElem? (i := 2329) (by decide +kernel)) rfl
theorem w_Cw_asked : CWv y_Cw_asked b_Cw_asked 6 (some .int) 2 ∧ Cond.instanceMethod y_Cw_asked ∈ lw_ok ∧ Cond.selects y_Cw_asked.cls y_Cw_asked y_Cw_asked ∈ lw_ok := ⟨⟨q2330, q329, by decide +kernel, by decide +kernel, by decide +kernel⟩, q2328, q2329⟩
theorem q2327 : Cond.methodLink "ClassWorksLaw" 125 y_Cw_asked ∈ lw_ok := lw_okmem (List.mem_of_getElem? (i := 2327) (by decide +kernel)) rfl
theorem q4164 : Cond.code y_Mo_asked b_Mo_asked 4 (some .int) ∈ lw_ok := lw_okmem (List.mem_of_getElem? (i := 4164) (by decide +kernel)) rfl
theorem q4162 : Cond.instanceMethod y_Mo_asked ∈ lw_ok := lw_okmem (List.mem_of_getElem? (i := 4162) (by decide +kernel)) rfl
theorem q4163 : Cond.selects y_Mo_asked.cls y_Mo_asked y_Mo_asked ∈ lw_ok := lw_okmem (List.mem_of_getElem? (i := 4163) (by decide +kernel)) rfl
theorem w_Mo_asked : CWv y_Mo_asked b_Mo_asked 4 (some .int) 2 ∧ Cond.instanceMethod y_Mo_asked ∈ lw_ok ∧ Cond.selects y_Mo_asked.cls y_Mo_asked y_Mo_asked ∈ lw_ok := ⟨⟨q4164, q348, by decide +kernel, by decide +kernel, by decide +kernel⟩, q4162, q4163⟩
theorem q4161 : Cond.methodLink "ClassWorksLaw" 128 y_Mo_asked ∈ lw_ok := lw_okmem (List.mem_of_getElem? (i := 4161) (by decide +kernel)) rfl
theorem d_Law_1204 : decode code 1204 = .ok (.aload_n 1, 1) := by decide +kernel
theorem d_Law_1205 : decode code 1205 = .ok (.aload_n 0, 1) := by decide +kernel
theorem d_Law_1206 : decode code 1206 = .ok (.iload_n 3, 1) := by decide +kernel
theorem d_Law_1207 : decode code 1207 = .ok (.iconst 1, 1) := by decide +kernel
theorem d_Law_1208 : decode code 1208 = .ok (.iadd, 1) := by decide +kernel
theorem d_Law_1209 : decode code 1209 = .ok (.iaload, 1) := by decide +kernel
theorem d_Law_1210 : decode code 1210 = .ok (.aload_n 0, 1) := by decide +kernel
theorem d_Law_1211 : decode code 1211 = .ok (.iload_n 3, 1) := by decide +kernel
theorem d_Law_1212 : decode code 1212 = .ok (.iconst 2, 1) := by decide +kernel
theorem d_Law_1213 : decode code 1213 = .ok (.iadd, 1) := by decide +kernel
theorem d_Law_1214 : decode code 1214 = .ok (.iaload, 1) := by decide +kernel
theorem d_Law_1215 : decode code 1215 = .ok (.invokevirtual 125, 3) := by decide +kernel
theorem d_Law_1218 : decode code 1218 = .ok (.aload_n 2, 1) := by decide +kernel
theorem d_Law_1219 : decode code 1219 = .ok (.aload_n 0, 1) := by decide +kernel
theorem d_Law_1220 : decode code 1220 = .ok (.iload_n 3, 1) := by decide +kernel
theorem d_Law_1221 : decode code 1221 = .ok (.iconst 1, 1) := by decide +kernel
theorem d_Law_1222 : decode code 1222 = .ok (.iadd, 1) := by decide +kernel
theorem d_Law_1223 : decode code 1223 = .ok (.iaload, 1) := by decide +kernel
theorem d_Law_1224 : decode code 1224 = .ok (.aload_n 0, 1) := by decide +kernel
theorem d_Law_1225 : decode code 1225 = .ok (.iload_n 3, 1) := by decide +kernel
theorem d_Law_1226 : decode code 1226 = .ok (.iconst 2, 1) := by decide +kernel
theorem d_Law_1227 : decode code 1227 = .ok (.iadd, 1) := by decide +kernel
theorem d_Law_1228 : decode code 1228 = .ok (.iaload, 1) := by decide +kernel
theorem d_Law_1229 : decode code 1229 = .ok (.invokevirtual 128, 3) := by decide +kernel
theorem d_Law_1232 : decode code 1232 = .ok (.if_icmp .eq 536, 3) := by decide +kernel
set_option maxHeartbeats 4000000 in
set_option maxRecDepth 100000 in
theorem law_asked {p : Program} {e : Env} {s : State} {m : MethodId} {below : List Frame} {meth : Method} {c : Code} {l : Launch} {D : va_G} {g : Nat → ClassId} {sl : List SL} {b : Nat} {xs : Nat → Int32} {A : Nat → Prop} (h0 : Nat) (r_cwords : Nat) (r_creader : Nat) (r_cchecker : Nat) (r_cfinder : Nat) (r_cwriter : Nat) (r_cmachines : Nat) (r_ctape : Nat) (r_cstock : Nat) (r_csizes : Nat) (r_cmet : Nat) (r_cfound : Nat) (r_cdraft : Nat) (r_cfewestFor : Nat) (r_cfewestNext : Nat) (mm0 : Nat) (mm1 : Nat) (mm2 : Nat) (mm3 : Nat) (ww0 : Nat) (r_m0heap : Nat) (r_m0runs : Nat) (r_m0counts : Nat) (r_m0traceRow : Nat) (f_m0traceCount : Int32) (r_m0startedList : Nat) (f_m0startedCount : Int32) (f_m0present : Int32) (f_m0quantum : Int32) (f_m0stepsDone : Int32) (f_m0turnSteps : Int32) (f_m0turnMost : Int32) (f_m0turnOver : Int32) (r_m0finder : Nat) (r_m0names : Nat) (f_m0fault : Int32) (f_m0wanted : Int32) (f_m0thrown : Int32) (ww1 : Nat) (r_m1heap : Nat) (r_m1runs : Nat) (r_m1counts : Nat) (r_m1traceRow : Nat) (f_m1traceCount : Int32) (r_m1startedList : Nat) (f_m1startedCount : Int32) (f_m1present : Int32) (f_m1quantum : Int32) (f_m1stepsDone : Int32) (f_m1turnSteps : Int32) (f_m1turnMost : Int32) (f_m1turnOver : Int32) (r_m1finder : Nat) (r_m1names : Nat) (f_m1fault : Int32) (f_m1wanted : Int32) (f_m1thrown : Int32) (ww2 : Nat) (r_m2heap : Nat) (r_m2runs : Nat) (r_m2counts : Nat) (r_m2traceRow : Nat) (f_m2traceCount : Int32) (r_m2startedList : Nat) (f_m2startedCount : Int32) (f_m2present : Int32) (f_m2quantum : Int32) (f_m2stepsDone : Int32) (f_m2turnSteps : Int32) (f_m2turnMost : Int32) (f_m2turnOver : Int32) (r_m2finder : Nat) (r_m2names : Nat) (f_m2fault : Int32) (f_m2wanted : Int32) (f_m2thrown : Int32) (r_w0names : Nat) (f_w0wrongClass : Int32) (f_w0wrongMethod : Int32) (f_w0wrongAt : Int32) (r_w0rows : Nat) (r_w0above : Nat) (r_w0fields : Nat) (r_w0methods : Nat) (r_w0codes : Nat) (r_w0handlers : Nat) (r_w0extra : Nat) (r_w0orders : Nat) (r_w0classNamed : Nat) (f_w0breaks : Int32) (r_w0marks : Nat) (r_w1names : Nat) (f_w1wrongClass : Int32) (f_w1wrongMethod : Int32) (f_w1wrongAt : Int32) (r_w1rows : Nat) (r_w1above : Nat) (r_w1fields : Nat) (r_w1methods : Nat) (r_w1codes : Nat) (r_w1handlers : Nat) (r_w1extra : Nat) (r_w1orders : Nat) (r_w1classNamed : Nat) (f_w1breaks : Int32) (r_w1marks : Nat) (r_w2names : Nat) (f_w2wrongClass : Int32) (f_w2wrongMethod : Int32) (f_w2wrongAt : Int32) (r_w2rows : Nat) (r_w2above : Nat) (r_w2fields : Nat) (r_w2methods : Nat) (r_w2codes : Nat) (r_w2handlers : Nat) (r_w2extra : Nat) (r_w2orders : Nat) (r_w2classNamed : Nat) (f_w2breaks : Int32) (r_w2marks : Nat) (h0X : Nat) (fsX : List Value) (owX : Nat) (v0X : Nat) (v1X : Nat) (v2X : Nat) (v3X : Nat) (fw0X : List Value) (fw1X : List Value) (fw2X : List Value) (G : GV l p s m #[Value.ref b] meth c (⟨"ClassWorksLaw", meth.name, ""⟩ : MethodName) code 4 ret g D sl A) (hX : va_X b 6 xs s s.heap) (hbl : b < s.heap.size) (hbA : ¬ A b) (hAA : ∀ q, A q → s.heap.size ≤ q) {H : Heap} {locs : List Loc} {ls : Array Slot} (glenX : fsX.length = 131) (gk0X : fsX[44]? = some (.ref owX)) (gw0X : fw0X.length = 72) (gt0X : fw0X[0]? = some (.int (nI 0))) (gw1X : fw1X.length = 72) (gt1X : fw1X[0]? = some (.int (nI 0))) (gw2X : fw2X.length = 72) (gt2X : fw2X[0]? = some (.int (nI 0))) (hP : va_P D CL [(h0, .inr (11, [.ref r_cwords, .ref r_creader, .ref r_cchecker, .ref r_cfinder, .ref r_cwriter, .ref r_cmachines, .ref r_ctape, .int (nI 0), .int (-2), .int (nI 60000), .ref r_cstock, .ref r_csizes, .ref r_cmet, .ref r_cfound, .int (nI 0), .ref r_cdraft, .int (nI 0), .int (nI 0), .ref r_cfewestFor, .ref r_cfewestNext])), (r_cmachines, .inl (g 4, 4, .inr (.inr (.inr (.inr (va_up (va_up (va_up (va_up (fun _ => none) 0 (some mm0)) 1 (some mm1)) 2 (some mm2)) 3 (some mm3))))))), (mm0, .inr (4, [.ref ww0, .ref r_m0heap, .ref r_m0runs, .ref r_m0counts, .ref r_m0traceRow, .int f_m0traceCount, .ref r_m0startedList, .int f_m0startedCount, .int f_m0present, .int f_m0quantum, .int f_m0stepsDone, .int f_m0turnSteps, .int f_m0turnMost, .int f_m0turnOver, .ref r_m0finder, .ref r_m0names, .int f_m0fault, .int f_m0wanted, .int f_m0thrown])), (mm1, .inr (4, [.ref ww1, .ref r_m1heap, .ref r_m1runs, .ref r_m1counts, .ref r_m1traceRow, .int f_m1traceCount, .ref r_m1startedList, .int f_m1startedCount, .int f_m1present, .int f_m1quantum, .int f_m1stepsDone, .int f_m1turnSteps, .int f_m1turnMost, .int f_m1turnOver, .ref r_m1finder, .ref r_m1names, .int f_m1fault, .int f_m1wanted, .int f_m1thrown])), (mm2, .inr (4, [.ref ww2, .ref r_m2heap, .ref r_m2runs, .ref r_m2counts, .ref r_m2traceRow, .int f_m2traceCount, .ref r_m2startedList, .int f_m2startedCount, .int f_m2present, .int f_m2quantum, .int f_m2stepsDone, .int f_m2turnSteps, .int f_m2turnMost, .int f_m2turnOver, .ref r_m2finder, .ref r_m2names, .int f_m2fault, .int f_m2wanted, .int f_m2thrown])), (ww0, .inr (9, [.ref r_w0names, .int (nI 0), .int (nI 21), .int f_w0wrongClass, .int f_w0wrongMethod, .int f_w0wrongAt, .ref r_w0rows, .ref r_w0above, .ref r_w0fields, .ref r_w0methods, .ref r_w0codes, .ref r_w0handlers, .ref r_w0extra, .ref r_w0orders, .ref r_w0classNamed, .int f_w0breaks, .ref r_w0marks])), (ww1, .inr (9, [.ref r_w1names, .int (nI 0), .int (nI 21), .int f_w1wrongClass, .int f_w1wrongMethod, .int f_w1wrongAt, .ref r_w1rows, .ref r_w1above, .ref r_w1fields, .ref r_w1methods, .ref r_w1codes, .ref r_w1handlers, .ref r_w1extra, .ref r_w1orders, .ref r_w1classNamed, .int f_w1breaks, .ref r_w1marks])), (ww2, .inr (9, [.ref r_w2names, .int (nI 0), .int (nI 21), .int f_w2wrongClass, .int f_w2wrongMethod, .int f_w2wrongAt, .ref r_w2rows, .ref r_w2above, .ref r_w2fields, .ref r_w2methods, .ref r_w2codes, .ref r_w2handlers, .ref r_w2extra, .ref r_w2orders, .ref r_w2classNamed, .int f_w2breaks, .ref r_w2marks])), (h0X, .inr (14, fsX)), (owX, .inl (g 6, 4, .inr (.inr (.inr (.inr (va_up (va_up (va_up (va_up (fun _ => none) 0 (some v0X)) 1 (some v1X)) 2 (some v2X)) 3 (some v3X))))))), (v0X, .inr (13, fw0X)), (v1X, .inr (13, fw1X)), (v2X, .inr (13, fw2X))] H) (hD : va_D A [(h0, .inr (11, [.ref r_cwords, .ref r_creader, .ref r_cchecker, .ref r_cfinder, .ref r_cwriter, .ref r_cmachines, .ref r_ctape, .int (nI 0), .int (-2), .int (nI 60000), .ref r_cstock, .ref r_csizes, .ref r_cmet, .ref r_cfound, .int (nI 0), .ref r_cdraft, .int (nI 0), .int (nI 0), .ref r_cfewestFor, .ref r_cfewestNext])), (r_cmachines, .inl (g 4, 4, .inr (.inr (.inr (.inr (va_up (va_up (va_up (va_up (fun _ => none) 0 (some mm0)) 1 (some mm1)) 2 (some mm2)) 3 (some mm3))))))), (mm0, .inr (4, [.ref ww0, .ref r_m0heap, .ref r_m0runs, .ref r_m0counts, .ref r_m0traceRow, .int f_m0traceCount, .ref r_m0startedList, .int f_m0startedCount, .int f_m0present, .int f_m0quantum, .int f_m0stepsDone, .int f_m0turnSteps, .int f_m0turnMost, .int f_m0turnOver, .ref r_m0finder, .ref r_m0names, .int f_m0fault, .int f_m0wanted, .int f_m0thrown])), (mm1, .inr (4, [.ref ww1, .ref r_m1heap, .ref r_m1runs, .ref r_m1counts, .ref r_m1traceRow, .int f_m1traceCount, .ref r_m1startedList, .int f_m1startedCount, .int f_m1present, .int f_m1quantum, .int f_m1stepsDone, .int f_m1turnSteps, .int f_m1turnMost, .int f_m1turnOver, .ref r_m1finder, .ref r_m1names, .int f_m1fault, .int f_m1wanted, .int f_m1thrown])), (mm2, .inr (4, [.ref ww2, .ref r_m2heap, .ref r_m2runs, .ref r_m2counts, .ref r_m2traceRow, .int f_m2traceCount, .ref r_m2startedList, .int f_m2startedCount, .int f_m2present, .int f_m2quantum, .int f_m2stepsDone, .int f_m2turnSteps, .int f_m2turnMost, .int f_m2turnOver, .ref r_m2finder, .ref r_m2names, .int f_m2fault, .int f_m2wanted, .int f_m2thrown])), (ww0, .inr (9, [.ref r_w0names, .int (nI 0), .int (nI 21), .int f_w0wrongClass, .int f_w0wrongMethod, .int f_w0wrongAt, .ref r_w0rows, .ref r_w0above, .ref r_w0fields, .ref r_w0methods, .ref r_w0codes, .ref r_w0handlers, .ref r_w0extra, .ref r_w0orders, .ref r_w0classNamed, .int f_w0breaks, .ref r_w0marks])), (ww1, .inr (9, [.ref r_w1names, .int (nI 0), .int (nI 21), .int f_w1wrongClass, .int f_w1wrongMethod, .int f_w1wrongAt, .ref r_w1rows, .ref r_w1above, .ref r_w1fields, .ref r_w1methods, .ref r_w1codes, .ref r_w1handlers, .ref r_w1extra, .ref r_w1orders, .ref r_w1classNamed, .int f_w1breaks, .ref r_w1marks])), (ww2, .inr (9, [.ref r_w2names, .int (nI 0), .int (nI 21), .int f_w2wrongClass, .int f_w2wrongMethod, .int f_w2wrongAt, .ref r_w2rows, .ref r_w2above, .ref r_w2fields, .ref r_w2methods, .ref r_w2codes, .ref r_w2handlers, .ref r_w2extra, .ref r_w2orders, .ref r_w2classNamed, .int f_w2breaks, .ref r_w2marks])), (h0X, .inr (14, fsX)), (owX, .inl (g 6, 4, .inr (.inr (.inr (.inr (va_up (va_up (va_up (va_up (fun _ => none) 0 (some v0X)) 1 (some v1X)) 2 (some v2X)) 3 (some v3X))))))), (v0X, .inr (13, fw0X)), (v1X, .inr (13, fw1X)), (v2X, .inr (13, fw2X))]) (hS : va_S A s.heap H locs) (hl : lv_has ls 4 [(0, .ref b), (1, .ref h0), (2, .ref h0X), (3, .int (nI 0))]) : W p l e room_1 s m #[Value.ref b] below meth c H locs 702 488194 (lw_Z below #[Value.ref b] s) (F0 m 1204 ls []) := by
  refine lv_aload_n G.1 G.2.1 d_Law_1204 rfl (lv_at hl 1 rfl) ?_
  refine lv_aload_n G.1 G.2.1 d_Law_1205 rfl (lv_at hl 0 rfl) ?_
  refine lv_iload_n G.1 G.2.1 d_Law_1206 rfl (lv_at hl 3 rfl) ?_
  refine lv_iconst (v := nI 1) G.1 G.2.1 d_Law_1207 (by decide) ?_
  refine lv_iadd G.1 G.2.1 d_Law_1208 ?_
  refine tpi (w := nI 1) (by decide) ?_
  refine va_sld G.1 G.2.1 hX hbl hbA hS (nI_inn (n := 6) (a := 1) (by decide) (by decide)) d_Law_1209 ?_
  refine tpi (w := (xs 1)) (by rw [nI_clamp (by decide)]) ?_
  refine lv_aload_n G.1 G.2.1 d_Law_1210 rfl (lv_at hl 0 rfl) ?_
  refine lv_iload_n G.1 G.2.1 d_Law_1211 rfl (lv_at hl 3 rfl) ?_
  refine lv_iconst (v := nI 2) G.1 G.2.1 d_Law_1212 (by decide) ?_
  refine lv_iadd G.1 G.2.1 d_Law_1213 ?_
  refine tpi (w := nI 2) (by decide) ?_
  refine va_sld G.1 G.2.1 hX hbl hbA hS (nI_inn (n := 6) (a := 2) (by decide) (by decide)) d_Law_1214 ?_
  refine tpi (w := (xs 2)) (by rw [nI_clamp (by decide)]) ?_
  refine W.eq (g2 := F0 m 1215 ls [.int (xs 2), .int (xs 1), .ref h0]) rfl ?_
  refine kEi (wr := [(h0X, .inr (14, fsX)), (owX, .inl (g 6, 4, .inr (.inr (.inr (.inr (va_up (va_up (va_up (va_up (fun _ => none) 0 (some v0X)) 1 (some v1X)) 2 (some v2X)) 3 (some v3X))))))), (v0X, .inr (13, fw0X)), (v1X, .inr (13, fw1X)), (v2X, .inr (13, fw2X))]) G (kV (As := [.int (xs 1), .int (xs 2)]) (rest := []) G hP hD hS [0, 1, 2, 3, 4, 5, 6, 7] rfl rfl (c_Cw_asked l D g h0 (xs 1) (xs 2) r_cwords r_creader r_cchecker r_cfinder r_cwriter r_cmachines r_ctape r_cstock r_csizes r_cmet r_cfound r_cdraft r_cfewestFor r_cfewestNext mm0 mm1 mm2 mm3 ww0 r_m0heap r_m0runs r_m0counts r_m0traceRow f_m0traceCount r_m0startedList f_m0startedCount f_m0present f_m0quantum f_m0stepsDone f_m0turnSteps f_m0turnMost f_m0turnOver r_m0finder r_m0names f_m0fault f_m0wanted f_m0thrown ww1 r_m1heap r_m1runs r_m1counts r_m1traceRow f_m1traceCount r_m1startedList f_m1startedCount f_m1present f_m1quantum f_m1stepsDone f_m1turnSteps f_m1turnMost f_m1turnOver r_m1finder r_m1names f_m1fault f_m1wanted f_m1thrown ww2 r_m2heap r_m2runs r_m2counts r_m2traceRow f_m2traceCount r_m2startedList f_m2startedCount f_m2present f_m2quantum f_m2stepsDone f_m2turnSteps f_m2turnMost f_m2turnOver r_m2finder r_m2names f_m2fault f_m2wanted f_m2thrown r_w0names f_w0wrongClass f_w0wrongMethod f_w0wrongAt r_w0rows r_w0above r_w0fields r_w0methods r_w0codes r_w0handlers r_w0extra r_w0orders r_w0classNamed f_w0breaks r_w0marks r_w1names f_w1wrongClass f_w1wrongMethod f_w1wrongAt r_w1rows r_w1above r_w1fields r_w1methods r_w1codes r_w1handlers r_w1extra r_w1orders r_w1classNamed f_w1breaks r_w1marks r_w2names f_w2wrongClass f_w2wrongMethod f_w2wrongAt r_w2rows r_w2above r_w2fields r_w2methods r_w2codes r_w2handlers r_w2extra r_w2orders r_w2classNamed f_w2breaks r_w2marks H.size ) w_Cw_asked q2327 rfl rfl ⟨Nat.le_of_ble_eq_true rfl, Nat.le_of_ble_eq_true rfl⟩ (fun _ h => absurd h List.not_mem_nil) 0 (ci := 11) rfl rfl rfl hl.1 rfl (Nat.le_of_ble_eq_true rfl) rfl ⟨Nat.le_of_ble_eq_true rfl, (Nat.le_of_ble_eq_true rfl)⟩ d_Law_1215) hP hD hS [0, 1, 2, 3, 4, 5, 6, 7] [8, 9, 10, 11, 12] rfl rfl rfl rfl (fun r_1 u_2 H locs hw hP hD hS hzH => ?_)
  have hw : r_1 = (-1) := hw
  have hP : va_P D CL [(h0X, .inr (14, fsX)), (owX, .inl (g 6, 4, .inr (.inr (.inr (.inr (va_up (va_up (va_up (va_up (fun _ => none) 0 (some v0X)) 1 (some v1X)) 2 (some v2X)) 3 (some v3X))))))), (v0X, .inr (13, fw0X)), (v1X, .inr (13, fw1X)), (v2X, .inr (13, fw2X))] H := hP
  have hD : va_D A [(h0X, .inr (14, fsX)), (owX, .inl (g 6, 4, .inr (.inr (.inr (.inr (va_up (va_up (va_up (va_up (fun _ => none) 0 (some v0X)) 1 (some v1X)) 2 (some v2X)) 3 (some v3X))))))), (v0X, .inr (13, fw0X)), (v1X, .inr (13, fw1X)), (v2X, .inr (13, fw2X))] := hD
  subst hw
  refine tpst (w := [.int (-1)]) rfl ?_
  refine lv_aload_n G.1 G.2.1 d_Law_1218 rfl (lv_at hl 2 rfl) ?_
  refine lv_aload_n G.1 G.2.1 d_Law_1219 rfl (lv_at hl 0 rfl) ?_
  refine lv_iload_n G.1 G.2.1 d_Law_1220 rfl (lv_at hl 3 rfl) ?_
  refine lv_iconst (v := nI 1) G.1 G.2.1 d_Law_1221 (by decide) ?_
  refine lv_iadd G.1 G.2.1 d_Law_1222 ?_
  refine tpi (w := nI 1) (by decide) ?_
  refine va_sld G.1 G.2.1 hX hbl hbA hS (nI_inn (n := 6) (a := 1) (by decide) (by decide)) d_Law_1223 ?_
  refine tpi (w := (xs 1)) (by rw [nI_clamp (by decide)]) ?_
  refine lv_aload_n G.1 G.2.1 d_Law_1224 rfl (lv_at hl 0 rfl) ?_
  refine lv_iload_n G.1 G.2.1 d_Law_1225 rfl (lv_at hl 3 rfl) ?_
  refine lv_iconst (v := nI 2) G.1 G.2.1 d_Law_1226 (by decide) ?_
  refine lv_iadd G.1 G.2.1 d_Law_1227 ?_
  refine tpi (w := nI 2) (by decide) ?_
  refine va_sld G.1 G.2.1 hX hbl hbA hS (nI_inn (n := 6) (a := 2) (by decide) (by decide)) d_Law_1228 ?_
  refine tpi (w := (xs 2)) (by rw [nI_clamp (by decide)]) ?_
  refine W.eq (g2 := F0 m 1229 ls [.int (xs 2), .int (xs 1), .ref h0X, .int (-1)]) rfl ?_
  refine kEi (wr := []) G (kV (As := [.int (xs 1), .int (xs 2)]) (rest := [.int (-1)]) G hP hD hS [0, 1, 2, 3, 4] rfl rfl (c_Mo_asked l D g h0X (xs 1) (xs 2) fsX owX v0X v1X v2X v3X fw0X fw1X fw2X H.size glenX gk0X gw0X gt0X gw1X gt1X gw2X gt2X) w_Mo_asked q4161 rfl rfl ⟨Nat.le_of_ble_eq_true rfl, Nat.le_of_ble_eq_true rfl⟩ (fun _ h => absurd h List.not_mem_nil) 0 (ci := 14) rfl rfl rfl hl.1 rfl (Nat.le_of_ble_eq_true rfl) rfl ⟨Nat.le_of_ble_eq_true rfl, (Nat.le_of_ble_eq_true rfl)⟩ d_Law_1229) hP hD hS [0, 1, 2, 3, 4] [] rfl rfl rfl rfl (fun r_3 u_4 H locs hw hP hD hS hzH => ?_)
  have hw : r_3 = (-1) := hw
  have hP : va_P D CL [] H := hP
  have hD : va_D A [] := hD
  subst hw
  refine tpst (w := [.int (-1), .int (-1)]) rfl ?_
  refine lv_icmp_eq (tgt := 1768) G.1 G.2.1 d_Law_1232 (by decide) (fun c1232 => ?_) (fun c1232 => absurd c1232 (fun h => h rfl))
  refine lv_iinc (v := nI 6) (lv' := [(3, .int (nI 6)), (0, .ref b), (1, .ref h0), (2, .ref h0X)]) G.1 G.2.1 d_Law_1768 hl (k := 3) rfl (show (nI 0) + Int32.ofInt 6 = nI 6 from by decide) (by decide) rfl (fun ls hl => ?_)
  refine lv_goto (tgt := 18) G.1 G.2.1 d_Law_1771 (by decide) ?_
  refine lv_iload_n G.1 G.2.1 d_Law_18 rfl (lv_at hl 0 rfl) ?_
  refine lv_aload_n G.1 G.2.1 d_Law_19 rfl (lv_at hl 1 rfl) ?_
  refine va_slen G.1 G.2.1 hX hbl hbA hS d_Law_20 ?_
  refine tpi (w := nI 6) rfl ?_
  refine lv_bipush (v := nI 6) G.1 G.2.1 d_Law_21 (by decide) ?_
  refine lv_isub G.1 G.2.1 d_Law_23 ?_
  refine tpi (w := nI 0) (by decide) ?_
  refine lv_icmp_gt (tgt := 1774) G.1 G.2.1 d_Law_24 (by decide) (fun c24 => ?_) (fun c24 => absurd c24 (by decide))
  refine lv_iconst (v := nI 1) G.1 G.2.1 d_Law_1774 (by decide) ?_
  refine va_forget (fun q hq => hAA _ (hS.2.2 q hq)) ?_
  refine W.widen (k := 600002) (n := 7302232) (Nat.le_of_ble_eq_true rfl) (Nat.le_of_ble_eq_true rfl) ?_
  exact lw_ret G.1 G.2.1 G.2.2.2.1 G.2.2.2.2.1 d_Law_1775
theorem q2344 : Cond.code y_Cw_trace b_Cw_trace 5 (some .int) ∈ lw_ok := lw_okmem (List.mem_of_getElem? (i := 2344) (by decide +kernel)) rfl
theorem q2342 : Cond.instanceMethod y_Cw_trace ∈ lw_ok := lw_okmem (List.mem_of_getElem? (i := 2342) (by decide +kernel)) rfl
theorem q2343 : Cond.selects y_Cw_trace.cls y_Cw_trace y_Cw_trace ∈ lw_ok := lw_okmem (List.mem_of_getElem? (i := 2343) (by decide +kernel)) rfl
theorem w_Cw_trace : CWv y_Cw_trace b_Cw_trace 5 (some .int) 3 ∧ Cond.instanceMethod y_Cw_trace ∈ lw_ok ∧ Cond.selects y_Cw_trace.cls y_Cw_trace y_Cw_trace ∈ lw_ok := ⟨⟨q2344, q329, by decide +kernel, by decide +kernel, by decide +kernel⟩, q2342, q2343⟩
theorem q2341 : Cond.methodLink "ClassWorksLaw" 129 y_Cw_trace ∈ lw_ok := lw_okmem (List.mem_of_getElem? (i := 2341) (by decide +kernel)) rfl
theorem q4207 : Cond.code y_Mo_trace b_Mo_trace 6 (some .int) ∈ lw_ok := lw_okmem (List.mem_of_getElem? (i := 4207) (by decide +kernel)) rfl
theorem q4205 : Cond.instanceMethod y_Mo_trace ∈ lw_ok := lw_okmem (List.mem_of_getElem? (i := 4205) (by decide +kernel)) rfl
theorem q4206 : Cond.selects y_Mo_trace.cls y_Mo_trace y_Mo_trace ∈ lw_ok := lw_okmem (List.mem_of_getElem? (i := 4206) (by decide +kernel)) rfl
theorem w_Mo_trace : CWv y_Mo_trace b_Mo_trace 6 (some .int) 3 ∧ Cond.instanceMethod y_Mo_trace ∈ lw_ok ∧ Cond.selects y_Mo_trace.cls y_Mo_trace y_Mo_trace ∈ lw_ok := ⟨⟨q4207, q348, by decide +kernel, by decide +kernel, by decide +kernel⟩, q4205, q4206⟩
theorem q4204 : Cond.methodLink "ClassWorksLaw" 132 y_Mo_trace ∈ lw_ok := lw_okmem (List.mem_of_getElem? (i := 4204) (by decide +kernel)) rfl
theorem d_Law_1237 : decode code 1237 = .ok (.aload_n 1, 1) := by decide +kernel
theorem d_Law_1238 : decode code 1238 = .ok (.aload_n 0, 1) := by decide +kernel
theorem d_Law_1239 : decode code 1239 = .ok (.iload_n 3, 1) := by decide +kernel
theorem d_Law_1240 : decode code 1240 = .ok (.iconst 1, 1) := by decide +kernel
theorem d_Law_1241 : decode code 1241 = .ok (.iadd, 1) := by decide +kernel
theorem d_Law_1242 : decode code 1242 = .ok (.iaload, 1) := by decide +kernel
theorem d_Law_1243 : decode code 1243 = .ok (.aload_n 0, 1) := by decide +kernel
theorem d_Law_1244 : decode code 1244 = .ok (.iload_n 3, 1) := by decide +kernel
theorem d_Law_1245 : decode code 1245 = .ok (.iconst 2, 1) := by decide +kernel
theorem d_Law_1246 : decode code 1246 = .ok (.iadd, 1) := by decide +kernel
theorem d_Law_1247 : decode code 1247 = .ok (.iaload, 1) := by decide +kernel
theorem d_Law_1248 : decode code 1248 = .ok (.aload_n 0, 1) := by decide +kernel
theorem d_Law_1249 : decode code 1249 = .ok (.iload_n 3, 1) := by decide +kernel
theorem d_Law_1250 : decode code 1250 = .ok (.iconst 3, 1) := by decide +kernel
theorem d_Law_1251 : decode code 1251 = .ok (.iadd, 1) := by decide +kernel
theorem d_Law_1252 : decode code 1252 = .ok (.iaload, 1) := by decide +kernel
theorem d_Law_1253 : decode code 1253 = .ok (.invokevirtual 129, 3) := by decide +kernel
theorem d_Law_1256 : decode code 1256 = .ok (.aload_n 2, 1) := by decide +kernel
theorem d_Law_1257 : decode code 1257 = .ok (.aload_n 0, 1) := by decide +kernel
theorem d_Law_1258 : decode code 1258 = .ok (.iload_n 3, 1) := by decide +kernel
theorem d_Law_1259 : decode code 1259 = .ok (.iconst 1, 1) := by decide +kernel
theorem d_Law_1260 : decode code 1260 = .ok (.iadd, 1) := by decide +kernel
theorem d_Law_1261 : decode code 1261 = .ok (.iaload, 1) := by decide +kernel
theorem d_Law_1262 : decode code 1262 = .ok (.aload_n 0, 1) := by decide +kernel
theorem d_Law_1263 : decode code 1263 = .ok (.iload_n 3, 1) := by decide +kernel
theorem d_Law_1264 : decode code 1264 = .ok (.iconst 2, 1) := by decide +kernel
theorem d_Law_1265 : decode code 1265 = .ok (.iadd, 1) := by decide +kernel
theorem d_Law_1266 : decode code 1266 = .ok (.iaload, 1) := by decide +kernel
theorem d_Law_1267 : decode code 1267 = .ok (.aload_n 0, 1) := by decide +kernel
theorem d_Law_1268 : decode code 1268 = .ok (.iload_n 3, 1) := by decide +kernel
theorem d_Law_1269 : decode code 1269 = .ok (.iconst 3, 1) := by decide +kernel
theorem d_Law_1270 : decode code 1270 = .ok (.iadd, 1) := by decide +kernel
theorem d_Law_1271 : decode code 1271 = .ok (.iaload, 1) := by decide +kernel
theorem d_Law_1272 : decode code 1272 = .ok (.invokevirtual 132, 3) := by decide +kernel
theorem d_Law_1275 : decode code 1275 = .ok (.if_icmp .eq 493, 3) := by decide +kernel
set_option maxHeartbeats 4000000 in
set_option maxRecDepth 100000 in
theorem law_trace {p : Program} {e : Env} {s : State} {m : MethodId} {below : List Frame} {meth : Method} {c : Code} {l : Launch} {D : va_G} {g : Nat → ClassId} {sl : List SL} {b : Nat} {xs : Nat → Int32} {A : Nat → Prop} (h0 : Nat) (r_cwords : Nat) (r_creader : Nat) (r_cchecker : Nat) (r_cfinder : Nat) (r_cwriter : Nat) (r_cmachines : Nat) (r_ctape : Nat) (r_cstock : Nat) (r_csizes : Nat) (r_cmet : Nat) (r_cfound : Nat) (r_cdraft : Nat) (r_cfewestFor : Nat) (r_cfewestNext : Nat) (mm0 : Nat) (mm1 : Nat) (mm2 : Nat) (mm3 : Nat) (ww0 : Nat) (r_m0heap : Nat) (r_m0runs : Nat) (r_m0counts : Nat) (r_m0traceRow : Nat) (f_m0traceCount : Int32) (r_m0startedList : Nat) (f_m0startedCount : Int32) (f_m0present : Int32) (f_m0quantum : Int32) (f_m0stepsDone : Int32) (f_m0turnSteps : Int32) (f_m0turnMost : Int32) (f_m0turnOver : Int32) (r_m0finder : Nat) (r_m0names : Nat) (f_m0fault : Int32) (f_m0wanted : Int32) (f_m0thrown : Int32) (ww1 : Nat) (r_m1heap : Nat) (r_m1runs : Nat) (r_m1counts : Nat) (r_m1traceRow : Nat) (f_m1traceCount : Int32) (r_m1startedList : Nat) (f_m1startedCount : Int32) (f_m1present : Int32) (f_m1quantum : Int32) (f_m1stepsDone : Int32) (f_m1turnSteps : Int32) (f_m1turnMost : Int32) (f_m1turnOver : Int32) (r_m1finder : Nat) (r_m1names : Nat) (f_m1fault : Int32) (f_m1wanted : Int32) (f_m1thrown : Int32) (ww2 : Nat) (r_m2heap : Nat) (r_m2runs : Nat) (r_m2counts : Nat) (r_m2traceRow : Nat) (f_m2traceCount : Int32) (r_m2startedList : Nat) (f_m2startedCount : Int32) (f_m2present : Int32) (f_m2quantum : Int32) (f_m2stepsDone : Int32) (f_m2turnSteps : Int32) (f_m2turnMost : Int32) (f_m2turnOver : Int32) (r_m2finder : Nat) (r_m2names : Nat) (f_m2fault : Int32) (f_m2wanted : Int32) (f_m2thrown : Int32) (r_w0names : Nat) (f_w0wrongClass : Int32) (f_w0wrongMethod : Int32) (f_w0wrongAt : Int32) (r_w0rows : Nat) (r_w0above : Nat) (r_w0fields : Nat) (r_w0methods : Nat) (r_w0codes : Nat) (r_w0handlers : Nat) (r_w0extra : Nat) (r_w0orders : Nat) (r_w0classNamed : Nat) (f_w0breaks : Int32) (r_w0marks : Nat) (r_w1names : Nat) (f_w1wrongClass : Int32) (f_w1wrongMethod : Int32) (f_w1wrongAt : Int32) (r_w1rows : Nat) (r_w1above : Nat) (r_w1fields : Nat) (r_w1methods : Nat) (r_w1codes : Nat) (r_w1handlers : Nat) (r_w1extra : Nat) (r_w1orders : Nat) (r_w1classNamed : Nat) (f_w1breaks : Int32) (r_w1marks : Nat) (r_w2names : Nat) (f_w2wrongClass : Int32) (f_w2wrongMethod : Int32) (f_w2wrongAt : Int32) (r_w2rows : Nat) (r_w2above : Nat) (r_w2fields : Nat) (r_w2methods : Nat) (r_w2codes : Nat) (r_w2handlers : Nat) (r_w2extra : Nat) (r_w2orders : Nat) (r_w2classNamed : Nat) (f_w2breaks : Int32) (r_w2marks : Nat) (h0X : Nat) (fsX : List Value) (owX : Nat) (v0X : Nat) (v1X : Nat) (v2X : Nat) (v3X : Nat) (fw0X : List Value) (fw1X : List Value) (fw2X : List Value) (G : GV l p s m #[Value.ref b] meth c (⟨"ClassWorksLaw", meth.name, ""⟩ : MethodName) code 4 ret g D sl A) (hX : va_X b 6 xs s s.heap) (hbl : b < s.heap.size) (hbA : ¬ A b) (hAA : ∀ q, A q → s.heap.size ≤ q) {H : Heap} {locs : List Loc} {ls : Array Slot} (glenX : fsX.length = 131) (gk0X : fsX[44]? = some (.ref owX)) (gw0X : fw0X.length = 72) (gt0X : fw0X[0]? = some (.int (nI 0))) (gw1X : fw1X.length = 72) (gt1X : fw1X[0]? = some (.int (nI 0))) (gw2X : fw2X.length = 72) (gt2X : fw2X[0]? = some (.int (nI 0))) (hP : va_P D CL [(h0, .inr (11, [.ref r_cwords, .ref r_creader, .ref r_cchecker, .ref r_cfinder, .ref r_cwriter, .ref r_cmachines, .ref r_ctape, .int (nI 0), .int (-2), .int (nI 60000), .ref r_cstock, .ref r_csizes, .ref r_cmet, .ref r_cfound, .int (nI 0), .ref r_cdraft, .int (nI 0), .int (nI 0), .ref r_cfewestFor, .ref r_cfewestNext])), (r_cmachines, .inl (g 4, 4, .inr (.inr (.inr (.inr (va_up (va_up (va_up (va_up (fun _ => none) 0 (some mm0)) 1 (some mm1)) 2 (some mm2)) 3 (some mm3))))))), (mm0, .inr (4, [.ref ww0, .ref r_m0heap, .ref r_m0runs, .ref r_m0counts, .ref r_m0traceRow, .int f_m0traceCount, .ref r_m0startedList, .int f_m0startedCount, .int f_m0present, .int f_m0quantum, .int f_m0stepsDone, .int f_m0turnSteps, .int f_m0turnMost, .int f_m0turnOver, .ref r_m0finder, .ref r_m0names, .int f_m0fault, .int f_m0wanted, .int f_m0thrown])), (mm1, .inr (4, [.ref ww1, .ref r_m1heap, .ref r_m1runs, .ref r_m1counts, .ref r_m1traceRow, .int f_m1traceCount, .ref r_m1startedList, .int f_m1startedCount, .int f_m1present, .int f_m1quantum, .int f_m1stepsDone, .int f_m1turnSteps, .int f_m1turnMost, .int f_m1turnOver, .ref r_m1finder, .ref r_m1names, .int f_m1fault, .int f_m1wanted, .int f_m1thrown])), (mm2, .inr (4, [.ref ww2, .ref r_m2heap, .ref r_m2runs, .ref r_m2counts, .ref r_m2traceRow, .int f_m2traceCount, .ref r_m2startedList, .int f_m2startedCount, .int f_m2present, .int f_m2quantum, .int f_m2stepsDone, .int f_m2turnSteps, .int f_m2turnMost, .int f_m2turnOver, .ref r_m2finder, .ref r_m2names, .int f_m2fault, .int f_m2wanted, .int f_m2thrown])), (ww0, .inr (9, [.ref r_w0names, .int (nI 0), .int (nI 21), .int f_w0wrongClass, .int f_w0wrongMethod, .int f_w0wrongAt, .ref r_w0rows, .ref r_w0above, .ref r_w0fields, .ref r_w0methods, .ref r_w0codes, .ref r_w0handlers, .ref r_w0extra, .ref r_w0orders, .ref r_w0classNamed, .int f_w0breaks, .ref r_w0marks])), (ww1, .inr (9, [.ref r_w1names, .int (nI 0), .int (nI 21), .int f_w1wrongClass, .int f_w1wrongMethod, .int f_w1wrongAt, .ref r_w1rows, .ref r_w1above, .ref r_w1fields, .ref r_w1methods, .ref r_w1codes, .ref r_w1handlers, .ref r_w1extra, .ref r_w1orders, .ref r_w1classNamed, .int f_w1breaks, .ref r_w1marks])), (ww2, .inr (9, [.ref r_w2names, .int (nI 0), .int (nI 21), .int f_w2wrongClass, .int f_w2wrongMethod, .int f_w2wrongAt, .ref r_w2rows, .ref r_w2above, .ref r_w2fields, .ref r_w2methods, .ref r_w2codes, .ref r_w2handlers, .ref r_w2extra, .ref r_w2orders, .ref r_w2classNamed, .int f_w2breaks, .ref r_w2marks])), (h0X, .inr (14, fsX)), (owX, .inl (g 6, 4, .inr (.inr (.inr (.inr (va_up (va_up (va_up (va_up (fun _ => none) 0 (some v0X)) 1 (some v1X)) 2 (some v2X)) 3 (some v3X))))))), (v0X, .inr (13, fw0X)), (v1X, .inr (13, fw1X)), (v2X, .inr (13, fw2X))] H) (hD : va_D A [(h0, .inr (11, [.ref r_cwords, .ref r_creader, .ref r_cchecker, .ref r_cfinder, .ref r_cwriter, .ref r_cmachines, .ref r_ctape, .int (nI 0), .int (-2), .int (nI 60000), .ref r_cstock, .ref r_csizes, .ref r_cmet, .ref r_cfound, .int (nI 0), .ref r_cdraft, .int (nI 0), .int (nI 0), .ref r_cfewestFor, .ref r_cfewestNext])), (r_cmachines, .inl (g 4, 4, .inr (.inr (.inr (.inr (va_up (va_up (va_up (va_up (fun _ => none) 0 (some mm0)) 1 (some mm1)) 2 (some mm2)) 3 (some mm3))))))), (mm0, .inr (4, [.ref ww0, .ref r_m0heap, .ref r_m0runs, .ref r_m0counts, .ref r_m0traceRow, .int f_m0traceCount, .ref r_m0startedList, .int f_m0startedCount, .int f_m0present, .int f_m0quantum, .int f_m0stepsDone, .int f_m0turnSteps, .int f_m0turnMost, .int f_m0turnOver, .ref r_m0finder, .ref r_m0names, .int f_m0fault, .int f_m0wanted, .int f_m0thrown])), (mm1, .inr (4, [.ref ww1, .ref r_m1heap, .ref r_m1runs, .ref r_m1counts, .ref r_m1traceRow, .int f_m1traceCount, .ref r_m1startedList, .int f_m1startedCount, .int f_m1present, .int f_m1quantum, .int f_m1stepsDone, .int f_m1turnSteps, .int f_m1turnMost, .int f_m1turnOver, .ref r_m1finder, .ref r_m1names, .int f_m1fault, .int f_m1wanted, .int f_m1thrown])), (mm2, .inr (4, [.ref ww2, .ref r_m2heap, .ref r_m2runs, .ref r_m2counts, .ref r_m2traceRow, .int f_m2traceCount, .ref r_m2startedList, .int f_m2startedCount, .int f_m2present, .int f_m2quantum, .int f_m2stepsDone, .int f_m2turnSteps, .int f_m2turnMost, .int f_m2turnOver, .ref r_m2finder, .ref r_m2names, .int f_m2fault, .int f_m2wanted, .int f_m2thrown])), (ww0, .inr (9, [.ref r_w0names, .int (nI 0), .int (nI 21), .int f_w0wrongClass, .int f_w0wrongMethod, .int f_w0wrongAt, .ref r_w0rows, .ref r_w0above, .ref r_w0fields, .ref r_w0methods, .ref r_w0codes, .ref r_w0handlers, .ref r_w0extra, .ref r_w0orders, .ref r_w0classNamed, .int f_w0breaks, .ref r_w0marks])), (ww1, .inr (9, [.ref r_w1names, .int (nI 0), .int (nI 21), .int f_w1wrongClass, .int f_w1wrongMethod, .int f_w1wrongAt, .ref r_w1rows, .ref r_w1above, .ref r_w1fields, .ref r_w1methods, .ref r_w1codes, .ref r_w1handlers, .ref r_w1extra, .ref r_w1orders, .ref r_w1classNamed, .int f_w1breaks, .ref r_w1marks])), (ww2, .inr (9, [.ref r_w2names, .int (nI 0), .int (nI 21), .int f_w2wrongClass, .int f_w2wrongMethod, .int f_w2wrongAt, .ref r_w2rows, .ref r_w2above, .ref r_w2fields, .ref r_w2methods, .ref r_w2codes, .ref r_w2handlers, .ref r_w2extra, .ref r_w2orders, .ref r_w2classNamed, .int f_w2breaks, .ref r_w2marks])), (h0X, .inr (14, fsX)), (owX, .inl (g 6, 4, .inr (.inr (.inr (.inr (va_up (va_up (va_up (va_up (fun _ => none) 0 (some v0X)) 1 (some v1X)) 2 (some v2X)) 3 (some v3X))))))), (v0X, .inr (13, fw0X)), (v1X, .inr (13, fw1X)), (v2X, .inr (13, fw2X))]) (hS : va_S A s.heap H locs) (hl : lv_has ls 4 [(0, .ref b), (1, .ref h0), (2, .ref h0X), (3, .int (nI 0))]) : W p l e room_1 s m #[Value.ref b] below meth c H locs 702 488194 (lw_Z below #[Value.ref b] s) (F0 m 1237 ls []) := by
  refine lv_aload_n G.1 G.2.1 d_Law_1237 rfl (lv_at hl 1 rfl) ?_
  refine lv_aload_n G.1 G.2.1 d_Law_1238 rfl (lv_at hl 0 rfl) ?_
  refine lv_iload_n G.1 G.2.1 d_Law_1239 rfl (lv_at hl 3 rfl) ?_
  refine lv_iconst (v := nI 1) G.1 G.2.1 d_Law_1240 (by decide) ?_
  refine lv_iadd G.1 G.2.1 d_Law_1241 ?_
  refine tpi (w := nI 1) (by decide) ?_
  refine va_sld G.1 G.2.1 hX hbl hbA hS (nI_inn (n := 6) (a := 1) (by decide) (by decide)) d_Law_1242 ?_
  refine tpi (w := (xs 1)) (by rw [nI_clamp (by decide)]) ?_
  refine lv_aload_n G.1 G.2.1 d_Law_1243 rfl (lv_at hl 0 rfl) ?_
  refine lv_iload_n G.1 G.2.1 d_Law_1244 rfl (lv_at hl 3 rfl) ?_
  refine lv_iconst (v := nI 2) G.1 G.2.1 d_Law_1245 (by decide) ?_
  refine lv_iadd G.1 G.2.1 d_Law_1246 ?_
  refine tpi (w := nI 2) (by decide) ?_
  refine va_sld G.1 G.2.1 hX hbl hbA hS (nI_inn (n := 6) (a := 2) (by decide) (by decide)) d_Law_1247 ?_
  refine tpi (w := (xs 2)) (by rw [nI_clamp (by decide)]) ?_
  refine W.eq (g2 := F0 m 1248 ls [.int (xs 2), .int (xs 1), .ref h0]) rfl ?_
  refine lv_aload_n G.1 G.2.1 d_Law_1248 rfl (lv_at hl 0 rfl) ?_
  refine lv_iload_n G.1 G.2.1 d_Law_1249 rfl (lv_at hl 3 rfl) ?_
  refine lv_iconst (v := nI 3) G.1 G.2.1 d_Law_1250 (by decide) ?_
  refine lv_iadd G.1 G.2.1 d_Law_1251 ?_
  refine tpi (w := nI 3) (by decide) ?_
  refine va_sld G.1 G.2.1 hX hbl hbA hS (nI_inn (n := 6) (a := 3) (by decide) (by decide)) d_Law_1252 ?_
  refine tpi (w := (xs 3)) (by rw [nI_clamp (by decide)]) ?_
  refine kEi (wr := [(h0X, .inr (14, fsX)), (owX, .inl (g 6, 4, .inr (.inr (.inr (.inr (va_up (va_up (va_up (va_up (fun _ => none) 0 (some v0X)) 1 (some v1X)) 2 (some v2X)) 3 (some v3X))))))), (v0X, .inr (13, fw0X)), (v1X, .inr (13, fw1X)), (v2X, .inr (13, fw2X))]) G (kV (As := [.int (xs 1), .int (xs 2), .int (xs 3)]) (rest := []) G hP hD hS [0, 1, 2, 3, 4, 5, 6, 7] rfl rfl (c_Cw_trace l D g h0 (xs 1) (xs 2) (xs 3) r_cwords r_creader r_cchecker r_cfinder r_cwriter r_cmachines r_ctape r_cstock r_csizes r_cmet r_cfound r_cdraft r_cfewestFor r_cfewestNext mm0 mm1 mm2 mm3 ww0 r_m0heap r_m0runs r_m0counts r_m0traceRow f_m0traceCount r_m0startedList f_m0startedCount f_m0present f_m0quantum f_m0stepsDone f_m0turnSteps f_m0turnMost f_m0turnOver r_m0finder r_m0names f_m0fault f_m0wanted f_m0thrown ww1 r_m1heap r_m1runs r_m1counts r_m1traceRow f_m1traceCount r_m1startedList f_m1startedCount f_m1present f_m1quantum f_m1stepsDone f_m1turnSteps f_m1turnMost f_m1turnOver r_m1finder r_m1names f_m1fault f_m1wanted f_m1thrown ww2 r_m2heap r_m2runs r_m2counts r_m2traceRow f_m2traceCount r_m2startedList f_m2startedCount f_m2present f_m2quantum f_m2stepsDone f_m2turnSteps f_m2turnMost f_m2turnOver r_m2finder r_m2names f_m2fault f_m2wanted f_m2thrown r_w0names f_w0wrongClass f_w0wrongMethod f_w0wrongAt r_w0rows r_w0above r_w0fields r_w0methods r_w0codes r_w0handlers r_w0extra r_w0orders r_w0classNamed f_w0breaks r_w0marks r_w1names f_w1wrongClass f_w1wrongMethod f_w1wrongAt r_w1rows r_w1above r_w1fields r_w1methods r_w1codes r_w1handlers r_w1extra r_w1orders r_w1classNamed f_w1breaks r_w1marks r_w2names f_w2wrongClass f_w2wrongMethod f_w2wrongAt r_w2rows r_w2above r_w2fields r_w2methods r_w2codes r_w2handlers r_w2extra r_w2orders r_w2classNamed f_w2breaks r_w2marks H.size ) w_Cw_trace q2341 rfl rfl ⟨Nat.le_of_ble_eq_true rfl, Nat.le_of_ble_eq_true rfl⟩ (fun _ h => absurd h List.not_mem_nil) 0 (ci := 11) rfl rfl rfl hl.1 rfl (Nat.le_of_ble_eq_true rfl) rfl ⟨Nat.le_of_ble_eq_true rfl, (Nat.le_of_ble_eq_true rfl)⟩ d_Law_1253) hP hD hS [0, 1, 2, 3, 4, 5, 6, 7] [8, 9, 10, 11, 12] rfl rfl rfl rfl (fun r_1 u_2 H locs hw hP hD hS hzH => ?_)
  have hw : r_1 = (-1) := hw
  have hP : va_P D CL [(h0X, .inr (14, fsX)), (owX, .inl (g 6, 4, .inr (.inr (.inr (.inr (va_up (va_up (va_up (va_up (fun _ => none) 0 (some v0X)) 1 (some v1X)) 2 (some v2X)) 3 (some v3X))))))), (v0X, .inr (13, fw0X)), (v1X, .inr (13, fw1X)), (v2X, .inr (13, fw2X))] H := hP
  have hD : va_D A [(h0X, .inr (14, fsX)), (owX, .inl (g 6, 4, .inr (.inr (.inr (.inr (va_up (va_up (va_up (va_up (fun _ => none) 0 (some v0X)) 1 (some v1X)) 2 (some v2X)) 3 (some v3X))))))), (v0X, .inr (13, fw0X)), (v1X, .inr (13, fw1X)), (v2X, .inr (13, fw2X))] := hD
  subst hw
  refine tpst (w := [.int (-1)]) rfl ?_
  refine lv_aload_n G.1 G.2.1 d_Law_1256 rfl (lv_at hl 2 rfl) ?_
  refine lv_aload_n G.1 G.2.1 d_Law_1257 rfl (lv_at hl 0 rfl) ?_
  refine lv_iload_n G.1 G.2.1 d_Law_1258 rfl (lv_at hl 3 rfl) ?_
  refine lv_iconst (v := nI 1) G.1 G.2.1 d_Law_1259 (by decide) ?_
  refine lv_iadd G.1 G.2.1 d_Law_1260 ?_
  refine tpi (w := nI 1) (by decide) ?_
  refine va_sld G.1 G.2.1 hX hbl hbA hS (nI_inn (n := 6) (a := 1) (by decide) (by decide)) d_Law_1261 ?_
  refine tpi (w := (xs 1)) (by rw [nI_clamp (by decide)]) ?_
  refine W.eq (g2 := F0 m 1262 ls [.int (xs 1), .ref h0X, .int (-1)]) rfl ?_
  refine lv_aload_n G.1 G.2.1 d_Law_1262 rfl (lv_at hl 0 rfl) ?_
  refine lv_iload_n G.1 G.2.1 d_Law_1263 rfl (lv_at hl 3 rfl) ?_
  refine lv_iconst (v := nI 2) G.1 G.2.1 d_Law_1264 (by decide) ?_
  refine lv_iadd G.1 G.2.1 d_Law_1265 ?_
  refine tpi (w := nI 2) (by decide) ?_
  refine va_sld G.1 G.2.1 hX hbl hbA hS (nI_inn (n := 6) (a := 2) (by decide) (by decide)) d_Law_1266 ?_
  refine tpi (w := (xs 2)) (by rw [nI_clamp (by decide)]) ?_
  refine lv_aload_n G.1 G.2.1 d_Law_1267 rfl (lv_at hl 0 rfl) ?_
  refine lv_iload_n G.1 G.2.1 d_Law_1268 rfl (lv_at hl 3 rfl) ?_
  refine lv_iconst (v := nI 3) G.1 G.2.1 d_Law_1269 (by decide) ?_
  refine lv_iadd G.1 G.2.1 d_Law_1270 ?_
  refine tpi (w := nI 3) (by decide) ?_
  refine va_sld G.1 G.2.1 hX hbl hbA hS (nI_inn (n := 6) (a := 3) (by decide) (by decide)) d_Law_1271 ?_
  refine tpi (w := (xs 3)) (by rw [nI_clamp (by decide)]) ?_
  refine kEi (wr := []) G (kV (As := [.int (xs 1), .int (xs 2), .int (xs 3)]) (rest := [.int (-1)]) G hP hD hS [0, 1, 2, 3, 4] rfl rfl (c_Mo_trace l D g h0X (xs 1) (xs 2) (xs 3) fsX owX v0X v1X v2X v3X fw0X fw1X fw2X H.size glenX gk0X gw0X gt0X gw1X gt1X gw2X gt2X) w_Mo_trace q4204 rfl rfl ⟨Nat.le_of_ble_eq_true rfl, Nat.le_of_ble_eq_true rfl⟩ (fun _ h => absurd h List.not_mem_nil) 0 (ci := 14) rfl rfl rfl hl.1 rfl (Nat.le_of_ble_eq_true rfl) rfl ⟨Nat.le_of_ble_eq_true rfl, (Nat.le_of_ble_eq_true rfl)⟩ d_Law_1272) hP hD hS [0, 1, 2, 3, 4] [] rfl rfl rfl rfl (fun r_3 u_4 H locs hw hP hD hS hzH => ?_)
  have hw : r_3 = (-1) := hw
  have hP : va_P D CL [] H := hP
  have hD : va_D A [] := hD
  subst hw
  refine tpst (w := [.int (-1), .int (-1)]) rfl ?_
  refine lv_icmp_eq (tgt := 1768) G.1 G.2.1 d_Law_1275 (by decide) (fun c1275 => ?_) (fun c1275 => absurd c1275 (fun h => h rfl))
  refine W.eq (g2 := F0 m 1768 ls []) rfl ?_
  refine lv_iinc (v := nI 6) (lv' := [(3, .int (nI 6)), (0, .ref b), (1, .ref h0), (2, .ref h0X)]) G.1 G.2.1 d_Law_1768 hl (k := 3) rfl (show (nI 0) + Int32.ofInt 6 = nI 6 from by decide) (by decide) rfl (fun ls hl => ?_)
  refine lv_goto (tgt := 18) G.1 G.2.1 d_Law_1771 (by decide) ?_
  refine lv_iload_n G.1 G.2.1 d_Law_18 rfl (lv_at hl 0 rfl) ?_
  refine lv_aload_n G.1 G.2.1 d_Law_19 rfl (lv_at hl 1 rfl) ?_
  refine va_slen G.1 G.2.1 hX hbl hbA hS d_Law_20 ?_
  refine tpi (w := nI 6) rfl ?_
  refine lv_bipush (v := nI 6) G.1 G.2.1 d_Law_21 (by decide) ?_
  refine lv_isub G.1 G.2.1 d_Law_23 ?_
  refine tpi (w := nI 0) (by decide) ?_
  refine lv_icmp_gt (tgt := 1774) G.1 G.2.1 d_Law_24 (by decide) (fun c24 => ?_) (fun c24 => absurd c24 (by decide))
  refine lv_iconst (v := nI 1) G.1 G.2.1 d_Law_1774 (by decide) ?_
  refine va_forget (fun q hq => hAA _ (hS.2.2 q hq)) ?_
  refine W.widen (k := 600002) (n := 7302232) (Nat.le_of_ble_eq_true rfl) (Nat.le_of_ble_eq_true rfl) ?_
  exact lw_ret G.1 G.2.1 G.2.2.2.1 G.2.2.2.2.1 d_Law_1775
theorem q2348 : Cond.code y_Cw_done b_Cw_done 4 (some .int) ∈ lw_ok := lw_okmem (List.mem_of_getElem? (i := 2348) (by decide +kernel)) rfl
theorem q2346 : Cond.instanceMethod y_Cw_done ∈ lw_ok := lw_okmem (List.mem_of_getElem? (i := 2346) (by decide +kernel)) rfl
theorem q2347 : Cond.selects y_Cw_done.cls y_Cw_done y_Cw_done ∈ lw_ok := lw_okmem (List.mem_of_getElem? (i := 2347) (by decide +kernel)) rfl
theorem w_Cw_done : CWv y_Cw_done b_Cw_done 4 (some .int) 2 ∧ Cond.instanceMethod y_Cw_done ∈ lw_ok ∧ Cond.selects y_Cw_done.cls y_Cw_done y_Cw_done ∈ lw_ok := ⟨⟨q2348, q329, by decide +kernel, by decide +kernel, by decide +kernel⟩, q2346, q2347⟩
theorem q2345 : Cond.methodLink "ClassWorksLaw" 133 y_Cw_done ∈ lw_ok := lw_okmem (List.mem_of_getElem? (i := 2345) (by decide +kernel)) rfl
theorem q4211 : Cond.code y_Mo_done b_Mo_done 3 (some .int) ∈ lw_ok := lw_okmem (List.mem_of_getElem? (i := 4211) (by decide +kernel)) rfl
theorem q4209 : Cond.instanceMethod y_Mo_done ∈ lw_ok := lw_okmem (List.mem_of_getElem? (i := 4209) (by decide +kernel)) rfl
theorem q4210 : Cond.selects y_Mo_done.cls y_Mo_done y_Mo_done ∈ lw_ok := lw_okmem (List.mem_of_getElem? (i := 4210) (by decide +kernel)) rfl
theorem w_Mo_done : CWv y_Mo_done b_Mo_done 3 (some .int) 2 ∧ Cond.instanceMethod y_Mo_done ∈ lw_ok ∧ Cond.selects y_Mo_done.cls y_Mo_done y_Mo_done ∈ lw_ok := ⟨⟨q4211, q348, by decide +kernel, by decide +kernel, by decide +kernel⟩, q4209, q4210⟩
theorem q4208 : Cond.methodLink "ClassWorksLaw" 136 y_Mo_done ∈ lw_ok := lw_okmem (List.mem_of_getElem? (i := 4208) (by decide +kernel)) rfl
theorem d_Law_1280 : decode code 1280 = .ok (.aload_n 1, 1) := by decide +kernel
theorem d_Law_1281 : decode code 1281 = .ok (.aload_n 0, 1) := by decide +kernel
theorem d_Law_1282 : decode code 1282 = .ok (.iload_n 3, 1) := by decide +kernel
theorem d_Law_1283 : decode code 1283 = .ok (.iconst 1, 1) := by decide +kernel
theorem d_Law_1284 : decode code 1284 = .ok (.iadd, 1) := by decide +kernel
theorem d_Law_1285 : decode code 1285 = .ok (.iaload, 1) := by decide +kernel
theorem d_Law_1286 : decode code 1286 = .ok (.aload_n 0, 1) := by decide +kernel
theorem d_Law_1287 : decode code 1287 = .ok (.iload_n 3, 1) := by decide +kernel
theorem d_Law_1288 : decode code 1288 = .ok (.iconst 2, 1) := by decide +kernel
theorem d_Law_1289 : decode code 1289 = .ok (.iadd, 1) := by decide +kernel
theorem d_Law_1290 : decode code 1290 = .ok (.iaload, 1) := by decide +kernel
theorem d_Law_1291 : decode code 1291 = .ok (.invokevirtual 133, 3) := by decide +kernel
theorem d_Law_1294 : decode code 1294 = .ok (.aload_n 2, 1) := by decide +kernel
theorem d_Law_1295 : decode code 1295 = .ok (.aload_n 0, 1) := by decide +kernel
theorem d_Law_1296 : decode code 1296 = .ok (.iload_n 3, 1) := by decide +kernel
theorem d_Law_1297 : decode code 1297 = .ok (.iconst 1, 1) := by decide +kernel
theorem d_Law_1298 : decode code 1298 = .ok (.iadd, 1) := by decide +kernel
theorem d_Law_1299 : decode code 1299 = .ok (.iaload, 1) := by decide +kernel
theorem d_Law_1300 : decode code 1300 = .ok (.aload_n 0, 1) := by decide +kernel
theorem d_Law_1301 : decode code 1301 = .ok (.iload_n 3, 1) := by decide +kernel
theorem d_Law_1302 : decode code 1302 = .ok (.iconst 2, 1) := by decide +kernel
theorem d_Law_1303 : decode code 1303 = .ok (.iadd, 1) := by decide +kernel
theorem d_Law_1304 : decode code 1304 = .ok (.iaload, 1) := by decide +kernel
theorem d_Law_1305 : decode code 1305 = .ok (.invokevirtual 136, 3) := by decide +kernel
theorem d_Law_1308 : decode code 1308 = .ok (.if_icmp .eq 460, 3) := by decide +kernel
set_option maxHeartbeats 4000000 in
set_option maxRecDepth 100000 in
theorem law_done {p : Program} {e : Env} {s : State} {m : MethodId} {below : List Frame} {meth : Method} {c : Code} {l : Launch} {D : va_G} {g : Nat → ClassId} {sl : List SL} {b : Nat} {xs : Nat → Int32} {A : Nat → Prop} (h0 : Nat) (r_cwords : Nat) (r_creader : Nat) (r_cchecker : Nat) (r_cfinder : Nat) (r_cwriter : Nat) (r_cmachines : Nat) (r_ctape : Nat) (r_cstock : Nat) (r_csizes : Nat) (r_cmet : Nat) (r_cfound : Nat) (r_cdraft : Nat) (r_cfewestFor : Nat) (r_cfewestNext : Nat) (mm0 : Nat) (mm1 : Nat) (mm2 : Nat) (mm3 : Nat) (ww0 : Nat) (r_m0heap : Nat) (r_m0runs : Nat) (r_m0counts : Nat) (r_m0traceRow : Nat) (f_m0traceCount : Int32) (r_m0startedList : Nat) (f_m0startedCount : Int32) (f_m0present : Int32) (f_m0quantum : Int32) (f_m0stepsDone : Int32) (f_m0turnSteps : Int32) (f_m0turnMost : Int32) (f_m0turnOver : Int32) (r_m0finder : Nat) (r_m0names : Nat) (f_m0fault : Int32) (f_m0wanted : Int32) (f_m0thrown : Int32) (ww1 : Nat) (r_m1heap : Nat) (r_m1runs : Nat) (r_m1counts : Nat) (r_m1traceRow : Nat) (f_m1traceCount : Int32) (r_m1startedList : Nat) (f_m1startedCount : Int32) (f_m1present : Int32) (f_m1quantum : Int32) (f_m1stepsDone : Int32) (f_m1turnSteps : Int32) (f_m1turnMost : Int32) (f_m1turnOver : Int32) (r_m1finder : Nat) (r_m1names : Nat) (f_m1fault : Int32) (f_m1wanted : Int32) (f_m1thrown : Int32) (ww2 : Nat) (r_m2heap : Nat) (r_m2runs : Nat) (r_m2counts : Nat) (r_m2traceRow : Nat) (f_m2traceCount : Int32) (r_m2startedList : Nat) (f_m2startedCount : Int32) (f_m2present : Int32) (f_m2quantum : Int32) (f_m2stepsDone : Int32) (f_m2turnSteps : Int32) (f_m2turnMost : Int32) (f_m2turnOver : Int32) (r_m2finder : Nat) (r_m2names : Nat) (f_m2fault : Int32) (f_m2wanted : Int32) (f_m2thrown : Int32) (r_w0names : Nat) (f_w0wrongClass : Int32) (f_w0wrongMethod : Int32) (f_w0wrongAt : Int32) (r_w0rows : Nat) (r_w0above : Nat) (r_w0fields : Nat) (r_w0methods : Nat) (r_w0codes : Nat) (r_w0handlers : Nat) (r_w0extra : Nat) (r_w0orders : Nat) (r_w0classNamed : Nat) (f_w0breaks : Int32) (r_w0marks : Nat) (r_w1names : Nat) (f_w1wrongClass : Int32) (f_w1wrongMethod : Int32) (f_w1wrongAt : Int32) (r_w1rows : Nat) (r_w1above : Nat) (r_w1fields : Nat) (r_w1methods : Nat) (r_w1codes : Nat) (r_w1handlers : Nat) (r_w1extra : Nat) (r_w1orders : Nat) (r_w1classNamed : Nat) (f_w1breaks : Int32) (r_w1marks : Nat) (r_w2names : Nat) (f_w2wrongClass : Int32) (f_w2wrongMethod : Int32) (f_w2wrongAt : Int32) (r_w2rows : Nat) (r_w2above : Nat) (r_w2fields : Nat) (r_w2methods : Nat) (r_w2codes : Nat) (r_w2handlers : Nat) (r_w2extra : Nat) (r_w2orders : Nat) (r_w2classNamed : Nat) (f_w2breaks : Int32) (r_w2marks : Nat) (h0X : Nat) (fsX : List Value) (owX : Nat) (v0X : Nat) (v1X : Nat) (v2X : Nat) (v3X : Nat) (fw0X : List Value) (fw1X : List Value) (fw2X : List Value) (G : GV l p s m #[Value.ref b] meth c (⟨"ClassWorksLaw", meth.name, ""⟩ : MethodName) code 4 ret g D sl A) (hX : va_X b 6 xs s s.heap) (hbl : b < s.heap.size) (hbA : ¬ A b) (hAA : ∀ q, A q → s.heap.size ≤ q) {H : Heap} {locs : List Loc} {ls : Array Slot} (glenX : fsX.length = 131) (gk0X : fsX[44]? = some (.ref owX)) (gw0X : fw0X.length = 72) (gt0X : fw0X[0]? = some (.int (nI 0))) (gw1X : fw1X.length = 72) (gt1X : fw1X[0]? = some (.int (nI 0))) (gw2X : fw2X.length = 72) (gt2X : fw2X[0]? = some (.int (nI 0))) (hP : va_P D CL [(h0, .inr (11, [.ref r_cwords, .ref r_creader, .ref r_cchecker, .ref r_cfinder, .ref r_cwriter, .ref r_cmachines, .ref r_ctape, .int (nI 0), .int (-2), .int (nI 60000), .ref r_cstock, .ref r_csizes, .ref r_cmet, .ref r_cfound, .int (nI 0), .ref r_cdraft, .int (nI 0), .int (nI 0), .ref r_cfewestFor, .ref r_cfewestNext])), (r_cmachines, .inl (g 4, 4, .inr (.inr (.inr (.inr (va_up (va_up (va_up (va_up (fun _ => none) 0 (some mm0)) 1 (some mm1)) 2 (some mm2)) 3 (some mm3))))))), (mm0, .inr (4, [.ref ww0, .ref r_m0heap, .ref r_m0runs, .ref r_m0counts, .ref r_m0traceRow, .int f_m0traceCount, .ref r_m0startedList, .int f_m0startedCount, .int f_m0present, .int f_m0quantum, .int f_m0stepsDone, .int f_m0turnSteps, .int f_m0turnMost, .int f_m0turnOver, .ref r_m0finder, .ref r_m0names, .int f_m0fault, .int f_m0wanted, .int f_m0thrown])), (mm1, .inr (4, [.ref ww1, .ref r_m1heap, .ref r_m1runs, .ref r_m1counts, .ref r_m1traceRow, .int f_m1traceCount, .ref r_m1startedList, .int f_m1startedCount, .int f_m1present, .int f_m1quantum, .int f_m1stepsDone, .int f_m1turnSteps, .int f_m1turnMost, .int f_m1turnOver, .ref r_m1finder, .ref r_m1names, .int f_m1fault, .int f_m1wanted, .int f_m1thrown])), (mm2, .inr (4, [.ref ww2, .ref r_m2heap, .ref r_m2runs, .ref r_m2counts, .ref r_m2traceRow, .int f_m2traceCount, .ref r_m2startedList, .int f_m2startedCount, .int f_m2present, .int f_m2quantum, .int f_m2stepsDone, .int f_m2turnSteps, .int f_m2turnMost, .int f_m2turnOver, .ref r_m2finder, .ref r_m2names, .int f_m2fault, .int f_m2wanted, .int f_m2thrown])), (ww0, .inr (9, [.ref r_w0names, .int (nI 0), .int (nI 21), .int f_w0wrongClass, .int f_w0wrongMethod, .int f_w0wrongAt, .ref r_w0rows, .ref r_w0above, .ref r_w0fields, .ref r_w0methods, .ref r_w0codes, .ref r_w0handlers, .ref r_w0extra, .ref r_w0orders, .ref r_w0classNamed, .int f_w0breaks, .ref r_w0marks])), (ww1, .inr (9, [.ref r_w1names, .int (nI 0), .int (nI 21), .int f_w1wrongClass, .int f_w1wrongMethod, .int f_w1wrongAt, .ref r_w1rows, .ref r_w1above, .ref r_w1fields, .ref r_w1methods, .ref r_w1codes, .ref r_w1handlers, .ref r_w1extra, .ref r_w1orders, .ref r_w1classNamed, .int f_w1breaks, .ref r_w1marks])), (ww2, .inr (9, [.ref r_w2names, .int (nI 0), .int (nI 21), .int f_w2wrongClass, .int f_w2wrongMethod, .int f_w2wrongAt, .ref r_w2rows, .ref r_w2above, .ref r_w2fields, .ref r_w2methods, .ref r_w2codes, .ref r_w2handlers, .ref r_w2extra, .ref r_w2orders, .ref r_w2classNamed, .int f_w2breaks, .ref r_w2marks])), (h0X, .inr (14, fsX)), (owX, .inl (g 6, 4, .inr (.inr (.inr (.inr (va_up (va_up (va_up (va_up (fun _ => none) 0 (some v0X)) 1 (some v1X)) 2 (some v2X)) 3 (some v3X))))))), (v0X, .inr (13, fw0X)), (v1X, .inr (13, fw1X)), (v2X, .inr (13, fw2X))] H) (hD : va_D A [(h0, .inr (11, [.ref r_cwords, .ref r_creader, .ref r_cchecker, .ref r_cfinder, .ref r_cwriter, .ref r_cmachines, .ref r_ctape, .int (nI 0), .int (-2), .int (nI 60000), .ref r_cstock, .ref r_csizes, .ref r_cmet, .ref r_cfound, .int (nI 0), .ref r_cdraft, .int (nI 0), .int (nI 0), .ref r_cfewestFor, .ref r_cfewestNext])), (r_cmachines, .inl (g 4, 4, .inr (.inr (.inr (.inr (va_up (va_up (va_up (va_up (fun _ => none) 0 (some mm0)) 1 (some mm1)) 2 (some mm2)) 3 (some mm3))))))), (mm0, .inr (4, [.ref ww0, .ref r_m0heap, .ref r_m0runs, .ref r_m0counts, .ref r_m0traceRow, .int f_m0traceCount, .ref r_m0startedList, .int f_m0startedCount, .int f_m0present, .int f_m0quantum, .int f_m0stepsDone, .int f_m0turnSteps, .int f_m0turnMost, .int f_m0turnOver, .ref r_m0finder, .ref r_m0names, .int f_m0fault, .int f_m0wanted, .int f_m0thrown])), (mm1, .inr (4, [.ref ww1, .ref r_m1heap, .ref r_m1runs, .ref r_m1counts, .ref r_m1traceRow, .int f_m1traceCount, .ref r_m1startedList, .int f_m1startedCount, .int f_m1present, .int f_m1quantum, .int f_m1stepsDone, .int f_m1turnSteps, .int f_m1turnMost, .int f_m1turnOver, .ref r_m1finder, .ref r_m1names, .int f_m1fault, .int f_m1wanted, .int f_m1thrown])), (mm2, .inr (4, [.ref ww2, .ref r_m2heap, .ref r_m2runs, .ref r_m2counts, .ref r_m2traceRow, .int f_m2traceCount, .ref r_m2startedList, .int f_m2startedCount, .int f_m2present, .int f_m2quantum, .int f_m2stepsDone, .int f_m2turnSteps, .int f_m2turnMost, .int f_m2turnOver, .ref r_m2finder, .ref r_m2names, .int f_m2fault, .int f_m2wanted, .int f_m2thrown])), (ww0, .inr (9, [.ref r_w0names, .int (nI 0), .int (nI 21), .int f_w0wrongClass, .int f_w0wrongMethod, .int f_w0wrongAt, .ref r_w0rows, .ref r_w0above, .ref r_w0fields, .ref r_w0methods, .ref r_w0codes, .ref r_w0handlers, .ref r_w0extra, .ref r_w0orders, .ref r_w0classNamed, .int f_w0breaks, .ref r_w0marks])), (ww1, .inr (9, [.ref r_w1names, .int (nI 0), .int (nI 21), .int f_w1wrongClass, .int f_w1wrongMethod, .int f_w1wrongAt, .ref r_w1rows, .ref r_w1above, .ref r_w1fields, .ref r_w1methods, .ref r_w1codes, .ref r_w1handlers, .ref r_w1extra, .ref r_w1orders, .ref r_w1classNamed, .int f_w1breaks, .ref r_w1marks])), (ww2, .inr (9, [.ref r_w2names, .int (nI 0), .int (nI 21), .int f_w2wrongClass, .int f_w2wrongMethod, .int f_w2wrongAt, .ref r_w2rows, .ref r_w2above, .ref r_w2fields, .ref r_w2methods, .ref r_w2codes, .ref r_w2handlers, .ref r_w2extra, .ref r_w2orders, .ref r_w2classNamed, .int f_w2breaks, .ref r_w2marks])), (h0X, .inr (14, fsX)), (owX, .inl (g 6, 4, .inr (.inr (.inr (.inr (va_up (va_up (va_up (va_up (fun _ => none) 0 (some v0X)) 1 (some v1X)) 2 (some v2X)) 3 (some v3X))))))), (v0X, .inr (13, fw0X)), (v1X, .inr (13, fw1X)), (v2X, .inr (13, fw2X))]) (hS : va_S A s.heap H locs) (hl : lv_has ls 4 [(0, .ref b), (1, .ref h0), (2, .ref h0X), (3, .int (nI 0))]) : W p l e room_1 s m #[Value.ref b] below meth c H locs 702 488194 (lw_Z below #[Value.ref b] s) (F0 m 1280 ls []) := by
  refine lv_aload_n G.1 G.2.1 d_Law_1280 rfl (lv_at hl 1 rfl) ?_
  refine lv_aload_n G.1 G.2.1 d_Law_1281 rfl (lv_at hl 0 rfl) ?_
  refine lv_iload_n G.1 G.2.1 d_Law_1282 rfl (lv_at hl 3 rfl) ?_
  refine lv_iconst (v := nI 1) G.1 G.2.1 d_Law_1283 (by decide) ?_
  refine lv_iadd G.1 G.2.1 d_Law_1284 ?_
  refine tpi (w := nI 1) (by decide) ?_
  refine va_sld G.1 G.2.1 hX hbl hbA hS (nI_inn (n := 6) (a := 1) (by decide) (by decide)) d_Law_1285 ?_
  refine tpi (w := (xs 1)) (by rw [nI_clamp (by decide)]) ?_
  refine lv_aload_n G.1 G.2.1 d_Law_1286 rfl (lv_at hl 0 rfl) ?_
  refine lv_iload_n G.1 G.2.1 d_Law_1287 rfl (lv_at hl 3 rfl) ?_
  refine lv_iconst (v := nI 2) G.1 G.2.1 d_Law_1288 (by decide) ?_
  refine lv_iadd G.1 G.2.1 d_Law_1289 ?_
  refine tpi (w := nI 2) (by decide) ?_
  refine va_sld G.1 G.2.1 hX hbl hbA hS (nI_inn (n := 6) (a := 2) (by decide) (by decide)) d_Law_1290 ?_
  refine tpi (w := (xs 2)) (by rw [nI_clamp (by decide)]) ?_
  refine W.eq (g2 := F0 m 1291 ls [.int (xs 2), .int (xs 1), .ref h0]) rfl ?_
  refine kEi (wr := [(h0X, .inr (14, fsX)), (owX, .inl (g 6, 4, .inr (.inr (.inr (.inr (va_up (va_up (va_up (va_up (fun _ => none) 0 (some v0X)) 1 (some v1X)) 2 (some v2X)) 3 (some v3X))))))), (v0X, .inr (13, fw0X)), (v1X, .inr (13, fw1X)), (v2X, .inr (13, fw2X))]) G (kV (As := [.int (xs 1), .int (xs 2)]) (rest := []) G hP hD hS [0, 1, 2, 3, 4, 5, 6, 7] rfl rfl (c_Cw_done l D g h0 (xs 1) (xs 2) r_cwords r_creader r_cchecker r_cfinder r_cwriter r_cmachines r_ctape r_cstock r_csizes r_cmet r_cfound r_cdraft r_cfewestFor r_cfewestNext mm0 mm1 mm2 mm3 ww0 r_m0heap r_m0runs r_m0counts r_m0traceRow f_m0traceCount r_m0startedList f_m0startedCount f_m0present f_m0quantum f_m0stepsDone f_m0turnSteps f_m0turnMost f_m0turnOver r_m0finder r_m0names f_m0fault f_m0wanted f_m0thrown ww1 r_m1heap r_m1runs r_m1counts r_m1traceRow f_m1traceCount r_m1startedList f_m1startedCount f_m1present f_m1quantum f_m1stepsDone f_m1turnSteps f_m1turnMost f_m1turnOver r_m1finder r_m1names f_m1fault f_m1wanted f_m1thrown ww2 r_m2heap r_m2runs r_m2counts r_m2traceRow f_m2traceCount r_m2startedList f_m2startedCount f_m2present f_m2quantum f_m2stepsDone f_m2turnSteps f_m2turnMost f_m2turnOver r_m2finder r_m2names f_m2fault f_m2wanted f_m2thrown r_w0names f_w0wrongClass f_w0wrongMethod f_w0wrongAt r_w0rows r_w0above r_w0fields r_w0methods r_w0codes r_w0handlers r_w0extra r_w0orders r_w0classNamed f_w0breaks r_w0marks r_w1names f_w1wrongClass f_w1wrongMethod f_w1wrongAt r_w1rows r_w1above r_w1fields r_w1methods r_w1codes r_w1handlers r_w1extra r_w1orders r_w1classNamed f_w1breaks r_w1marks r_w2names f_w2wrongClass f_w2wrongMethod f_w2wrongAt r_w2rows r_w2above r_w2fields r_w2methods r_w2codes r_w2handlers r_w2extra r_w2orders r_w2classNamed f_w2breaks r_w2marks H.size ) w_Cw_done q2345 rfl rfl ⟨Nat.le_of_ble_eq_true rfl, Nat.le_of_ble_eq_true rfl⟩ (fun _ h => absurd h List.not_mem_nil) 0 (ci := 11) rfl rfl rfl hl.1 rfl (Nat.le_of_ble_eq_true rfl) rfl ⟨Nat.le_of_ble_eq_true rfl, (Nat.le_of_ble_eq_true rfl)⟩ d_Law_1291) hP hD hS [0, 1, 2, 3, 4, 5, 6, 7] [8, 9, 10, 11, 12] rfl rfl rfl rfl (fun r_1 u_2 H locs hw hP hD hS hzH => ?_)
  have hw : r_1 = (-1) := hw
  have hP : va_P D CL [(h0X, .inr (14, fsX)), (owX, .inl (g 6, 4, .inr (.inr (.inr (.inr (va_up (va_up (va_up (va_up (fun _ => none) 0 (some v0X)) 1 (some v1X)) 2 (some v2X)) 3 (some v3X))))))), (v0X, .inr (13, fw0X)), (v1X, .inr (13, fw1X)), (v2X, .inr (13, fw2X))] H := hP
  have hD : va_D A [(h0X, .inr (14, fsX)), (owX, .inl (g 6, 4, .inr (.inr (.inr (.inr (va_up (va_up (va_up (va_up (fun _ => none) 0 (some v0X)) 1 (some v1X)) 2 (some v2X)) 3 (some v3X))))))), (v0X, .inr (13, fw0X)), (v1X, .inr (13, fw1X)), (v2X, .inr (13, fw2X))] := hD
  subst hw
  refine tpst (w := [.int (-1)]) rfl ?_
  refine lv_aload_n G.1 G.2.1 d_Law_1294 rfl (lv_at hl 2 rfl) ?_
  refine lv_aload_n G.1 G.2.1 d_Law_1295 rfl (lv_at hl 0 rfl) ?_
  refine lv_iload_n G.1 G.2.1 d_Law_1296 rfl (lv_at hl 3 rfl) ?_
  refine lv_iconst (v := nI 1) G.1 G.2.1 d_Law_1297 (by decide) ?_
  refine lv_iadd G.1 G.2.1 d_Law_1298 ?_
  refine tpi (w := nI 1) (by decide) ?_
  refine va_sld G.1 G.2.1 hX hbl hbA hS (nI_inn (n := 6) (a := 1) (by decide) (by decide)) d_Law_1299 ?_
  refine tpi (w := (xs 1)) (by rw [nI_clamp (by decide)]) ?_
  refine lv_aload_n G.1 G.2.1 d_Law_1300 rfl (lv_at hl 0 rfl) ?_
  refine lv_iload_n G.1 G.2.1 d_Law_1301 rfl (lv_at hl 3 rfl) ?_
  refine lv_iconst (v := nI 2) G.1 G.2.1 d_Law_1302 (by decide) ?_
  refine lv_iadd G.1 G.2.1 d_Law_1303 ?_
  refine tpi (w := nI 2) (by decide) ?_
  refine va_sld G.1 G.2.1 hX hbl hbA hS (nI_inn (n := 6) (a := 2) (by decide) (by decide)) d_Law_1304 ?_
  refine tpi (w := (xs 2)) (by rw [nI_clamp (by decide)]) ?_
  refine W.eq (g2 := F0 m 1305 ls [.int (xs 2), .int (xs 1), .ref h0X, .int (-1)]) rfl ?_
  refine kEi (wr := []) G (kV (As := [.int (xs 1), .int (xs 2)]) (rest := [.int (-1)]) G hP hD hS [0, 1, 2, 3, 4] rfl rfl (c_Mo_done l D g h0X (xs 1) (xs 2) fsX owX v0X v1X v2X v3X fw0X fw1X fw2X H.size glenX gk0X gw0X gt0X gw1X gt1X gw2X gt2X) w_Mo_done q4208 rfl rfl ⟨Nat.le_of_ble_eq_true rfl, Nat.le_of_ble_eq_true rfl⟩ (fun _ h => absurd h List.not_mem_nil) 0 (ci := 14) rfl rfl rfl hl.1 rfl (Nat.le_of_ble_eq_true rfl) rfl ⟨Nat.le_of_ble_eq_true rfl, (Nat.le_of_ble_eq_true rfl)⟩ d_Law_1305) hP hD hS [0, 1, 2, 3, 4] [] rfl rfl rfl rfl (fun r_3 u_4 H locs hw hP hD hS hzH => ?_)
  have hw : r_3 = (-1) := hw
  have hP : va_P D CL [] H := hP
  have hD : va_D A [] := hD
  subst hw
  refine tpst (w := [.int (-1), .int (-1)]) rfl ?_
  refine lv_icmp_eq (tgt := 1768) G.1 G.2.1 d_Law_1308 (by decide) (fun c1308 => ?_) (fun c1308 => absurd c1308 (fun h => h rfl))
  refine lv_iinc (v := nI 6) (lv' := [(3, .int (nI 6)), (0, .ref b), (1, .ref h0), (2, .ref h0X)]) G.1 G.2.1 d_Law_1768 hl (k := 3) rfl (show (nI 0) + Int32.ofInt 6 = nI 6 from by decide) (by decide) rfl (fun ls hl => ?_)
  refine lv_goto (tgt := 18) G.1 G.2.1 d_Law_1771 (by decide) ?_
  refine lv_iload_n G.1 G.2.1 d_Law_18 rfl (lv_at hl 0 rfl) ?_
  refine lv_aload_n G.1 G.2.1 d_Law_19 rfl (lv_at hl 1 rfl) ?_
  refine va_slen G.1 G.2.1 hX hbl hbA hS d_Law_20 ?_
  refine tpi (w := nI 6) rfl ?_
  refine lv_bipush (v := nI 6) G.1 G.2.1 d_Law_21 (by decide) ?_
  refine lv_isub G.1 G.2.1 d_Law_23 ?_
  refine tpi (w := nI 0) (by decide) ?_
  refine lv_icmp_gt (tgt := 1774) G.1 G.2.1 d_Law_24 (by decide) (fun c24 => ?_) (fun c24 => absurd c24 (by decide))
  refine lv_iconst (v := nI 1) G.1 G.2.1 d_Law_1774 (by decide) ?_
  refine va_forget (fun q hq => hAA _ (hS.2.2 q hq)) ?_
  refine W.widen (k := 600002) (n := 7302232) (Nat.le_of_ble_eq_true rfl) (Nat.le_of_ble_eq_true rfl) ?_
  exact lw_ret G.1 G.2.1 G.2.2.2.1 G.2.2.2.2.1 d_Law_1775
theorem q2352 : Cond.code y_Cw_collect b_Cw_collect 3 (some .int) ∈ lw_ok := lw_okmem (List.mem_of_getElem? (i := 2352) (by decide +kernel)) rfl
theorem q2350 : Cond.instanceMethod y_Cw_collect ∈ lw_ok := lw_okmem (List.mem_of_getElem? (i := 2350) (by decide +kernel)) rfl
theorem q2351 : Cond.selects y_Cw_collect.cls y_Cw_collect y_Cw_collect ∈ lw_ok := lw_okmem (List.mem_of_getElem? (i := 2351) (by decide +kernel)) rfl
theorem w_Cw_collect : CWv y_Cw_collect b_Cw_collect 3 (some .int) 1 ∧ Cond.instanceMethod y_Cw_collect ∈ lw_ok ∧ Cond.selects y_Cw_collect.cls y_Cw_collect y_Cw_collect ∈ lw_ok := ⟨⟨q2352, q329, by decide +kernel, by decide +kernel, by decide +kernel⟩, q2350, q2351⟩
theorem q2349 : Cond.methodLink "ClassWorksLaw" 137 y_Cw_collect ∈ lw_ok := lw_okmem (List.mem_of_getElem? (i := 2349) (by decide +kernel)) rfl
theorem q4188 : Cond.code y_Mo_collect b_Mo_collect 7 (some .int) ∈ lw_ok := lw_okmem (List.mem_of_getElem? (i := 4188) (by decide +kernel)) rfl
theorem q4186 : Cond.instanceMethod y_Mo_collect ∈ lw_ok := lw_okmem (List.mem_of_getElem? (i := 4186) (by decide +kernel)) rfl
theorem q4187 : Cond.selects y_Mo_collect.cls y_Mo_collect y_Mo_collect ∈ lw_ok := lw_okmem (List.mem_of_getElem? (i := 4187) (by decide +kernel)) rfl
theorem w_Mo_collect : CWv y_Mo_collect b_Mo_collect 7 (some .int) 1 ∧ Cond.instanceMethod y_Mo_collect ∈ lw_ok ∧ Cond.selects y_Mo_collect.cls y_Mo_collect y_Mo_collect ∈ lw_ok := ⟨⟨q4188, q348, by decide +kernel, by decide +kernel, by decide +kernel⟩, q4186, q4187⟩
theorem q4185 : Cond.methodLink "ClassWorksLaw" 140 y_Mo_collect ∈ lw_ok := lw_okmem (List.mem_of_getElem? (i := 4185) (by decide +kernel)) rfl
theorem d_Law_1313 : decode code 1313 = .ok (.aload_n 1, 1) := by decide +kernel
theorem d_Law_1314 : decode code 1314 = .ok (.aload_n 0, 1) := by decide +kernel
theorem d_Law_1315 : decode code 1315 = .ok (.iload_n 3, 1) := by decide +kernel
theorem d_Law_1316 : decode code 1316 = .ok (.iconst 1, 1) := by decide +kernel
theorem d_Law_1317 : decode code 1317 = .ok (.iadd, 1) := by decide +kernel
theorem d_Law_1318 : decode code 1318 = .ok (.iaload, 1) := by decide +kernel
theorem d_Law_1319 : decode code 1319 = .ok (.invokevirtual 137, 3) := by decide +kernel
theorem d_Law_1322 : decode code 1322 = .ok (.aload_n 2, 1) := by decide +kernel
theorem d_Law_1323 : decode code 1323 = .ok (.aload_n 0, 1) := by decide +kernel
theorem d_Law_1324 : decode code 1324 = .ok (.iload_n 3, 1) := by decide +kernel
theorem d_Law_1325 : decode code 1325 = .ok (.iconst 1, 1) := by decide +kernel
theorem d_Law_1326 : decode code 1326 = .ok (.iadd, 1) := by decide +kernel
theorem d_Law_1327 : decode code 1327 = .ok (.iaload, 1) := by decide +kernel
theorem d_Law_1328 : decode code 1328 = .ok (.invokevirtual 140, 3) := by decide +kernel
theorem d_Law_1331 : decode code 1331 = .ok (.if_icmp .eq 437, 3) := by decide +kernel
set_option maxHeartbeats 4000000 in
set_option maxRecDepth 100000 in
theorem law_collect {p : Program} {e : Env} {s : State} {m : MethodId} {below : List Frame} {meth : Method} {c : Code} {l : Launch} {D : va_G} {g : Nat → ClassId} {sl : List SL} {b : Nat} {xs : Nat → Int32} {A : Nat → Prop} (h0 : Nat) (r_cwords : Nat) (r_creader : Nat) (r_cchecker : Nat) (r_cfinder : Nat) (r_cwriter : Nat) (r_cmachines : Nat) (r_ctape : Nat) (r_cstock : Nat) (r_csizes : Nat) (r_cmet : Nat) (r_cfound : Nat) (r_cdraft : Nat) (r_cfewestFor : Nat) (r_cfewestNext : Nat) (mm0 : Nat) (mm1 : Nat) (mm2 : Nat) (mm3 : Nat) (ww0 : Nat) (r_m0heap : Nat) (r_m0runs : Nat) (r_m0counts : Nat) (r_m0traceRow : Nat) (f_m0traceCount : Int32) (r_m0startedList : Nat) (f_m0startedCount : Int32) (f_m0present : Int32) (f_m0quantum : Int32) (f_m0stepsDone : Int32) (f_m0turnSteps : Int32) (f_m0turnMost : Int32) (f_m0turnOver : Int32) (r_m0finder : Nat) (r_m0names : Nat) (f_m0fault : Int32) (f_m0wanted : Int32) (f_m0thrown : Int32) (ww1 : Nat) (r_m1heap : Nat) (r_m1runs : Nat) (r_m1counts : Nat) (r_m1traceRow : Nat) (f_m1traceCount : Int32) (r_m1startedList : Nat) (f_m1startedCount : Int32) (f_m1present : Int32) (f_m1quantum : Int32) (f_m1stepsDone : Int32) (f_m1turnSteps : Int32) (f_m1turnMost : Int32) (f_m1turnOver : Int32) (r_m1finder : Nat) (r_m1names : Nat) (f_m1fault : Int32) (f_m1wanted : Int32) (f_m1thrown : Int32) (ww2 : Nat) (r_m2heap : Nat) (r_m2runs : Nat) (r_m2counts : Nat) (r_m2traceRow : Nat) (f_m2traceCount : Int32) (r_m2startedList : Nat) (f_m2startedCount : Int32) (f_m2present : Int32) (f_m2quantum : Int32) (f_m2stepsDone : Int32) (f_m2turnSteps : Int32) (f_m2turnMost : Int32) (f_m2turnOver : Int32) (r_m2finder : Nat) (r_m2names : Nat) (f_m2fault : Int32) (f_m2wanted : Int32) (f_m2thrown : Int32) (r_w0names : Nat) (f_w0wrongClass : Int32) (f_w0wrongMethod : Int32) (f_w0wrongAt : Int32) (r_w0rows : Nat) (r_w0above : Nat) (r_w0fields : Nat) (r_w0methods : Nat) (r_w0codes : Nat) (r_w0handlers : Nat) (r_w0extra : Nat) (r_w0orders : Nat) (r_w0classNamed : Nat) (f_w0breaks : Int32) (r_w0marks : Nat) (r_w1names : Nat) (f_w1wrongClass : Int32) (f_w1wrongMethod : Int32) (f_w1wrongAt : Int32) (r_w1rows : Nat) (r_w1above : Nat) (r_w1fields : Nat) (r_w1methods : Nat) (r_w1codes : Nat) (r_w1handlers : Nat) (r_w1extra : Nat) (r_w1orders : Nat) (r_w1classNamed : Nat) (f_w1breaks : Int32) (r_w1marks : Nat) (r_w2names : Nat) (f_w2wrongClass : Int32) (f_w2wrongMethod : Int32) (f_w2wrongAt : Int32) (r_w2rows : Nat) (r_w2above : Nat) (r_w2fields : Nat) (r_w2methods : Nat) (r_w2codes : Nat) (r_w2handlers : Nat) (r_w2extra : Nat) (r_w2orders : Nat) (r_w2classNamed : Nat) (f_w2breaks : Int32) (r_w2marks : Nat) (h0X : Nat) (fsX : List Value) (owX : Nat) (v0X : Nat) (v1X : Nat) (v2X : Nat) (v3X : Nat) (fw0X : List Value) (fw1X : List Value) (fw2X : List Value) (G : GV l p s m #[Value.ref b] meth c (⟨"ClassWorksLaw", meth.name, ""⟩ : MethodName) code 4 ret g D sl A) (hX : va_X b 6 xs s s.heap) (hbl : b < s.heap.size) (hbA : ¬ A b) (hAA : ∀ q, A q → s.heap.size ≤ q) {H : Heap} {locs : List Loc} {ls : Array Slot} (glenX : fsX.length = 131) (gk0X : fsX[44]? = some (.ref owX)) (gw0X : fw0X.length = 72) (gt0X : fw0X[0]? = some (.int (nI 0))) (gw1X : fw1X.length = 72) (gt1X : fw1X[0]? = some (.int (nI 0))) (gw2X : fw2X.length = 72) (gt2X : fw2X[0]? = some (.int (nI 0))) (hP : va_P D CL [(h0, .inr (11, [.ref r_cwords, .ref r_creader, .ref r_cchecker, .ref r_cfinder, .ref r_cwriter, .ref r_cmachines, .ref r_ctape, .int (nI 0), .int (-2), .int (nI 60000), .ref r_cstock, .ref r_csizes, .ref r_cmet, .ref r_cfound, .int (nI 0), .ref r_cdraft, .int (nI 0), .int (nI 0), .ref r_cfewestFor, .ref r_cfewestNext])), (r_cmachines, .inl (g 4, 4, .inr (.inr (.inr (.inr (va_up (va_up (va_up (va_up (fun _ => none) 0 (some mm0)) 1 (some mm1)) 2 (some mm2)) 3 (some mm3))))))), (mm0, .inr (4, [.ref ww0, .ref r_m0heap, .ref r_m0runs, .ref r_m0counts, .ref r_m0traceRow, .int f_m0traceCount, .ref r_m0startedList, .int f_m0startedCount, .int f_m0present, .int f_m0quantum, .int f_m0stepsDone, .int f_m0turnSteps, .int f_m0turnMost, .int f_m0turnOver, .ref r_m0finder, .ref r_m0names, .int f_m0fault, .int f_m0wanted, .int f_m0thrown])), (mm1, .inr (4, [.ref ww1, .ref r_m1heap, .ref r_m1runs, .ref r_m1counts, .ref r_m1traceRow, .int f_m1traceCount, .ref r_m1startedList, .int f_m1startedCount, .int f_m1present, .int f_m1quantum, .int f_m1stepsDone, .int f_m1turnSteps, .int f_m1turnMost, .int f_m1turnOver, .ref r_m1finder, .ref r_m1names, .int f_m1fault, .int f_m1wanted, .int f_m1thrown])), (mm2, .inr (4, [.ref ww2, .ref r_m2heap, .ref r_m2runs, .ref r_m2counts, .ref r_m2traceRow, .int f_m2traceCount, .ref r_m2startedList, .int f_m2startedCount, .int f_m2present, .int f_m2quantum, .int f_m2stepsDone, .int f_m2turnSteps, .int f_m2turnMost, .int f_m2turnOver, .ref r_m2finder, .ref r_m2names, .int f_m2fault, .int f_m2wanted, .int f_m2thrown])), (ww0, .inr (9, [.ref r_w0names, .int (nI 0), .int (nI 21), .int f_w0wrongClass, .int f_w0wrongMethod, .int f_w0wrongAt, .ref r_w0rows, .ref r_w0above, .ref r_w0fields, .ref r_w0methods, .ref r_w0codes, .ref r_w0handlers, .ref r_w0extra, .ref r_w0orders, .ref r_w0classNamed, .int f_w0breaks, .ref r_w0marks])), (ww1, .inr (9, [.ref r_w1names, .int (nI 0), .int (nI 21), .int f_w1wrongClass, .int f_w1wrongMethod, .int f_w1wrongAt, .ref r_w1rows, .ref r_w1above, .ref r_w1fields, .ref r_w1methods, .ref r_w1codes, .ref r_w1handlers, .ref r_w1extra, .ref r_w1orders, .ref r_w1classNamed, .int f_w1breaks, .ref r_w1marks])), (ww2, .inr (9, [.ref r_w2names, .int (nI 0), .int (nI 21), .int f_w2wrongClass, .int f_w2wrongMethod, .int f_w2wrongAt, .ref r_w2rows, .ref r_w2above, .ref r_w2fields, .ref r_w2methods, .ref r_w2codes, .ref r_w2handlers, .ref r_w2extra, .ref r_w2orders, .ref r_w2classNamed, .int f_w2breaks, .ref r_w2marks])), (h0X, .inr (14, fsX)), (owX, .inl (g 6, 4, .inr (.inr (.inr (.inr (va_up (va_up (va_up (va_up (fun _ => none) 0 (some v0X)) 1 (some v1X)) 2 (some v2X)) 3 (some v3X))))))), (v0X, .inr (13, fw0X)), (v1X, .inr (13, fw1X)), (v2X, .inr (13, fw2X))] H) (hD : va_D A [(h0, .inr (11, [.ref r_cwords, .ref r_creader, .ref r_cchecker, .ref r_cfinder, .ref r_cwriter, .ref r_cmachines, .ref r_ctape, .int (nI 0), .int (-2), .int (nI 60000), .ref r_cstock, .ref r_csizes, .ref r_cmet, .ref r_cfound, .int (nI 0), .ref r_cdraft, .int (nI 0), .int (nI 0), .ref r_cfewestFor, .ref r_cfewestNext])), (r_cmachines, .inl (g 4, 4, .inr (.inr (.inr (.inr (va_up (va_up (va_up (va_up (fun _ => none) 0 (some mm0)) 1 (some mm1)) 2 (some mm2)) 3 (some mm3))))))), (mm0, .inr (4, [.ref ww0, .ref r_m0heap, .ref r_m0runs, .ref r_m0counts, .ref r_m0traceRow, .int f_m0traceCount, .ref r_m0startedList, .int f_m0startedCount, .int f_m0present, .int f_m0quantum, .int f_m0stepsDone, .int f_m0turnSteps, .int f_m0turnMost, .int f_m0turnOver, .ref r_m0finder, .ref r_m0names, .int f_m0fault, .int f_m0wanted, .int f_m0thrown])), (mm1, .inr (4, [.ref ww1, .ref r_m1heap, .ref r_m1runs, .ref r_m1counts, .ref r_m1traceRow, .int f_m1traceCount, .ref r_m1startedList, .int f_m1startedCount, .int f_m1present, .int f_m1quantum, .int f_m1stepsDone, .int f_m1turnSteps, .int f_m1turnMost, .int f_m1turnOver, .ref r_m1finder, .ref r_m1names, .int f_m1fault, .int f_m1wanted, .int f_m1thrown])), (mm2, .inr (4, [.ref ww2, .ref r_m2heap, .ref r_m2runs, .ref r_m2counts, .ref r_m2traceRow, .int f_m2traceCount, .ref r_m2startedList, .int f_m2startedCount, .int f_m2present, .int f_m2quantum, .int f_m2stepsDone, .int f_m2turnSteps, .int f_m2turnMost, .int f_m2turnOver, .ref r_m2finder, .ref r_m2names, .int f_m2fault, .int f_m2wanted, .int f_m2thrown])), (ww0, .inr (9, [.ref r_w0names, .int (nI 0), .int (nI 21), .int f_w0wrongClass, .int f_w0wrongMethod, .int f_w0wrongAt, .ref r_w0rows, .ref r_w0above, .ref r_w0fields, .ref r_w0methods, .ref r_w0codes, .ref r_w0handlers, .ref r_w0extra, .ref r_w0orders, .ref r_w0classNamed, .int f_w0breaks, .ref r_w0marks])), (ww1, .inr (9, [.ref r_w1names, .int (nI 0), .int (nI 21), .int f_w1wrongClass, .int f_w1wrongMethod, .int f_w1wrongAt, .ref r_w1rows, .ref r_w1above, .ref r_w1fields, .ref r_w1methods, .ref r_w1codes, .ref r_w1handlers, .ref r_w1extra, .ref r_w1orders, .ref r_w1classNamed, .int f_w1breaks, .ref r_w1marks])), (ww2, .inr (9, [.ref r_w2names, .int (nI 0), .int (nI 21), .int f_w2wrongClass, .int f_w2wrongMethod, .int f_w2wrongAt, .ref r_w2rows, .ref r_w2above, .ref r_w2fields, .ref r_w2methods, .ref r_w2codes, .ref r_w2handlers, .ref r_w2extra, .ref r_w2orders, .ref r_w2classNamed, .int f_w2breaks, .ref r_w2marks])), (h0X, .inr (14, fsX)), (owX, .inl (g 6, 4, .inr (.inr (.inr (.inr (va_up (va_up (va_up (va_up (fun _ => none) 0 (some v0X)) 1 (some v1X)) 2 (some v2X)) 3 (some v3X))))))), (v0X, .inr (13, fw0X)), (v1X, .inr (13, fw1X)), (v2X, .inr (13, fw2X))]) (hS : va_S A s.heap H locs) (hl : lv_has ls 4 [(0, .ref b), (1, .ref h0), (2, .ref h0X), (3, .int (nI 0))]) : W p l e room_1 s m #[Value.ref b] below meth c H locs 702 488194 (lw_Z below #[Value.ref b] s) (F0 m 1313 ls []) := by
  refine lv_aload_n G.1 G.2.1 d_Law_1313 rfl (lv_at hl 1 rfl) ?_
  refine lv_aload_n G.1 G.2.1 d_Law_1314 rfl (lv_at hl 0 rfl) ?_
  refine lv_iload_n G.1 G.2.1 d_Law_1315 rfl (lv_at hl 3 rfl) ?_
  refine lv_iconst (v := nI 1) G.1 G.2.1 d_Law_1316 (by decide) ?_
  refine lv_iadd G.1 G.2.1 d_Law_1317 ?_
  refine tpi (w := nI 1) (by decide) ?_
  refine va_sld G.1 G.2.1 hX hbl hbA hS (nI_inn (n := 6) (a := 1) (by decide) (by decide)) d_Law_1318 ?_
  refine tpi (w := (xs 1)) (by rw [nI_clamp (by decide)]) ?_
  refine kEi (wr := [(h0X, .inr (14, fsX)), (owX, .inl (g 6, 4, .inr (.inr (.inr (.inr (va_up (va_up (va_up (va_up (fun _ => none) 0 (some v0X)) 1 (some v1X)) 2 (some v2X)) 3 (some v3X))))))), (v0X, .inr (13, fw0X)), (v1X, .inr (13, fw1X)), (v2X, .inr (13, fw2X))]) G (kV (As := [.int (xs 1)]) (rest := []) G hP hD hS [0, 1, 2, 3, 4, 5, 6, 7] rfl rfl (c_Cw_collect l D g h0 (xs 1) r_cwords r_creader r_cchecker r_cfinder r_cwriter r_cmachines r_ctape r_cstock r_csizes r_cmet r_cfound r_cdraft r_cfewestFor r_cfewestNext mm0 mm1 mm2 mm3 ww0 r_m0heap r_m0runs r_m0counts r_m0traceRow f_m0traceCount r_m0startedList f_m0startedCount f_m0present f_m0quantum f_m0stepsDone f_m0turnSteps f_m0turnMost f_m0turnOver r_m0finder r_m0names f_m0fault f_m0wanted f_m0thrown ww1 r_m1heap r_m1runs r_m1counts r_m1traceRow f_m1traceCount r_m1startedList f_m1startedCount f_m1present f_m1quantum f_m1stepsDone f_m1turnSteps f_m1turnMost f_m1turnOver r_m1finder r_m1names f_m1fault f_m1wanted f_m1thrown ww2 r_m2heap r_m2runs r_m2counts r_m2traceRow f_m2traceCount r_m2startedList f_m2startedCount f_m2present f_m2quantum f_m2stepsDone f_m2turnSteps f_m2turnMost f_m2turnOver r_m2finder r_m2names f_m2fault f_m2wanted f_m2thrown r_w0names f_w0wrongClass f_w0wrongMethod f_w0wrongAt r_w0rows r_w0above r_w0fields r_w0methods r_w0codes r_w0handlers r_w0extra r_w0orders r_w0classNamed f_w0breaks r_w0marks r_w1names f_w1wrongClass f_w1wrongMethod f_w1wrongAt r_w1rows r_w1above r_w1fields r_w1methods r_w1codes r_w1handlers r_w1extra r_w1orders r_w1classNamed f_w1breaks r_w1marks r_w2names f_w2wrongClass f_w2wrongMethod f_w2wrongAt r_w2rows r_w2above r_w2fields r_w2methods r_w2codes r_w2handlers r_w2extra r_w2orders r_w2classNamed f_w2breaks r_w2marks H.size ) w_Cw_collect q2349 rfl rfl ⟨Nat.le_of_ble_eq_true rfl, Nat.le_of_ble_eq_true rfl⟩ (fun _ h => absurd h List.not_mem_nil) 0 (ci := 11) rfl rfl rfl hl.1 rfl (Nat.le_of_ble_eq_true rfl) rfl ⟨Nat.le_of_ble_eq_true rfl, (Nat.le_of_ble_eq_true rfl)⟩ d_Law_1319) hP hD hS [0, 1, 2, 3, 4, 5, 6, 7] [8, 9, 10, 11, 12] rfl rfl rfl rfl (fun r_1 u_2 H locs hw hP hD hS hzH => ?_)
  have hw : r_1 = (-1) := hw
  have hP : va_P D CL [(h0X, .inr (14, fsX)), (owX, .inl (g 6, 4, .inr (.inr (.inr (.inr (va_up (va_up (va_up (va_up (fun _ => none) 0 (some v0X)) 1 (some v1X)) 2 (some v2X)) 3 (some v3X))))))), (v0X, .inr (13, fw0X)), (v1X, .inr (13, fw1X)), (v2X, .inr (13, fw2X))] H := hP
  have hD : va_D A [(h0X, .inr (14, fsX)), (owX, .inl (g 6, 4, .inr (.inr (.inr (.inr (va_up (va_up (va_up (va_up (fun _ => none) 0 (some v0X)) 1 (some v1X)) 2 (some v2X)) 3 (some v3X))))))), (v0X, .inr (13, fw0X)), (v1X, .inr (13, fw1X)), (v2X, .inr (13, fw2X))] := hD
  subst hw
  refine tpst (w := [.int (-1)]) rfl ?_
  refine lv_aload_n G.1 G.2.1 d_Law_1322 rfl (lv_at hl 2 rfl) ?_
  refine lv_aload_n G.1 G.2.1 d_Law_1323 rfl (lv_at hl 0 rfl) ?_
  refine lv_iload_n G.1 G.2.1 d_Law_1324 rfl (lv_at hl 3 rfl) ?_
  refine lv_iconst (v := nI 1) G.1 G.2.1 d_Law_1325 (by decide) ?_
  refine W.eq (g2 := F0 m 1326 ls [.int (nI 1), .int (nI 0), .ref b, .ref h0X, .int (-1)]) rfl ?_
  refine lv_iadd G.1 G.2.1 d_Law_1326 ?_
  refine tpi (w := nI 1) (by decide) ?_
  refine va_sld G.1 G.2.1 hX hbl hbA hS (nI_inn (n := 6) (a := 1) (by decide) (by decide)) d_Law_1327 ?_
  refine tpi (w := (xs 1)) (by rw [nI_clamp (by decide)]) ?_
  refine kEi (wr := []) G (kV (As := [.int (xs 1)]) (rest := [.int (-1)]) G hP hD hS [0, 1, 2, 3, 4] rfl rfl (c_Mo_collect l D g h0X (xs 1) fsX owX v0X v1X v2X v3X fw0X fw1X fw2X H.size glenX gk0X gw0X gt0X gw1X gt1X gw2X gt2X) w_Mo_collect q4185 rfl rfl ⟨Nat.le_of_ble_eq_true rfl, Nat.le_of_ble_eq_true rfl⟩ (fun _ h => absurd h List.not_mem_nil) 0 (ci := 14) rfl rfl rfl hl.1 rfl (Nat.le_of_ble_eq_true rfl) rfl ⟨Nat.le_of_ble_eq_true rfl, (Nat.le_of_ble_eq_true rfl)⟩ d_Law_1328) hP hD hS [0, 1, 2, 3, 4] [] rfl rfl rfl rfl (fun r_3 u_4 H locs hw hP hD hS hzH => ?_)
  have hw : r_3 = (-1) := hw
  have hP : va_P D CL [] H := hP
  have hD : va_D A [] := hD
  subst hw
  refine tpst (w := [.int (-1), .int (-1)]) rfl ?_
  refine lv_icmp_eq (tgt := 1768) G.1 G.2.1 d_Law_1331 (by decide) (fun c1331 => ?_) (fun c1331 => absurd c1331 (fun h => h rfl))
  refine lv_iinc (v := nI 6) (lv' := [(3, .int (nI 6)), (0, .ref b), (1, .ref h0), (2, .ref h0X)]) G.1 G.2.1 d_Law_1768 hl (k := 3) rfl (show (nI 0) + Int32.ofInt 6 = nI 6 from by decide) (by decide) rfl (fun ls hl => ?_)
  refine lv_goto (tgt := 18) G.1 G.2.1 d_Law_1771 (by decide) ?_
  refine lv_iload_n G.1 G.2.1 d_Law_18 rfl (lv_at hl 0 rfl) ?_
  refine lv_aload_n G.1 G.2.1 d_Law_19 rfl (lv_at hl 1 rfl) ?_
  refine va_slen G.1 G.2.1 hX hbl hbA hS d_Law_20 ?_
  refine tpi (w := nI 6) rfl ?_
  refine lv_bipush (v := nI 6) G.1 G.2.1 d_Law_21 (by decide) ?_
  refine lv_isub G.1 G.2.1 d_Law_23 ?_
  refine tpi (w := nI 0) (by decide) ?_
  refine lv_icmp_gt (tgt := 1774) G.1 G.2.1 d_Law_24 (by decide) (fun c24 => ?_) (fun c24 => absurd c24 (by decide))
  refine W.eq (g2 := F0 m 1774 ls []) rfl ?_
  refine lv_iconst (v := nI 1) G.1 G.2.1 d_Law_1774 (by decide) ?_
  refine va_forget (fun q hq => hAA _ (hS.2.2 q hq)) ?_
  refine W.widen (k := 600002) (n := 7302232) (Nat.le_of_ble_eq_true rfl) (Nat.le_of_ble_eq_true rfl) ?_
  exact lw_ret G.1 G.2.1 G.2.2.2.1 G.2.2.2.2.1 d_Law_1775
theorem q2390 : Cond.code y_Cw_differ b_Cw_differ 8 (some .int) ∈ lw_ok := lw_okmem (List.mem_of_getElem? (i := 2390) (by decide +kernel)) rfl
theorem q2388 : Cond.instanceMethod y_Cw_differ ∈ lw_ok := lw_okmem (List.mem_of_getElem? (i := 2388) (by decide +kernel)) rfl
theorem q2389 : Cond.selects y_Cw_differ.cls y_Cw_differ y_Cw_differ ∈ lw_ok := lw_okmem (List.mem_of_getElem? (i := 2389) (by decide +kernel)) rfl
theorem w_Cw_differ : CWv y_Cw_differ b_Cw_differ 8 (some .int) 5 ∧ Cond.instanceMethod y_Cw_differ ∈ lw_ok ∧ Cond.selects y_Cw_differ.cls y_Cw_differ y_Cw_differ ∈ lw_ok := ⟨⟨q2390, q329, by decide +kernel, by decide +kernel, by decide +kernel⟩, q2388, q2389⟩
theorem q2387 : Cond.methodLink "ClassWorksLaw" 141 y_Cw_differ ∈ lw_ok := lw_okmem (List.mem_of_getElem? (i := 2387) (by decide +kernel)) rfl
theorem q4196 : Cond.code y_Mo_differ b_Mo_differ 11 (some .int) ∈ lw_ok := lw_okmem (List.mem_of_getElem? (i := 4196) (by decide +kernel)) rfl
theorem q4194 : Cond.instanceMethod y_Mo_differ ∈ lw_ok := lw_okmem (List.mem_of_getElem? (i := 4194) (by decide +kernel)) rfl
theorem q4195 : Cond.selects y_Mo_differ.cls y_Mo_differ y_Mo_differ ∈ lw_ok := lw_okmem (List.mem_of_getElem? (i := 4195) (by decide +kernel)) rfl
theorem w_Mo_differ : CWv y_Mo_differ b_Mo_differ 11 (some .int) 5 ∧ Cond.instanceMethod y_Mo_differ ∈ lw_ok ∧ Cond.selects y_Mo_differ.cls y_Mo_differ y_Mo_differ ∈ lw_ok := ⟨⟨q4196, q348, by decide +kernel, by decide +kernel, by decide +kernel⟩, q4194, q4195⟩
theorem q4193 : Cond.methodLink "ClassWorksLaw" 144 y_Mo_differ ∈ lw_ok := lw_okmem (List.mem_of_getElem? (i := 4193) (by decide +kernel)) rfl
theorem d_Law_1336 : decode code 1336 = .ok (.aload_n 1, 1) := by decide +kernel
theorem d_Law_1337 : decode code 1337 = .ok (.aload_n 0, 1) := by decide +kernel
theorem d_Law_1338 : decode code 1338 = .ok (.iload_n 3, 1) := by decide +kernel
theorem d_Law_1339 : decode code 1339 = .ok (.iconst 1, 1) := by decide +kernel
theorem d_Law_1340 : decode code 1340 = .ok (.iadd, 1) := by decide +kernel
theorem d_Law_1341 : decode code 1341 = .ok (.iaload, 1) := by decide +kernel
theorem d_Law_1342 : decode code 1342 = .ok (.aload_n 0, 1) := by decide +kernel
theorem d_Law_1343 : decode code 1343 = .ok (.iload_n 3, 1) := by decide +kernel
theorem d_Law_1344 : decode code 1344 = .ok (.iconst 2, 1) := by decide +kernel
theorem d_Law_1345 : decode code 1345 = .ok (.iadd, 1) := by decide +kernel
theorem d_Law_1346 : decode code 1346 = .ok (.iaload, 1) := by decide +kernel
theorem d_Law_1347 : decode code 1347 = .ok (.aload_n 0, 1) := by decide +kernel
theorem d_Law_1348 : decode code 1348 = .ok (.iload_n 3, 1) := by decide +kernel
theorem d_Law_1349 : decode code 1349 = .ok (.iconst 3, 1) := by decide +kernel
theorem d_Law_1350 : decode code 1350 = .ok (.iadd, 1) := by decide +kernel
theorem d_Law_1351 : decode code 1351 = .ok (.iaload, 1) := by decide +kernel
theorem d_Law_1352 : decode code 1352 = .ok (.aload_n 0, 1) := by decide +kernel
theorem d_Law_1353 : decode code 1353 = .ok (.iload_n 3, 1) := by decide +kernel
theorem d_Law_1354 : decode code 1354 = .ok (.iconst 4, 1) := by decide +kernel
theorem d_Law_1355 : decode code 1355 = .ok (.iadd, 1) := by decide +kernel
theorem d_Law_1356 : decode code 1356 = .ok (.iaload, 1) := by decide +kernel
theorem d_Law_1357 : decode code 1357 = .ok (.aload_n 0, 1) := by decide +kernel
theorem d_Law_1358 : decode code 1358 = .ok (.iload_n 3, 1) := by decide +kernel
theorem d_Law_1359 : decode code 1359 = .ok (.iconst 5, 1) := by decide +kernel
theorem d_Law_1360 : decode code 1360 = .ok (.iadd, 1) := by decide +kernel
theorem d_Law_1361 : decode code 1361 = .ok (.iaload, 1) := by decide +kernel
theorem d_Law_1362 : decode code 1362 = .ok (.invokevirtual 141, 3) := by decide +kernel
theorem d_Law_1365 : decode code 1365 = .ok (.aload_n 2, 1) := by decide +kernel
theorem d_Law_1366 : decode code 1366 = .ok (.aload_n 0, 1) := by decide +kernel
theorem d_Law_1367 : decode code 1367 = .ok (.iload_n 3, 1) := by decide +kernel
theorem d_Law_1368 : decode code 1368 = .ok (.iconst 1, 1) := by decide +kernel
theorem d_Law_1369 : decode code 1369 = .ok (.iadd, 1) := by decide +kernel
theorem d_Law_1370 : decode code 1370 = .ok (.iaload, 1) := by decide +kernel
theorem d_Law_1371 : decode code 1371 = .ok (.aload_n 0, 1) := by decide +kernel
theorem d_Law_1372 : decode code 1372 = .ok (.iload_n 3, 1) := by decide +kernel
theorem d_Law_1373 : decode code 1373 = .ok (.iconst 2, 1) := by decide +kernel
theorem d_Law_1374 : decode code 1374 = .ok (.iadd, 1) := by decide +kernel
theorem d_Law_1375 : decode code 1375 = .ok (.iaload, 1) := by decide +kernel
theorem d_Law_1376 : decode code 1376 = .ok (.aload_n 0, 1) := by decide +kernel
theorem d_Law_1377 : decode code 1377 = .ok (.iload_n 3, 1) := by decide +kernel
theorem d_Law_1378 : decode code 1378 = .ok (.iconst 3, 1) := by decide +kernel
theorem d_Law_1379 : decode code 1379 = .ok (.iadd, 1) := by decide +kernel
theorem d_Law_1380 : decode code 1380 = .ok (.iaload, 1) := by decide +kernel
theorem d_Law_1381 : decode code 1381 = .ok (.aload_n 0, 1) := by decide +kernel
theorem d_Law_1382 : decode code 1382 = .ok (.iload_n 3, 1) := by decide +kernel
theorem d_Law_1383 : decode code 1383 = .ok (.iconst 4, 1) := by decide +kernel
theorem d_Law_1384 : decode code 1384 = .ok (.iadd, 1) := by decide +kernel
theorem d_Law_1385 : decode code 1385 = .ok (.iaload, 1) := by decide +kernel
theorem d_Law_1386 : decode code 1386 = .ok (.aload_n 0, 1) := by decide +kernel
theorem d_Law_1387 : decode code 1387 = .ok (.iload_n 3, 1) := by decide +kernel
theorem d_Law_1388 : decode code 1388 = .ok (.iconst 5, 1) := by decide +kernel
theorem d_Law_1389 : decode code 1389 = .ok (.iadd, 1) := by decide +kernel
theorem d_Law_1390 : decode code 1390 = .ok (.iaload, 1) := by decide +kernel
theorem d_Law_1391 : decode code 1391 = .ok (.invokevirtual 144, 3) := by decide +kernel
theorem d_Law_1394 : decode code 1394 = .ok (.if_icmp .eq 374, 3) := by decide +kernel
set_option maxHeartbeats 4000000 in
set_option maxRecDepth 100000 in
theorem law_differ {p : Program} {e : Env} {s : State} {m : MethodId} {below : List Frame} {meth : Method} {c : Code} {l : Launch} {D : va_G} {g : Nat → ClassId} {sl : List SL} {b : Nat} {xs : Nat → Int32} {A : Nat → Prop} (h0 : Nat) (r_cwords : Nat) (r_creader : Nat) (r_cchecker : Nat) (r_cfinder : Nat) (r_cwriter : Nat) (r_cmachines : Nat) (r_ctape : Nat) (r_cstock : Nat) (r_csizes : Nat) (r_cmet : Nat) (r_cfound : Nat) (r_cdraft : Nat) (r_cfewestFor : Nat) (r_cfewestNext : Nat) (mm0 : Nat) (mm1 : Nat) (mm2 : Nat) (mm3 : Nat) (ww0 : Nat) (r_m0heap : Nat) (r_m0runs : Nat) (r_m0counts : Nat) (r_m0traceRow : Nat) (f_m0traceCount : Int32) (r_m0startedList : Nat) (f_m0startedCount : Int32) (f_m0present : Int32) (f_m0quantum : Int32) (f_m0stepsDone : Int32) (f_m0turnSteps : Int32) (f_m0turnMost : Int32) (f_m0turnOver : Int32) (r_m0finder : Nat) (r_m0names : Nat) (f_m0fault : Int32) (f_m0wanted : Int32) (f_m0thrown : Int32) (ww1 : Nat) (r_m1heap : Nat) (r_m1runs : Nat) (r_m1counts : Nat) (r_m1traceRow : Nat) (f_m1traceCount : Int32) (r_m1startedList : Nat) (f_m1startedCount : Int32) (f_m1present : Int32) (f_m1quantum : Int32) (f_m1stepsDone : Int32) (f_m1turnSteps : Int32) (f_m1turnMost : Int32) (f_m1turnOver : Int32) (r_m1finder : Nat) (r_m1names : Nat) (f_m1fault : Int32) (f_m1wanted : Int32) (f_m1thrown : Int32) (ww2 : Nat) (r_m2heap : Nat) (r_m2runs : Nat) (r_m2counts : Nat) (r_m2traceRow : Nat) (f_m2traceCount : Int32) (r_m2startedList : Nat) (f_m2startedCount : Int32) (f_m2present : Int32) (f_m2quantum : Int32) (f_m2stepsDone : Int32) (f_m2turnSteps : Int32) (f_m2turnMost : Int32) (f_m2turnOver : Int32) (r_m2finder : Nat) (r_m2names : Nat) (f_m2fault : Int32) (f_m2wanted : Int32) (f_m2thrown : Int32) (r_w0names : Nat) (f_w0wrongClass : Int32) (f_w0wrongMethod : Int32) (f_w0wrongAt : Int32) (r_w0rows : Nat) (r_w0above : Nat) (r_w0fields : Nat) (r_w0methods : Nat) (r_w0codes : Nat) (r_w0handlers : Nat) (r_w0extra : Nat) (r_w0orders : Nat) (r_w0classNamed : Nat) (f_w0breaks : Int32) (r_w0marks : Nat) (r_w1names : Nat) (f_w1wrongClass : Int32) (f_w1wrongMethod : Int32) (f_w1wrongAt : Int32) (r_w1rows : Nat) (r_w1above : Nat) (r_w1fields : Nat) (r_w1methods : Nat) (r_w1codes : Nat) (r_w1handlers : Nat) (r_w1extra : Nat) (r_w1orders : Nat) (r_w1classNamed : Nat) (f_w1breaks : Int32) (r_w1marks : Nat) (r_w2names : Nat) (f_w2wrongClass : Int32) (f_w2wrongMethod : Int32) (f_w2wrongAt : Int32) (r_w2rows : Nat) (r_w2above : Nat) (r_w2fields : Nat) (r_w2methods : Nat) (r_w2codes : Nat) (r_w2handlers : Nat) (r_w2extra : Nat) (r_w2orders : Nat) (r_w2classNamed : Nat) (f_w2breaks : Int32) (r_w2marks : Nat) (h0X : Nat) (fsX : List Value) (owX : Nat) (v0X : Nat) (v1X : Nat) (v2X : Nat) (v3X : Nat) (fw0X : List Value) (fw1X : List Value) (fw2X : List Value) (G : GV l p s m #[Value.ref b] meth c (⟨"ClassWorksLaw", meth.name, ""⟩ : MethodName) code 4 ret g D sl A) (hX : va_X b 6 xs s s.heap) (hbl : b < s.heap.size) (hbA : ¬ A b) (hAA : ∀ q, A q → s.heap.size ≤ q) {H : Heap} {locs : List Loc} {ls : Array Slot} (glenX : fsX.length = 131) (gk0X : fsX[44]? = some (.ref owX)) (gw0X : fw0X.length = 72) (gt0X : fw0X[0]? = some (.int (nI 0))) (gw1X : fw1X.length = 72) (gt1X : fw1X[0]? = some (.int (nI 0))) (gw2X : fw2X.length = 72) (gt2X : fw2X[0]? = some (.int (nI 0))) (hP : va_P D CL [(h0, .inr (11, [.ref r_cwords, .ref r_creader, .ref r_cchecker, .ref r_cfinder, .ref r_cwriter, .ref r_cmachines, .ref r_ctape, .int (nI 0), .int (-2), .int (nI 60000), .ref r_cstock, .ref r_csizes, .ref r_cmet, .ref r_cfound, .int (nI 0), .ref r_cdraft, .int (nI 0), .int (nI 0), .ref r_cfewestFor, .ref r_cfewestNext])), (r_cmachines, .inl (g 4, 4, .inr (.inr (.inr (.inr (va_up (va_up (va_up (va_up (fun _ => none) 0 (some mm0)) 1 (some mm1)) 2 (some mm2)) 3 (some mm3))))))), (mm0, .inr (4, [.ref ww0, .ref r_m0heap, .ref r_m0runs, .ref r_m0counts, .ref r_m0traceRow, .int f_m0traceCount, .ref r_m0startedList, .int f_m0startedCount, .int f_m0present, .int f_m0quantum, .int f_m0stepsDone, .int f_m0turnSteps, .int f_m0turnMost, .int f_m0turnOver, .ref r_m0finder, .ref r_m0names, .int f_m0fault, .int f_m0wanted, .int f_m0thrown])), (mm1, .inr (4, [.ref ww1, .ref r_m1heap, .ref r_m1runs, .ref r_m1counts, .ref r_m1traceRow, .int f_m1traceCount, .ref r_m1startedList, .int f_m1startedCount, .int f_m1present, .int f_m1quantum, .int f_m1stepsDone, .int f_m1turnSteps, .int f_m1turnMost, .int f_m1turnOver, .ref r_m1finder, .ref r_m1names, .int f_m1fault, .int f_m1wanted, .int f_m1thrown])), (mm2, .inr (4, [.ref ww2, .ref r_m2heap, .ref r_m2runs, .ref r_m2counts, .ref r_m2traceRow, .int f_m2traceCount, .ref r_m2startedList, .int f_m2startedCount, .int f_m2present, .int f_m2quantum, .int f_m2stepsDone, .int f_m2turnSteps, .int f_m2turnMost, .int f_m2turnOver, .ref r_m2finder, .ref r_m2names, .int f_m2fault, .int f_m2wanted, .int f_m2thrown])), (ww0, .inr (9, [.ref r_w0names, .int (nI 0), .int (nI 21), .int f_w0wrongClass, .int f_w0wrongMethod, .int f_w0wrongAt, .ref r_w0rows, .ref r_w0above, .ref r_w0fields, .ref r_w0methods, .ref r_w0codes, .ref r_w0handlers, .ref r_w0extra, .ref r_w0orders, .ref r_w0classNamed, .int f_w0breaks, .ref r_w0marks])), (ww1, .inr (9, [.ref r_w1names, .int (nI 0), .int (nI 21), .int f_w1wrongClass, .int f_w1wrongMethod, .int f_w1wrongAt, .ref r_w1rows, .ref r_w1above, .ref r_w1fields, .ref r_w1methods, .ref r_w1codes, .ref r_w1handlers, .ref r_w1extra, .ref r_w1orders, .ref r_w1classNamed, .int f_w1breaks, .ref r_w1marks])), (ww2, .inr (9, [.ref r_w2names, .int (nI 0), .int (nI 21), .int f_w2wrongClass, .int f_w2wrongMethod, .int f_w2wrongAt, .ref r_w2rows, .ref r_w2above, .ref r_w2fields, .ref r_w2methods, .ref r_w2codes, .ref r_w2handlers, .ref r_w2extra, .ref r_w2orders, .ref r_w2classNamed, .int f_w2breaks, .ref r_w2marks])), (h0X, .inr (14, fsX)), (owX, .inl (g 6, 4, .inr (.inr (.inr (.inr (va_up (va_up (va_up (va_up (fun _ => none) 0 (some v0X)) 1 (some v1X)) 2 (some v2X)) 3 (some v3X))))))), (v0X, .inr (13, fw0X)), (v1X, .inr (13, fw1X)), (v2X, .inr (13, fw2X))] H) (hD : va_D A [(h0, .inr (11, [.ref r_cwords, .ref r_creader, .ref r_cchecker, .ref r_cfinder, .ref r_cwriter, .ref r_cmachines, .ref r_ctape, .int (nI 0), .int (-2), .int (nI 60000), .ref r_cstock, .ref r_csizes, .ref r_cmet, .ref r_cfound, .int (nI 0), .ref r_cdraft, .int (nI 0), .int (nI 0), .ref r_cfewestFor, .ref r_cfewestNext])), (r_cmachines, .inl (g 4, 4, .inr (.inr (.inr (.inr (va_up (va_up (va_up (va_up (fun _ => none) 0 (some mm0)) 1 (some mm1)) 2 (some mm2)) 3 (some mm3))))))), (mm0, .inr (4, [.ref ww0, .ref r_m0heap, .ref r_m0runs, .ref r_m0counts, .ref r_m0traceRow, .int f_m0traceCount, .ref r_m0startedList, .int f_m0startedCount, .int f_m0present, .int f_m0quantum, .int f_m0stepsDone, .int f_m0turnSteps, .int f_m0turnMost, .int f_m0turnOver, .ref r_m0finder, .ref r_m0names, .int f_m0fault, .int f_m0wanted, .int f_m0thrown])), (mm1, .inr (4, [.ref ww1, .ref r_m1heap, .ref r_m1runs, .ref r_m1counts, .ref r_m1traceRow, .int f_m1traceCount, .ref r_m1startedList, .int f_m1startedCount, .int f_m1present, .int f_m1quantum, .int f_m1stepsDone, .int f_m1turnSteps, .int f_m1turnMost, .int f_m1turnOver, .ref r_m1finder, .ref r_m1names, .int f_m1fault, .int f_m1wanted, .int f_m1thrown])), (mm2, .inr (4, [.ref ww2, .ref r_m2heap, .ref r_m2runs, .ref r_m2counts, .ref r_m2traceRow, .int f_m2traceCount, .ref r_m2startedList, .int f_m2startedCount, .int f_m2present, .int f_m2quantum, .int f_m2stepsDone, .int f_m2turnSteps, .int f_m2turnMost, .int f_m2turnOver, .ref r_m2finder, .ref r_m2names, .int f_m2fault, .int f_m2wanted, .int f_m2thrown])), (ww0, .inr (9, [.ref r_w0names, .int (nI 0), .int (nI 21), .int f_w0wrongClass, .int f_w0wrongMethod, .int f_w0wrongAt, .ref r_w0rows, .ref r_w0above, .ref r_w0fields, .ref r_w0methods, .ref r_w0codes, .ref r_w0handlers, .ref r_w0extra, .ref r_w0orders, .ref r_w0classNamed, .int f_w0breaks, .ref r_w0marks])), (ww1, .inr (9, [.ref r_w1names, .int (nI 0), .int (nI 21), .int f_w1wrongClass, .int f_w1wrongMethod, .int f_w1wrongAt, .ref r_w1rows, .ref r_w1above, .ref r_w1fields, .ref r_w1methods, .ref r_w1codes, .ref r_w1handlers, .ref r_w1extra, .ref r_w1orders, .ref r_w1classNamed, .int f_w1breaks, .ref r_w1marks])), (ww2, .inr (9, [.ref r_w2names, .int (nI 0), .int (nI 21), .int f_w2wrongClass, .int f_w2wrongMethod, .int f_w2wrongAt, .ref r_w2rows, .ref r_w2above, .ref r_w2fields, .ref r_w2methods, .ref r_w2codes, .ref r_w2handlers, .ref r_w2extra, .ref r_w2orders, .ref r_w2classNamed, .int f_w2breaks, .ref r_w2marks])), (h0X, .inr (14, fsX)), (owX, .inl (g 6, 4, .inr (.inr (.inr (.inr (va_up (va_up (va_up (va_up (fun _ => none) 0 (some v0X)) 1 (some v1X)) 2 (some v2X)) 3 (some v3X))))))), (v0X, .inr (13, fw0X)), (v1X, .inr (13, fw1X)), (v2X, .inr (13, fw2X))]) (hS : va_S A s.heap H locs) (hl : lv_has ls 4 [(0, .ref b), (1, .ref h0), (2, .ref h0X), (3, .int (nI 0))]) : W p l e room_1 s m #[Value.ref b] below meth c H locs 702 488194 (lw_Z below #[Value.ref b] s) (F0 m 1336 ls []) := by
  refine lv_aload_n G.1 G.2.1 d_Law_1336 rfl (lv_at hl 1 rfl) ?_
  refine lv_aload_n G.1 G.2.1 d_Law_1337 rfl (lv_at hl 0 rfl) ?_
  refine lv_iload_n G.1 G.2.1 d_Law_1338 rfl (lv_at hl 3 rfl) ?_
  refine lv_iconst (v := nI 1) G.1 G.2.1 d_Law_1339 (by decide) ?_
  refine lv_iadd G.1 G.2.1 d_Law_1340 ?_
  refine tpi (w := nI 1) (by decide) ?_
  refine va_sld G.1 G.2.1 hX hbl hbA hS (nI_inn (n := 6) (a := 1) (by decide) (by decide)) d_Law_1341 ?_
  refine tpi (w := (xs 1)) (by rw [nI_clamp (by decide)]) ?_
  refine lv_aload_n G.1 G.2.1 d_Law_1342 rfl (lv_at hl 0 rfl) ?_
  refine lv_iload_n G.1 G.2.1 d_Law_1343 rfl (lv_at hl 3 rfl) ?_
  refine lv_iconst (v := nI 2) G.1 G.2.1 d_Law_1344 (by decide) ?_
  refine lv_iadd G.1 G.2.1 d_Law_1345 ?_
  refine tpi (w := nI 2) (by decide) ?_
  refine va_sld G.1 G.2.1 hX hbl hbA hS (nI_inn (n := 6) (a := 2) (by decide) (by decide)) d_Law_1346 ?_
  refine tpi (w := (xs 2)) (by rw [nI_clamp (by decide)]) ?_
  refine W.eq (g2 := F0 m 1347 ls [.int (xs 2), .int (xs 1), .ref h0]) rfl ?_
  refine lv_aload_n G.1 G.2.1 d_Law_1347 rfl (lv_at hl 0 rfl) ?_
  refine lv_iload_n G.1 G.2.1 d_Law_1348 rfl (lv_at hl 3 rfl) ?_
  refine lv_iconst (v := nI 3) G.1 G.2.1 d_Law_1349 (by decide) ?_
  refine lv_iadd G.1 G.2.1 d_Law_1350 ?_
  refine tpi (w := nI 3) (by decide) ?_
  refine va_sld G.1 G.2.1 hX hbl hbA hS (nI_inn (n := 6) (a := 3) (by decide) (by decide)) d_Law_1351 ?_
  refine tpi (w := (xs 3)) (by rw [nI_clamp (by decide)]) ?_
  refine lv_aload_n G.1 G.2.1 d_Law_1352 rfl (lv_at hl 0 rfl) ?_
  refine lv_iload_n G.1 G.2.1 d_Law_1353 rfl (lv_at hl 3 rfl) ?_
  refine lv_iconst (v := nI 4) G.1 G.2.1 d_Law_1354 (by decide) ?_
  refine lv_iadd G.1 G.2.1 d_Law_1355 ?_
  refine tpi (w := nI 4) (by decide) ?_
  refine va_sld G.1 G.2.1 hX hbl hbA hS (nI_inn (n := 6) (a := 4) (by decide) (by decide)) d_Law_1356 ?_
  refine tpi (w := (xs 4)) (by rw [nI_clamp (by decide)]) ?_
  refine lv_aload_n G.1 G.2.1 d_Law_1357 rfl (lv_at hl 0 rfl) ?_
  refine lv_iload_n G.1 G.2.1 d_Law_1358 rfl (lv_at hl 3 rfl) ?_
  refine W.eq (g2 := F0 m 1359 ls [.int (nI 0), .ref b, .int (xs 4), .int (xs 3), .int (xs 2), .int (xs 1), .ref h0]) rfl ?_
  refine lv_iconst (v := nI 5) G.1 G.2.1 d_Law_1359 (by decide) ?_
  refine lv_iadd G.1 G.2.1 d_Law_1360 ?_
  refine tpi (w := nI 5) (by decide) ?_
  refine va_sld G.1 G.2.1 hX hbl hbA hS (nI_inn (n := 6) (a := 5) (by decide) (by decide)) d_Law_1361 ?_
  refine tpi (w := (xs 5)) (by rw [nI_clamp (by decide)]) ?_
  refine kEi (wr := [(h0X, .inr (14, fsX)), (owX, .inl (g 6, 4, .inr (.inr (.inr (.inr (va_up (va_up (va_up (va_up (fun _ => none) 0 (some v0X)) 1 (some v1X)) 2 (some v2X)) 3 (some v3X))))))), (v0X, .inr (13, fw0X)), (v1X, .inr (13, fw1X)), (v2X, .inr (13, fw2X))]) G (kV (As := [.int (xs 1), .int (xs 2), .int (xs 3), .int (xs 4), .int (xs 5)]) (rest := []) G hP hD hS [0, 1, 2, 3, 4, 5, 6, 7] rfl rfl (c_Cw_differ l D g h0 (xs 1) (xs 2) (xs 3) (xs 4) (xs 5) r_cwords r_creader r_cchecker r_cfinder r_cwriter r_cmachines r_ctape r_cstock r_csizes r_cmet r_cfound r_cdraft r_cfewestFor r_cfewestNext mm0 mm1 mm2 mm3 ww0 r_m0heap r_m0runs r_m0counts r_m0traceRow f_m0traceCount r_m0startedList f_m0startedCount f_m0present f_m0quantum f_m0stepsDone f_m0turnSteps f_m0turnMost f_m0turnOver r_m0finder r_m0names f_m0fault f_m0wanted f_m0thrown ww1 r_m1heap r_m1runs r_m1counts r_m1traceRow f_m1traceCount r_m1startedList f_m1startedCount f_m1present f_m1quantum f_m1stepsDone f_m1turnSteps f_m1turnMost f_m1turnOver r_m1finder r_m1names f_m1fault f_m1wanted f_m1thrown ww2 r_m2heap r_m2runs r_m2counts r_m2traceRow f_m2traceCount r_m2startedList f_m2startedCount f_m2present f_m2quantum f_m2stepsDone f_m2turnSteps f_m2turnMost f_m2turnOver r_m2finder r_m2names f_m2fault f_m2wanted f_m2thrown r_w0names f_w0wrongClass f_w0wrongMethod f_w0wrongAt r_w0rows r_w0above r_w0fields r_w0methods r_w0codes r_w0handlers r_w0extra r_w0orders r_w0classNamed f_w0breaks r_w0marks r_w1names f_w1wrongClass f_w1wrongMethod f_w1wrongAt r_w1rows r_w1above r_w1fields r_w1methods r_w1codes r_w1handlers r_w1extra r_w1orders r_w1classNamed f_w1breaks r_w1marks r_w2names f_w2wrongClass f_w2wrongMethod f_w2wrongAt r_w2rows r_w2above r_w2fields r_w2methods r_w2codes r_w2handlers r_w2extra r_w2orders r_w2classNamed f_w2breaks r_w2marks H.size ) w_Cw_differ q2387 rfl rfl ⟨Nat.le_of_ble_eq_true rfl, Nat.le_of_ble_eq_true rfl⟩ (fun _ h => absurd h List.not_mem_nil) 0 (ci := 11) rfl rfl rfl hl.1 rfl (Nat.le_of_ble_eq_true rfl) rfl ⟨Nat.le_of_ble_eq_true rfl, (Nat.le_of_ble_eq_true rfl)⟩ d_Law_1362) hP hD hS [0, 1, 2, 3, 4, 5, 6, 7] [8, 9, 10, 11, 12] rfl rfl rfl rfl (fun r_1 u_2 H locs hw hP hD hS hzH => ?_)
  have hw : r_1 = (-1) := hw
  have hP : va_P D CL [(h0X, .inr (14, fsX)), (owX, .inl (g 6, 4, .inr (.inr (.inr (.inr (va_up (va_up (va_up (va_up (fun _ => none) 0 (some v0X)) 1 (some v1X)) 2 (some v2X)) 3 (some v3X))))))), (v0X, .inr (13, fw0X)), (v1X, .inr (13, fw1X)), (v2X, .inr (13, fw2X))] H := hP
  have hD : va_D A [(h0X, .inr (14, fsX)), (owX, .inl (g 6, 4, .inr (.inr (.inr (.inr (va_up (va_up (va_up (va_up (fun _ => none) 0 (some v0X)) 1 (some v1X)) 2 (some v2X)) 3 (some v3X))))))), (v0X, .inr (13, fw0X)), (v1X, .inr (13, fw1X)), (v2X, .inr (13, fw2X))] := hD
  subst hw
  refine tpst (w := [.int (-1)]) rfl ?_
  refine lv_aload_n G.1 G.2.1 d_Law_1365 rfl (lv_at hl 2 rfl) ?_
  refine lv_aload_n G.1 G.2.1 d_Law_1366 rfl (lv_at hl 0 rfl) ?_
  refine lv_iload_n G.1 G.2.1 d_Law_1367 rfl (lv_at hl 3 rfl) ?_
  refine lv_iconst (v := nI 1) G.1 G.2.1 d_Law_1368 (by decide) ?_
  refine lv_iadd G.1 G.2.1 d_Law_1369 ?_
  refine tpi (w := nI 1) (by decide) ?_
  refine va_sld G.1 G.2.1 hX hbl hbA hS (nI_inn (n := 6) (a := 1) (by decide) (by decide)) d_Law_1370 ?_
  refine tpi (w := (xs 1)) (by rw [nI_clamp (by decide)]) ?_
  refine lv_aload_n G.1 G.2.1 d_Law_1371 rfl (lv_at hl 0 rfl) ?_
  refine lv_iload_n G.1 G.2.1 d_Law_1372 rfl (lv_at hl 3 rfl) ?_
  refine W.eq (g2 := F0 m 1373 ls [.int (nI 0), .ref b, .int (xs 1), .ref h0X, .int (-1)]) rfl ?_
  refine lv_iconst (v := nI 2) G.1 G.2.1 d_Law_1373 (by decide) ?_
  refine lv_iadd G.1 G.2.1 d_Law_1374 ?_
  refine tpi (w := nI 2) (by decide) ?_
  refine va_sld G.1 G.2.1 hX hbl hbA hS (nI_inn (n := 6) (a := 2) (by decide) (by decide)) d_Law_1375 ?_
  refine tpi (w := (xs 2)) (by rw [nI_clamp (by decide)]) ?_
  refine lv_aload_n G.1 G.2.1 d_Law_1376 rfl (lv_at hl 0 rfl) ?_
  refine lv_iload_n G.1 G.2.1 d_Law_1377 rfl (lv_at hl 3 rfl) ?_
  refine lv_iconst (v := nI 3) G.1 G.2.1 d_Law_1378 (by decide) ?_
  refine lv_iadd G.1 G.2.1 d_Law_1379 ?_
  refine tpi (w := nI 3) (by decide) ?_
  refine va_sld G.1 G.2.1 hX hbl hbA hS (nI_inn (n := 6) (a := 3) (by decide) (by decide)) d_Law_1380 ?_
  refine tpi (w := (xs 3)) (by rw [nI_clamp (by decide)]) ?_
  refine lv_aload_n G.1 G.2.1 d_Law_1381 rfl (lv_at hl 0 rfl) ?_
  refine lv_iload_n G.1 G.2.1 d_Law_1382 rfl (lv_at hl 3 rfl) ?_
  refine lv_iconst (v := nI 4) G.1 G.2.1 d_Law_1383 (by decide) ?_
  refine lv_iadd G.1 G.2.1 d_Law_1384 ?_
  refine tpi (w := nI 4) (by decide) ?_
  refine W.eq (g2 := F0 m 1385 ls [.int (nI 4), .ref b, .int (xs 3), .int (xs 2), .int (xs 1), .ref h0X, .int (-1)]) rfl ?_
  refine va_sld G.1 G.2.1 hX hbl hbA hS (nI_inn (n := 6) (a := 4) (by decide) (by decide)) d_Law_1385 ?_
  refine tpi (w := (xs 4)) (by rw [nI_clamp (by decide)]) ?_
  refine lv_aload_n G.1 G.2.1 d_Law_1386 rfl (lv_at hl 0 rfl) ?_
  refine lv_iload_n G.1 G.2.1 d_Law_1387 rfl (lv_at hl 3 rfl) ?_
  refine lv_iconst (v := nI 5) G.1 G.2.1 d_Law_1388 (by decide) ?_
  refine lv_iadd G.1 G.2.1 d_Law_1389 ?_
  refine tpi (w := nI 5) (by decide) ?_
  refine va_sld G.1 G.2.1 hX hbl hbA hS (nI_inn (n := 6) (a := 5) (by decide) (by decide)) d_Law_1390 ?_
  refine tpi (w := (xs 5)) (by rw [nI_clamp (by decide)]) ?_
  refine kEi (wr := []) G (kV (As := [.int (xs 1), .int (xs 2), .int (xs 3), .int (xs 4), .int (xs 5)]) (rest := [.int (-1)]) G hP hD hS [0, 1, 2, 3, 4] rfl rfl (c_Mo_differ l D g h0X (xs 1) (xs 2) (xs 3) (xs 4) (xs 5) fsX owX v0X v1X v2X v3X fw0X fw1X fw2X H.size glenX gk0X gw0X gt0X gw1X gt1X gw2X gt2X) w_Mo_differ q4193 rfl rfl ⟨Nat.le_of_ble_eq_true rfl, Nat.le_of_ble_eq_true rfl⟩ (fun _ h => absurd h List.not_mem_nil) 0 (ci := 14) rfl rfl rfl hl.1 rfl (Nat.le_of_ble_eq_true rfl) rfl ⟨Nat.le_of_ble_eq_true rfl, (Nat.le_of_ble_eq_true rfl)⟩ d_Law_1391) hP hD hS [0, 1, 2, 3, 4] [] rfl rfl rfl rfl (fun r_3 u_4 H locs hw hP hD hS hzH => ?_)
  have hw : r_3 = (-1) := hw
  have hP : va_P D CL [] H := hP
  have hD : va_D A [] := hD
  subst hw
  refine tpst (w := [.int (-1), .int (-1)]) rfl ?_
  refine lv_icmp_eq (tgt := 1768) G.1 G.2.1 d_Law_1394 (by decide) (fun c1394 => ?_) (fun c1394 => absurd c1394 (fun h => h rfl))
  refine lv_iinc (v := nI 6) (lv' := [(3, .int (nI 6)), (0, .ref b), (1, .ref h0), (2, .ref h0X)]) G.1 G.2.1 d_Law_1768 hl (k := 3) rfl (show (nI 0) + Int32.ofInt 6 = nI 6 from by decide) (by decide) rfl (fun ls hl => ?_)
  refine lv_goto (tgt := 18) G.1 G.2.1 d_Law_1771 (by decide) ?_
  refine lv_iload_n G.1 G.2.1 d_Law_18 rfl (lv_at hl 0 rfl) ?_
  refine lv_aload_n G.1 G.2.1 d_Law_19 rfl (lv_at hl 1 rfl) ?_
  refine W.eq (g2 := F0 m 20 ls [.ref b, .int (nI 6)]) rfl ?_
  refine va_slen G.1 G.2.1 hX hbl hbA hS d_Law_20 ?_
  refine tpi (w := nI 6) rfl ?_
  refine lv_bipush (v := nI 6) G.1 G.2.1 d_Law_21 (by decide) ?_
  refine lv_isub G.1 G.2.1 d_Law_23 ?_
  refine tpi (w := nI 0) (by decide) ?_
  refine lv_icmp_gt (tgt := 1774) G.1 G.2.1 d_Law_24 (by decide) (fun c24 => ?_) (fun c24 => absurd c24 (by decide))
  refine lv_iconst (v := nI 1) G.1 G.2.1 d_Law_1774 (by decide) ?_
  refine va_forget (fun q hq => hAA _ (hS.2.2 q hq)) ?_
  refine W.widen (k := 600002) (n := 7302232) (Nat.le_of_ble_eq_true rfl) (Nat.le_of_ble_eq_true rfl) ?_
  exact lw_ret G.1 G.2.1 G.2.2.2.1 G.2.2.2.2.1 d_Law_1775
theorem q2424 : Cond.code y_Cw_reach b_Cw_reach 5 (some .int) ∈ lw_ok := lw_okmem (List.mem_of_getElem? (i := 2424) (by decide +kernel)) rfl
theorem q2422 : Cond.instanceMethod y_Cw_reach ∈ lw_ok := lw_okmem (List.mem_of_getElem? (i := 2422) (by decide +kernel)) rfl
theorem q2423 : Cond.selects y_Cw_reach.cls y_Cw_reach y_Cw_reach ∈ lw_ok := lw_okmem (List.mem_of_getElem? (i := 2423) (by decide +kernel)) rfl
theorem w_Cw_reach : CWv y_Cw_reach b_Cw_reach 5 (some .int) 3 ∧ Cond.instanceMethod y_Cw_reach ∈ lw_ok ∧ Cond.selects y_Cw_reach.cls y_Cw_reach y_Cw_reach ∈ lw_ok := ⟨⟨q2424, q329, by decide +kernel, by decide +kernel, by decide +kernel⟩, q2422, q2423⟩
theorem q2421 : Cond.methodLink "ClassWorksLaw" 145 y_Cw_reach ∈ lw_ok := lw_okmem (List.mem_of_getElem? (i := 2421) (by decide +kernel)) rfl
theorem q4168 : Cond.code y_Mo_reach b_Mo_reach 7 (some .int) ∈ lw_ok := lw_okmem (List.mem_of_getElem? (i := 4168) (by decide +kernel)) rfl
theorem q4166 : Cond.instanceMethod y_Mo_reach ∈ lw_ok := lw_okmem (List.mem_of_getElem? (i := 4166) (by decide +kernel)) rfl
theorem q4167 : Cond.selects y_Mo_reach.cls y_Mo_reach y_Mo_reach ∈ lw_ok := lw_okmem (List.mem_of_getElem? (i := 4167) (by decide +kernel)) rfl
theorem w_Mo_reach : CWv y_Mo_reach b_Mo_reach 7 (some .int) 3 ∧ Cond.instanceMethod y_Mo_reach ∈ lw_ok ∧ Cond.selects y_Mo_reach.cls y_Mo_reach y_Mo_reach ∈ lw_ok := ⟨⟨q4168, q348, by decide +kernel, by decide +kernel, by decide +kernel⟩, q4166, q4167⟩
theorem q4165 : Cond.methodLink "ClassWorksLaw" 148 y_Mo_reach ∈ lw_ok := lw_okmem (List.mem_of_getElem? (i := 4165) (by decide +kernel)) rfl
theorem d_Law_1399 : decode code 1399 = .ok (.aload_n 1, 1) := by decide +kernel
theorem d_Law_1400 : decode code 1400 = .ok (.aload_n 0, 1) := by decide +kernel
theorem d_Law_1401 : decode code 1401 = .ok (.iload_n 3, 1) := by decide +kernel
theorem d_Law_1402 : decode code 1402 = .ok (.iconst 1, 1) := by decide +kernel
theorem d_Law_1403 : decode code 1403 = .ok (.iadd, 1) := by decide +kernel
theorem d_Law_1404 : decode code 1404 = .ok (.iaload, 1) := by decide +kernel
theorem d_Law_1405 : decode code 1405 = .ok (.aload_n 0, 1) := by decide +kernel
theorem d_Law_1406 : decode code 1406 = .ok (.iload_n 3, 1) := by decide +kernel
theorem d_Law_1407 : decode code 1407 = .ok (.iconst 2, 1) := by decide +kernel
theorem d_Law_1408 : decode code 1408 = .ok (.iadd, 1) := by decide +kernel
theorem d_Law_1409 : decode code 1409 = .ok (.iaload, 1) := by decide +kernel
theorem d_Law_1410 : decode code 1410 = .ok (.aload_n 0, 1) := by decide +kernel
theorem d_Law_1411 : decode code 1411 = .ok (.iload_n 3, 1) := by decide +kernel
theorem d_Law_1412 : decode code 1412 = .ok (.iconst 3, 1) := by decide +kernel
theorem d_Law_1413 : decode code 1413 = .ok (.iadd, 1) := by decide +kernel
theorem d_Law_1414 : decode code 1414 = .ok (.iaload, 1) := by decide +kernel
theorem d_Law_1415 : decode code 1415 = .ok (.invokevirtual 145, 3) := by decide +kernel
theorem d_Law_1418 : decode code 1418 = .ok (.aload_n 2, 1) := by decide +kernel
theorem d_Law_1419 : decode code 1419 = .ok (.aload_n 0, 1) := by decide +kernel
theorem d_Law_1420 : decode code 1420 = .ok (.iload_n 3, 1) := by decide +kernel
theorem d_Law_1421 : decode code 1421 = .ok (.iconst 1, 1) := by decide +kernel
theorem d_Law_1422 : decode code 1422 = .ok (.iadd, 1) := by decide +kernel
theorem d_Law_1423 : decode code 1423 = .ok (.iaload, 1) := by decide +kernel
theorem d_Law_1424 : decode code 1424 = .ok (.aload_n 0, 1) := by decide +kernel
theorem d_Law_1425 : decode code 1425 = .ok (.iload_n 3, 1) := by decide +kernel
theorem d_Law_1426 : decode code 1426 = .ok (.iconst 2, 1) := by decide +kernel
theorem d_Law_1427 : decode code 1427 = .ok (.iadd, 1) := by decide +kernel
theorem d_Law_1428 : decode code 1428 = .ok (.iaload, 1) := by decide +kernel
theorem d_Law_1429 : decode code 1429 = .ok (.aload_n 0, 1) := by decide +kernel
theorem d_Law_1430 : decode code 1430 = .ok (.iload_n 3, 1) := by decide +kernel
theorem d_Law_1431 : decode code 1431 = .ok (.iconst 3, 1) := by decide +kernel
theorem d_Law_1432 : decode code 1432 = .ok (.iadd, 1) := by decide +kernel
theorem d_Law_1433 : decode code 1433 = .ok (.iaload, 1) := by decide +kernel
theorem d_Law_1434 : decode code 1434 = .ok (.invokevirtual 148, 3) := by decide +kernel
theorem d_Law_1437 : decode code 1437 = .ok (.if_icmp .eq 331, 3) := by decide +kernel
set_option maxHeartbeats 4000000 in
set_option maxRecDepth 100000 in
theorem law_reach {p : Program} {e : Env} {s : State} {m : MethodId} {below : List Frame} {meth : Method} {c : Code} {l : Launch} {D : va_G} {g : Nat → ClassId} {sl : List SL} {b : Nat} {xs : Nat → Int32} {A : Nat → Prop} (h0 : Nat) (r_cwords : Nat) (r_creader : Nat) (r_cchecker : Nat) (r_cfinder : Nat) (r_cwriter : Nat) (r_cmachines : Nat) (r_ctape : Nat) (r_cstock : Nat) (r_csizes : Nat) (r_cmet : Nat) (r_cfound : Nat) (r_cdraft : Nat) (r_cfewestFor : Nat) (r_cfewestNext : Nat) (mm0 : Nat) (mm1 : Nat) (mm2 : Nat) (mm3 : Nat) (ww0 : Nat) (r_m0heap : Nat) (r_m0runs : Nat) (r_m0counts : Nat) (r_m0traceRow : Nat) (f_m0traceCount : Int32) (r_m0startedList : Nat) (f_m0startedCount : Int32) (f_m0present : Int32) (f_m0quantum : Int32) (f_m0stepsDone : Int32) (f_m0turnSteps : Int32) (f_m0turnMost : Int32) (f_m0turnOver : Int32) (r_m0finder : Nat) (r_m0names : Nat) (f_m0fault : Int32) (f_m0wanted : Int32) (f_m0thrown : Int32) (ww1 : Nat) (r_m1heap : Nat) (r_m1runs : Nat) (r_m1counts : Nat) (r_m1traceRow : Nat) (f_m1traceCount : Int32) (r_m1startedList : Nat) (f_m1startedCount : Int32) (f_m1present : Int32) (f_m1quantum : Int32) (f_m1stepsDone : Int32) (f_m1turnSteps : Int32) (f_m1turnMost : Int32) (f_m1turnOver : Int32) (r_m1finder : Nat) (r_m1names : Nat) (f_m1fault : Int32) (f_m1wanted : Int32) (f_m1thrown : Int32) (ww2 : Nat) (r_m2heap : Nat) (r_m2runs : Nat) (r_m2counts : Nat) (r_m2traceRow : Nat) (f_m2traceCount : Int32) (r_m2startedList : Nat) (f_m2startedCount : Int32) (f_m2present : Int32) (f_m2quantum : Int32) (f_m2stepsDone : Int32) (f_m2turnSteps : Int32) (f_m2turnMost : Int32) (f_m2turnOver : Int32) (r_m2finder : Nat) (r_m2names : Nat) (f_m2fault : Int32) (f_m2wanted : Int32) (f_m2thrown : Int32) (r_w0names : Nat) (f_w0wrongClass : Int32) (f_w0wrongMethod : Int32) (f_w0wrongAt : Int32) (r_w0rows : Nat) (r_w0above : Nat) (r_w0fields : Nat) (r_w0methods : Nat) (r_w0codes : Nat) (r_w0handlers : Nat) (r_w0extra : Nat) (r_w0orders : Nat) (r_w0classNamed : Nat) (f_w0breaks : Int32) (r_w0marks : Nat) (r_w1names : Nat) (f_w1wrongClass : Int32) (f_w1wrongMethod : Int32) (f_w1wrongAt : Int32) (r_w1rows : Nat) (r_w1above : Nat) (r_w1fields : Nat) (r_w1methods : Nat) (r_w1codes : Nat) (r_w1handlers : Nat) (r_w1extra : Nat) (r_w1orders : Nat) (r_w1classNamed : Nat) (f_w1breaks : Int32) (r_w1marks : Nat) (r_w2names : Nat) (f_w2wrongClass : Int32) (f_w2wrongMethod : Int32) (f_w2wrongAt : Int32) (r_w2rows : Nat) (r_w2above : Nat) (r_w2fields : Nat) (r_w2methods : Nat) (r_w2codes : Nat) (r_w2handlers : Nat) (r_w2extra : Nat) (r_w2orders : Nat) (r_w2classNamed : Nat) (f_w2breaks : Int32) (r_w2marks : Nat) (h0X : Nat) (fsX : List Value) (owX : Nat) (v0X : Nat) (v1X : Nat) (v2X : Nat) (v3X : Nat) (fw0X : List Value) (fw1X : List Value) (fw2X : List Value) (G : GV l p s m #[Value.ref b] meth c (⟨"ClassWorksLaw", meth.name, ""⟩ : MethodName) code 4 ret g D sl A) (hX : va_X b 6 xs s s.heap) (hbl : b < s.heap.size) (hbA : ¬ A b) (hAA : ∀ q, A q → s.heap.size ≤ q) {H : Heap} {locs : List Loc} {ls : Array Slot} (glenX : fsX.length = 131) (gk0X : fsX[44]? = some (.ref owX)) (gw0X : fw0X.length = 72) (gt0X : fw0X[0]? = some (.int (nI 0))) (gw1X : fw1X.length = 72) (gt1X : fw1X[0]? = some (.int (nI 0))) (gw2X : fw2X.length = 72) (gt2X : fw2X[0]? = some (.int (nI 0))) (hP : va_P D CL [(h0, .inr (11, [.ref r_cwords, .ref r_creader, .ref r_cchecker, .ref r_cfinder, .ref r_cwriter, .ref r_cmachines, .ref r_ctape, .int (nI 0), .int (-2), .int (nI 60000), .ref r_cstock, .ref r_csizes, .ref r_cmet, .ref r_cfound, .int (nI 0), .ref r_cdraft, .int (nI 0), .int (nI 0), .ref r_cfewestFor, .ref r_cfewestNext])), (r_cmachines, .inl (g 4, 4, .inr (.inr (.inr (.inr (va_up (va_up (va_up (va_up (fun _ => none) 0 (some mm0)) 1 (some mm1)) 2 (some mm2)) 3 (some mm3))))))), (mm0, .inr (4, [.ref ww0, .ref r_m0heap, .ref r_m0runs, .ref r_m0counts, .ref r_m0traceRow, .int f_m0traceCount, .ref r_m0startedList, .int f_m0startedCount, .int f_m0present, .int f_m0quantum, .int f_m0stepsDone, .int f_m0turnSteps, .int f_m0turnMost, .int f_m0turnOver, .ref r_m0finder, .ref r_m0names, .int f_m0fault, .int f_m0wanted, .int f_m0thrown])), (mm1, .inr (4, [.ref ww1, .ref r_m1heap, .ref r_m1runs, .ref r_m1counts, .ref r_m1traceRow, .int f_m1traceCount, .ref r_m1startedList, .int f_m1startedCount, .int f_m1present, .int f_m1quantum, .int f_m1stepsDone, .int f_m1turnSteps, .int f_m1turnMost, .int f_m1turnOver, .ref r_m1finder, .ref r_m1names, .int f_m1fault, .int f_m1wanted, .int f_m1thrown])), (mm2, .inr (4, [.ref ww2, .ref r_m2heap, .ref r_m2runs, .ref r_m2counts, .ref r_m2traceRow, .int f_m2traceCount, .ref r_m2startedList, .int f_m2startedCount, .int f_m2present, .int f_m2quantum, .int f_m2stepsDone, .int f_m2turnSteps, .int f_m2turnMost, .int f_m2turnOver, .ref r_m2finder, .ref r_m2names, .int f_m2fault, .int f_m2wanted, .int f_m2thrown])), (ww0, .inr (9, [.ref r_w0names, .int (nI 0), .int (nI 21), .int f_w0wrongClass, .int f_w0wrongMethod, .int f_w0wrongAt, .ref r_w0rows, .ref r_w0above, .ref r_w0fields, .ref r_w0methods, .ref r_w0codes, .ref r_w0handlers, .ref r_w0extra, .ref r_w0orders, .ref r_w0classNamed, .int f_w0breaks, .ref r_w0marks])), (ww1, .inr (9, [.ref r_w1names, .int (nI 0), .int (nI 21), .int f_w1wrongClass, .int f_w1wrongMethod, .int f_w1wrongAt, .ref r_w1rows, .ref r_w1above, .ref r_w1fields, .ref r_w1methods, .ref r_w1codes, .ref r_w1handlers, .ref r_w1extra, .ref r_w1orders, .ref r_w1classNamed, .int f_w1breaks, .ref r_w1marks])), (ww2, .inr (9, [.ref r_w2names, .int (nI 0), .int (nI 21), .int f_w2wrongClass, .int f_w2wrongMethod, .int f_w2wrongAt, .ref r_w2rows, .ref r_w2above, .ref r_w2fields, .ref r_w2methods, .ref r_w2codes, .ref r_w2handlers, .ref r_w2extra, .ref r_w2orders, .ref r_w2classNamed, .int f_w2breaks, .ref r_w2marks])), (h0X, .inr (14, fsX)), (owX, .inl (g 6, 4, .inr (.inr (.inr (.inr (va_up (va_up (va_up (va_up (fun _ => none) 0 (some v0X)) 1 (some v1X)) 2 (some v2X)) 3 (some v3X))))))), (v0X, .inr (13, fw0X)), (v1X, .inr (13, fw1X)), (v2X, .inr (13, fw2X))] H) (hD : va_D A [(h0, .inr (11, [.ref r_cwords, .ref r_creader, .ref r_cchecker, .ref r_cfinder, .ref r_cwriter, .ref r_cmachines, .ref r_ctape, .int (nI 0), .int (-2), .int (nI 60000), .ref r_cstock, .ref r_csizes, .ref r_cmet, .ref r_cfound, .int (nI 0), .ref r_cdraft, .int (nI 0), .int (nI 0), .ref r_cfewestFor, .ref r_cfewestNext])), (r_cmachines, .inl (g 4, 4, .inr (.inr (.inr (.inr (va_up (va_up (va_up (va_up (fun _ => none) 0 (some mm0)) 1 (some mm1)) 2 (some mm2)) 3 (some mm3))))))), (mm0, .inr (4, [.ref ww0, .ref r_m0heap, .ref r_m0runs, .ref r_m0counts, .ref r_m0traceRow, .int f_m0traceCount, .ref r_m0startedList, .int f_m0startedCount, .int f_m0present, .int f_m0quantum, .int f_m0stepsDone, .int f_m0turnSteps, .int f_m0turnMost, .int f_m0turnOver, .ref r_m0finder, .ref r_m0names, .int f_m0fault, .int f_m0wanted, .int f_m0thrown])), (mm1, .inr (4, [.ref ww1, .ref r_m1heap, .ref r_m1runs, .ref r_m1counts, .ref r_m1traceRow, .int f_m1traceCount, .ref r_m1startedList, .int f_m1startedCount, .int f_m1present, .int f_m1quantum, .int f_m1stepsDone, .int f_m1turnSteps, .int f_m1turnMost, .int f_m1turnOver, .ref r_m1finder, .ref r_m1names, .int f_m1fault, .int f_m1wanted, .int f_m1thrown])), (mm2, .inr (4, [.ref ww2, .ref r_m2heap, .ref r_m2runs, .ref r_m2counts, .ref r_m2traceRow, .int f_m2traceCount, .ref r_m2startedList, .int f_m2startedCount, .int f_m2present, .int f_m2quantum, .int f_m2stepsDone, .int f_m2turnSteps, .int f_m2turnMost, .int f_m2turnOver, .ref r_m2finder, .ref r_m2names, .int f_m2fault, .int f_m2wanted, .int f_m2thrown])), (ww0, .inr (9, [.ref r_w0names, .int (nI 0), .int (nI 21), .int f_w0wrongClass, .int f_w0wrongMethod, .int f_w0wrongAt, .ref r_w0rows, .ref r_w0above, .ref r_w0fields, .ref r_w0methods, .ref r_w0codes, .ref r_w0handlers, .ref r_w0extra, .ref r_w0orders, .ref r_w0classNamed, .int f_w0breaks, .ref r_w0marks])), (ww1, .inr (9, [.ref r_w1names, .int (nI 0), .int (nI 21), .int f_w1wrongClass, .int f_w1wrongMethod, .int f_w1wrongAt, .ref r_w1rows, .ref r_w1above, .ref r_w1fields, .ref r_w1methods, .ref r_w1codes, .ref r_w1handlers, .ref r_w1extra, .ref r_w1orders, .ref r_w1classNamed, .int f_w1breaks, .ref r_w1marks])), (ww2, .inr (9, [.ref r_w2names, .int (nI 0), .int (nI 21), .int f_w2wrongClass, .int f_w2wrongMethod, .int f_w2wrongAt, .ref r_w2rows, .ref r_w2above, .ref r_w2fields, .ref r_w2methods, .ref r_w2codes, .ref r_w2handlers, .ref r_w2extra, .ref r_w2orders, .ref r_w2classNamed, .int f_w2breaks, .ref r_w2marks])), (h0X, .inr (14, fsX)), (owX, .inl (g 6, 4, .inr (.inr (.inr (.inr (va_up (va_up (va_up (va_up (fun _ => none) 0 (some v0X)) 1 (some v1X)) 2 (some v2X)) 3 (some v3X))))))), (v0X, .inr (13, fw0X)), (v1X, .inr (13, fw1X)), (v2X, .inr (13, fw2X))]) (hS : va_S A s.heap H locs) (hl : lv_has ls 4 [(0, .ref b), (1, .ref h0), (2, .ref h0X), (3, .int (nI 0))]) : W p l e room_1 s m #[Value.ref b] below meth c H locs 702 488194 (lw_Z below #[Value.ref b] s) (F0 m 1399 ls []) := by
  refine lv_aload_n G.1 G.2.1 d_Law_1399 rfl (lv_at hl 1 rfl) ?_
  refine lv_aload_n G.1 G.2.1 d_Law_1400 rfl (lv_at hl 0 rfl) ?_
  refine lv_iload_n G.1 G.2.1 d_Law_1401 rfl (lv_at hl 3 rfl) ?_
  refine lv_iconst (v := nI 1) G.1 G.2.1 d_Law_1402 (by decide) ?_
  refine lv_iadd G.1 G.2.1 d_Law_1403 ?_
  refine tpi (w := nI 1) (by decide) ?_
  refine va_sld G.1 G.2.1 hX hbl hbA hS (nI_inn (n := 6) (a := 1) (by decide) (by decide)) d_Law_1404 ?_
  refine tpi (w := (xs 1)) (by rw [nI_clamp (by decide)]) ?_
  refine lv_aload_n G.1 G.2.1 d_Law_1405 rfl (lv_at hl 0 rfl) ?_
  refine lv_iload_n G.1 G.2.1 d_Law_1406 rfl (lv_at hl 3 rfl) ?_
  refine lv_iconst (v := nI 2) G.1 G.2.1 d_Law_1407 (by decide) ?_
  refine lv_iadd G.1 G.2.1 d_Law_1408 ?_
  refine tpi (w := nI 2) (by decide) ?_
  refine va_sld G.1 G.2.1 hX hbl hbA hS (nI_inn (n := 6) (a := 2) (by decide) (by decide)) d_Law_1409 ?_
  refine tpi (w := (xs 2)) (by rw [nI_clamp (by decide)]) ?_
  refine W.eq (g2 := F0 m 1410 ls [.int (xs 2), .int (xs 1), .ref h0]) rfl ?_
  refine lv_aload_n G.1 G.2.1 d_Law_1410 rfl (lv_at hl 0 rfl) ?_
  refine lv_iload_n G.1 G.2.1 d_Law_1411 rfl (lv_at hl 3 rfl) ?_
  refine lv_iconst (v := nI 3) G.1 G.2.1 d_Law_1412 (by decide) ?_
  refine lv_iadd G.1 G.2.1 d_Law_1413 ?_
  refine tpi (w := nI 3) (by decide) ?_
  refine va_sld G.1 G.2.1 hX hbl hbA hS (nI_inn (n := 6) (a := 3) (by decide) (by decide)) d_Law_1414 ?_
  refine tpi (w := (xs 3)) (by rw [nI_clamp (by decide)]) ?_
  refine kEi (wr := [(h0X, .inr (14, fsX)), (owX, .inl (g 6, 4, .inr (.inr (.inr (.inr (va_up (va_up (va_up (va_up (fun _ => none) 0 (some v0X)) 1 (some v1X)) 2 (some v2X)) 3 (some v3X))))))), (v0X, .inr (13, fw0X)), (v1X, .inr (13, fw1X)), (v2X, .inr (13, fw2X))]) G (kV (As := [.int (xs 1), .int (xs 2), .int (xs 3)]) (rest := []) G hP hD hS [0, 1, 2, 3, 4, 5, 6, 7] rfl rfl (c_Cw_reach l D g h0 (xs 1) (xs 2) (xs 3) r_cwords r_creader r_cchecker r_cfinder r_cwriter r_cmachines r_ctape r_cstock r_csizes r_cmet r_cfound r_cdraft r_cfewestFor r_cfewestNext mm0 mm1 mm2 mm3 ww0 r_m0heap r_m0runs r_m0counts r_m0traceRow f_m0traceCount r_m0startedList f_m0startedCount f_m0present f_m0quantum f_m0stepsDone f_m0turnSteps f_m0turnMost f_m0turnOver r_m0finder r_m0names f_m0fault f_m0wanted f_m0thrown ww1 r_m1heap r_m1runs r_m1counts r_m1traceRow f_m1traceCount r_m1startedList f_m1startedCount f_m1present f_m1quantum f_m1stepsDone f_m1turnSteps f_m1turnMost f_m1turnOver r_m1finder r_m1names f_m1fault f_m1wanted f_m1thrown ww2 r_m2heap r_m2runs r_m2counts r_m2traceRow f_m2traceCount r_m2startedList f_m2startedCount f_m2present f_m2quantum f_m2stepsDone f_m2turnSteps f_m2turnMost f_m2turnOver r_m2finder r_m2names f_m2fault f_m2wanted f_m2thrown r_w0names f_w0wrongClass f_w0wrongMethod f_w0wrongAt r_w0rows r_w0above r_w0fields r_w0methods r_w0codes r_w0handlers r_w0extra r_w0orders r_w0classNamed f_w0breaks r_w0marks r_w1names f_w1wrongClass f_w1wrongMethod f_w1wrongAt r_w1rows r_w1above r_w1fields r_w1methods r_w1codes r_w1handlers r_w1extra r_w1orders r_w1classNamed f_w1breaks r_w1marks r_w2names f_w2wrongClass f_w2wrongMethod f_w2wrongAt r_w2rows r_w2above r_w2fields r_w2methods r_w2codes r_w2handlers r_w2extra r_w2orders r_w2classNamed f_w2breaks r_w2marks H.size ) w_Cw_reach q2421 rfl rfl ⟨Nat.le_of_ble_eq_true rfl, Nat.le_of_ble_eq_true rfl⟩ (fun _ h => absurd h List.not_mem_nil) 0 (ci := 11) rfl rfl rfl hl.1 rfl (Nat.le_of_ble_eq_true rfl) rfl ⟨Nat.le_of_ble_eq_true rfl, (Nat.le_of_ble_eq_true rfl)⟩ d_Law_1415) hP hD hS [0, 1, 2, 3, 4, 5, 6, 7] [8, 9, 10, 11, 12] rfl rfl rfl rfl (fun r_1 u_2 H locs hw hP hD hS hzH => ?_)
  have hw : r_1 = (-1) := hw
  have hP : va_P D CL [(h0X, .inr (14, fsX)), (owX, .inl (g 6, 4, .inr (.inr (.inr (.inr (va_up (va_up (va_up (va_up (fun _ => none) 0 (some v0X)) 1 (some v1X)) 2 (some v2X)) 3 (some v3X))))))), (v0X, .inr (13, fw0X)), (v1X, .inr (13, fw1X)), (v2X, .inr (13, fw2X))] H := hP
  have hD : va_D A [(h0X, .inr (14, fsX)), (owX, .inl (g 6, 4, .inr (.inr (.inr (.inr (va_up (va_up (va_up (va_up (fun _ => none) 0 (some v0X)) 1 (some v1X)) 2 (some v2X)) 3 (some v3X))))))), (v0X, .inr (13, fw0X)), (v1X, .inr (13, fw1X)), (v2X, .inr (13, fw2X))] := hD
  subst hw
  refine tpst (w := [.int (-1)]) rfl ?_
  refine lv_aload_n G.1 G.2.1 d_Law_1418 rfl (lv_at hl 2 rfl) ?_
  refine lv_aload_n G.1 G.2.1 d_Law_1419 rfl (lv_at hl 0 rfl) ?_
  refine lv_iload_n G.1 G.2.1 d_Law_1420 rfl (lv_at hl 3 rfl) ?_
  refine lv_iconst (v := nI 1) G.1 G.2.1 d_Law_1421 (by decide) ?_
  refine lv_iadd G.1 G.2.1 d_Law_1422 ?_
  refine tpi (w := nI 1) (by decide) ?_
  refine va_sld G.1 G.2.1 hX hbl hbA hS (nI_inn (n := 6) (a := 1) (by decide) (by decide)) d_Law_1423 ?_
  refine tpi (w := (xs 1)) (by rw [nI_clamp (by decide)]) ?_
  refine W.eq (g2 := F0 m 1424 ls [.int (xs 1), .ref h0X, .int (-1)]) rfl ?_
  refine lv_aload_n G.1 G.2.1 d_Law_1424 rfl (lv_at hl 0 rfl) ?_
  refine lv_iload_n G.1 G.2.1 d_Law_1425 rfl (lv_at hl 3 rfl) ?_
  refine lv_iconst (v := nI 2) G.1 G.2.1 d_Law_1426 (by decide) ?_
  refine lv_iadd G.1 G.2.1 d_Law_1427 ?_
  refine tpi (w := nI 2) (by decide) ?_
  refine va_sld G.1 G.2.1 hX hbl hbA hS (nI_inn (n := 6) (a := 2) (by decide) (by decide)) d_Law_1428 ?_
  refine tpi (w := (xs 2)) (by rw [nI_clamp (by decide)]) ?_
  refine lv_aload_n G.1 G.2.1 d_Law_1429 rfl (lv_at hl 0 rfl) ?_
  refine lv_iload_n G.1 G.2.1 d_Law_1430 rfl (lv_at hl 3 rfl) ?_
  refine lv_iconst (v := nI 3) G.1 G.2.1 d_Law_1431 (by decide) ?_
  refine lv_iadd G.1 G.2.1 d_Law_1432 ?_
  refine tpi (w := nI 3) (by decide) ?_
  refine va_sld G.1 G.2.1 hX hbl hbA hS (nI_inn (n := 6) (a := 3) (by decide) (by decide)) d_Law_1433 ?_
  refine tpi (w := (xs 3)) (by rw [nI_clamp (by decide)]) ?_
  refine kEi (wr := []) G (kV (As := [.int (xs 1), .int (xs 2), .int (xs 3)]) (rest := [.int (-1)]) G hP hD hS [0, 1, 2, 3, 4] rfl rfl (c_Mo_reach l D g h0X (xs 1) (xs 2) (xs 3) fsX owX v0X v1X v2X v3X fw0X fw1X fw2X H.size glenX gk0X gw0X gt0X gw1X gt1X gw2X gt2X) w_Mo_reach q4165 rfl rfl ⟨Nat.le_of_ble_eq_true rfl, Nat.le_of_ble_eq_true rfl⟩ (fun _ h => absurd h List.not_mem_nil) 0 (ci := 14) rfl rfl rfl hl.1 rfl (Nat.le_of_ble_eq_true rfl) rfl ⟨Nat.le_of_ble_eq_true rfl, (Nat.le_of_ble_eq_true rfl)⟩ d_Law_1434) hP hD hS [0, 1, 2, 3, 4] [] rfl rfl rfl rfl (fun r_3 u_4 H locs hw hP hD hS hzH => ?_)
  have hw : r_3 = (-1) := hw
  have hP : va_P D CL [] H := hP
  have hD : va_D A [] := hD
  subst hw
  refine tpst (w := [.int (-1), .int (-1)]) rfl ?_
  refine lv_icmp_eq (tgt := 1768) G.1 G.2.1 d_Law_1437 (by decide) (fun c1437 => ?_) (fun c1437 => absurd c1437 (fun h => h rfl))
  refine W.eq (g2 := F0 m 1768 ls []) rfl ?_
  refine lv_iinc (v := nI 6) (lv' := [(3, .int (nI 6)), (0, .ref b), (1, .ref h0), (2, .ref h0X)]) G.1 G.2.1 d_Law_1768 hl (k := 3) rfl (show (nI 0) + Int32.ofInt 6 = nI 6 from by decide) (by decide) rfl (fun ls hl => ?_)
  refine lv_goto (tgt := 18) G.1 G.2.1 d_Law_1771 (by decide) ?_
  refine lv_iload_n G.1 G.2.1 d_Law_18 rfl (lv_at hl 0 rfl) ?_
  refine lv_aload_n G.1 G.2.1 d_Law_19 rfl (lv_at hl 1 rfl) ?_
  refine va_slen G.1 G.2.1 hX hbl hbA hS d_Law_20 ?_
  refine tpi (w := nI 6) rfl ?_
  refine lv_bipush (v := nI 6) G.1 G.2.1 d_Law_21 (by decide) ?_
  refine lv_isub G.1 G.2.1 d_Law_23 ?_
  refine tpi (w := nI 0) (by decide) ?_
  refine lv_icmp_gt (tgt := 1774) G.1 G.2.1 d_Law_24 (by decide) (fun c24 => ?_) (fun c24 => absurd c24 (by decide))
  refine lv_iconst (v := nI 1) G.1 G.2.1 d_Law_1774 (by decide) ?_
  refine va_forget (fun q hq => hAA _ (hS.2.2 q hq)) ?_
  refine W.widen (k := 600002) (n := 7302232) (Nat.le_of_ble_eq_true rfl) (Nat.le_of_ble_eq_true rfl) ?_
  exact lw_ret G.1 G.2.1 G.2.2.2.1 G.2.2.2.2.1 d_Law_1775
theorem q2449 : Cond.code y_Cw_reached b_Cw_reached 2 (some .int) ∈ lw_ok := lw_okmem (List.mem_of_getElem? (i := 2449) (by decide +kernel)) rfl
theorem q2447 : Cond.instanceMethod y_Cw_reached ∈ lw_ok := lw_okmem (List.mem_of_getElem? (i := 2447) (by decide +kernel)) rfl
theorem q2448 : Cond.selects y_Cw_reached.cls y_Cw_reached y_Cw_reached ∈ lw_ok := lw_okmem (List.mem_of_getElem? (i := 2448) (by decide +kernel)) rfl
theorem w_Cw_reached : CWv y_Cw_reached b_Cw_reached 2 (some .int) 1 ∧ Cond.instanceMethod y_Cw_reached ∈ lw_ok ∧ Cond.selects y_Cw_reached.cls y_Cw_reached y_Cw_reached ∈ lw_ok := ⟨⟨q2449, q329, by decide +kernel, by decide +kernel, by decide +kernel⟩, q2447, q2448⟩
theorem q2446 : Cond.methodLink "ClassWorksLaw" 149 y_Cw_reached ∈ lw_ok := lw_okmem (List.mem_of_getElem? (i := 2446) (by decide +kernel)) rfl
theorem q4184 : Cond.code y_Mo_reached b_Mo_reached 2 (some .int) ∈ lw_ok := lw_okmem (List.mem_of_getElem? (i := 4184) (by decide +kernel)) rfl
theorem q4182 : Cond.instanceMethod y_Mo_reached ∈ lw_ok := lw_okmem (List.mem_of_getElem? (i := 4182) (by decide +kernel)) rfl
theorem q4183 : Cond.selects y_Mo_reached.cls y_Mo_reached y_Mo_reached ∈ lw_ok := lw_okmem (List.mem_of_getElem? (i := 4183) (by decide +kernel)) rfl
theorem w_Mo_reached : CWv y_Mo_reached b_Mo_reached 2 (some .int) 1 ∧ Cond.instanceMethod y_Mo_reached ∈ lw_ok ∧ Cond.selects y_Mo_reached.cls y_Mo_reached y_Mo_reached ∈ lw_ok := ⟨⟨q4184, q348, by decide +kernel, by decide +kernel, by decide +kernel⟩, q4182, q4183⟩
theorem q4181 : Cond.methodLink "ClassWorksLaw" 152 y_Mo_reached ∈ lw_ok := lw_okmem (List.mem_of_getElem? (i := 4181) (by decide +kernel)) rfl
theorem d_Law_1442 : decode code 1442 = .ok (.aload_n 1, 1) := by decide +kernel
theorem d_Law_1443 : decode code 1443 = .ok (.aload_n 0, 1) := by decide +kernel
theorem d_Law_1444 : decode code 1444 = .ok (.iload_n 3, 1) := by decide +kernel
theorem d_Law_1445 : decode code 1445 = .ok (.iconst 1, 1) := by decide +kernel
theorem d_Law_1446 : decode code 1446 = .ok (.iadd, 1) := by decide +kernel
theorem d_Law_1447 : decode code 1447 = .ok (.iaload, 1) := by decide +kernel
theorem d_Law_1448 : decode code 1448 = .ok (.invokevirtual 149, 3) := by decide +kernel
theorem d_Law_1451 : decode code 1451 = .ok (.aload_n 2, 1) := by decide +kernel
theorem d_Law_1452 : decode code 1452 = .ok (.aload_n 0, 1) := by decide +kernel
theorem d_Law_1453 : decode code 1453 = .ok (.iload_n 3, 1) := by decide +kernel
theorem d_Law_1454 : decode code 1454 = .ok (.iconst 1, 1) := by decide +kernel
theorem d_Law_1455 : decode code 1455 = .ok (.iadd, 1) := by decide +kernel
theorem d_Law_1456 : decode code 1456 = .ok (.iaload, 1) := by decide +kernel
theorem d_Law_1457 : decode code 1457 = .ok (.invokevirtual 152, 3) := by decide +kernel
theorem d_Law_1460 : decode code 1460 = .ok (.if_icmp .eq 308, 3) := by decide +kernel
set_option maxHeartbeats 4000000 in
set_option maxRecDepth 100000 in
theorem law_reached {p : Program} {e : Env} {s : State} {m : MethodId} {below : List Frame} {meth : Method} {c : Code} {l : Launch} {D : va_G} {g : Nat → ClassId} {sl : List SL} {b : Nat} {xs : Nat → Int32} {A : Nat → Prop} (h0 : Nat) (r_cwords : Nat) (r_creader : Nat) (r_cchecker : Nat) (r_cfinder : Nat) (r_cwriter : Nat) (r_cmachines : Nat) (r_ctape : Nat) (r_cstock : Nat) (r_csizes : Nat) (r_cmet : Nat) (r_cfound : Nat) (r_cdraft : Nat) (r_cfewestFor : Nat) (r_cfewestNext : Nat) (f_fcls : Int32) (f_fmember : Int32) (f_fnamed : Int32) (r_freachList : Nat) (r_fnames : Nat) (r_fchecker : Nat) (r_fwaiting : Nat) (r_fphase : Nat) (r_fopen : Nat) (f_fopened : Int32) (i_frl : Nat) (h0X : Nat) (fsX : List Value) (G : GV l p s m #[Value.ref b] meth c (⟨"ClassWorksLaw", meth.name, ""⟩ : MethodName) code 4 ret g D sl A) (hX : va_X b 6 xs s s.heap) (hbl : b < s.heap.size) (hbA : ¬ A b) (hAA : ∀ q, A q → s.heap.size ≤ q) {H : Heap} {locs : List Loc} {ls : Array Slot} (glenX : fsX.length = 131) (gk0X : fsX[109]? = some (.int (nI 0))) (hP : va_P D CL [(h0, .inr (11, [.ref r_cwords, .ref r_creader, .ref r_cchecker, .ref r_cfinder, .ref r_cwriter, .ref r_cmachines, .ref r_ctape, .int (nI 0), .int (-2), .int (nI 60000), .ref r_cstock, .ref r_csizes, .ref r_cmet, .ref r_cfound, .int (nI 0), .ref r_cdraft, .int (nI 0), .int (nI 0), .ref r_cfewestFor, .ref r_cfewestNext])), (r_cfinder, .inr (1, [.int f_fcls, .int f_fmember, .int f_fnamed, .ref r_freachList, .ref r_fnames, .ref r_fchecker, .ref r_fwaiting, .ref r_fphase, .ref r_fopen, .int f_fopened])), (r_freachList, .inr (3, [.ref i_frl, .int (nI 0)])), (h0X, .inr (14, fsX))] H) (hD : va_D A [(h0, .inr (11, [.ref r_cwords, .ref r_creader, .ref r_cchecker, .ref r_cfinder, .ref r_cwriter, .ref r_cmachines, .ref r_ctape, .int (nI 0), .int (-2), .int (nI 60000), .ref r_cstock, .ref r_csizes, .ref r_cmet, .ref r_cfound, .int (nI 0), .ref r_cdraft, .int (nI 0), .int (nI 0), .ref r_cfewestFor, .ref r_cfewestNext])), (r_cfinder, .inr (1, [.int f_fcls, .int f_fmember, .int f_fnamed, .ref r_freachList, .ref r_fnames, .ref r_fchecker, .ref r_fwaiting, .ref r_fphase, .ref r_fopen, .int f_fopened])), (r_freachList, .inr (3, [.ref i_frl, .int (nI 0)])), (h0X, .inr (14, fsX))]) (hS : va_S A s.heap H locs) (hl : lv_has ls 4 [(0, .ref b), (1, .ref h0), (2, .ref h0X), (3, .int (nI 0))]) : W p l e room_1 s m #[Value.ref b] below meth c H locs 702 488194 (lw_Z below #[Value.ref b] s) (F0 m 1442 ls []) := by
  refine lv_aload_n G.1 G.2.1 d_Law_1442 rfl (lv_at hl 1 rfl) ?_
  refine lv_aload_n G.1 G.2.1 d_Law_1443 rfl (lv_at hl 0 rfl) ?_
  refine lv_iload_n G.1 G.2.1 d_Law_1444 rfl (lv_at hl 3 rfl) ?_
  refine lv_iconst (v := nI 1) G.1 G.2.1 d_Law_1445 (by decide) ?_
  refine lv_iadd G.1 G.2.1 d_Law_1446 ?_
  refine tpi (w := nI 1) (by decide) ?_
  refine va_sld G.1 G.2.1 hX hbl hbA hS (nI_inn (n := 6) (a := 1) (by decide) (by decide)) d_Law_1447 ?_
  refine tpi (w := (xs 1)) (by rw [nI_clamp (by decide)]) ?_
  refine kEi (wr := [(h0X, .inr (14, fsX))]) G (kV (As := [.int (xs 1)]) (rest := []) G hP hD hS [0, 1, 2] rfl rfl (c_Cw_reached l D g h0 (xs 1) r_cwords r_creader r_cchecker r_cfinder r_cwriter r_cmachines r_ctape r_cstock r_csizes r_cmet r_cfound r_cdraft r_cfewestFor r_cfewestNext f_fcls f_fmember f_fnamed r_freachList r_fnames r_fchecker r_fwaiting r_fphase r_fopen f_fopened i_frl H.size ) w_Cw_reached q2446 rfl rfl ⟨Nat.le_of_ble_eq_true rfl, Nat.le_of_ble_eq_true rfl⟩ (fun _ h => absurd h List.not_mem_nil) 0 (ci := 11) rfl rfl rfl hl.1 rfl (Nat.le_of_ble_eq_true rfl) rfl ⟨Nat.le_of_ble_eq_true rfl, (Nat.le_of_ble_eq_true rfl)⟩ d_Law_1448) hP hD hS [0, 1, 2] [3] rfl rfl rfl rfl (fun r_1 u_2 H locs hw hP hD hS hzH => ?_)
  have hw : r_1 = (-2) := hw
  have hP : va_P D CL [(h0X, .inr (14, fsX))] H := hP
  have hD : va_D A [(h0X, .inr (14, fsX))] := hD
  subst hw
  refine tpst (w := [.int (-2)]) rfl ?_
  refine lv_aload_n G.1 G.2.1 d_Law_1451 rfl (lv_at hl 2 rfl) ?_
  refine lv_aload_n G.1 G.2.1 d_Law_1452 rfl (lv_at hl 0 rfl) ?_
  refine lv_iload_n G.1 G.2.1 d_Law_1453 rfl (lv_at hl 3 rfl) ?_
  refine lv_iconst (v := nI 1) G.1 G.2.1 d_Law_1454 (by decide) ?_
  refine W.eq (g2 := F0 m 1455 ls [.int (nI 1), .int (nI 0), .ref b, .ref h0X, .int (-2)]) rfl ?_
  refine lv_iadd G.1 G.2.1 d_Law_1455 ?_
  refine tpi (w := nI 1) (by decide) ?_
  refine va_sld G.1 G.2.1 hX hbl hbA hS (nI_inn (n := 6) (a := 1) (by decide) (by decide)) d_Law_1456 ?_
  refine tpi (w := (xs 1)) (by rw [nI_clamp (by decide)]) ?_
  refine kEi (wr := []) G (kV (As := [.int (xs 1)]) (rest := [.int (-2)]) G hP hD hS [0] rfl rfl (c_Mo_reached l D g h0X (xs 1) fsX H.size glenX gk0X) w_Mo_reached q4181 rfl rfl ⟨Nat.le_of_ble_eq_true rfl, Nat.le_of_ble_eq_true rfl⟩ (fun _ h => absurd h List.not_mem_nil) 0 (ci := 14) rfl rfl rfl hl.1 rfl (Nat.le_of_ble_eq_true rfl) rfl ⟨Nat.le_of_ble_eq_true rfl, (Nat.le_of_ble_eq_true rfl)⟩ d_Law_1457) hP hD hS [0] [] rfl rfl rfl rfl (fun r_3 u_4 H locs hw hP hD hS hzH => ?_)
  have hw : r_3 = (-2) := hw
  have hP : va_P D CL [] H := hP
  have hD : va_D A [] := hD
  subst hw
  refine tpst (w := [.int (-2), .int (-2)]) rfl ?_
  refine lv_icmp_eq (tgt := 1768) G.1 G.2.1 d_Law_1460 (by decide) (fun c1460 => ?_) (fun c1460 => absurd c1460 (fun h => h rfl))
  refine lv_iinc (v := nI 6) (lv' := [(3, .int (nI 6)), (0, .ref b), (1, .ref h0), (2, .ref h0X)]) G.1 G.2.1 d_Law_1768 hl (k := 3) rfl (show (nI 0) + Int32.ofInt 6 = nI 6 from by decide) (by decide) rfl (fun ls hl => ?_)
  refine lv_goto (tgt := 18) G.1 G.2.1 d_Law_1771 (by decide) ?_
  refine lv_iload_n G.1 G.2.1 d_Law_18 rfl (lv_at hl 0 rfl) ?_
  refine lv_aload_n G.1 G.2.1 d_Law_19 rfl (lv_at hl 1 rfl) ?_
  refine va_slen G.1 G.2.1 hX hbl hbA hS d_Law_20 ?_
  refine tpi (w := nI 6) rfl ?_
  refine lv_bipush (v := nI 6) G.1 G.2.1 d_Law_21 (by decide) ?_
  refine lv_isub G.1 G.2.1 d_Law_23 ?_
  refine tpi (w := nI 0) (by decide) ?_
  refine lv_icmp_gt (tgt := 1774) G.1 G.2.1 d_Law_24 (by decide) (fun c24 => ?_) (fun c24 => absurd c24 (by decide))
  refine W.eq (g2 := F0 m 1774 ls []) rfl ?_
  refine lv_iconst (v := nI 1) G.1 G.2.1 d_Law_1774 (by decide) ?_
  refine va_forget (fun q hq => hAA _ (hS.2.2 q hq)) ?_
  refine W.widen (k := 600002) (n := 7302232) (Nat.le_of_ble_eq_true rfl) (Nat.le_of_ble_eq_true rfl) ?_
  exact lw_ret G.1 G.2.1 G.2.2.2.1 G.2.2.2.2.1 d_Law_1775
theorem q2453 : Cond.code y_Cw_trial b_Cw_trial 5 (some .int) ∈ lw_ok := lw_okmem (List.mem_of_getElem? (i := 2453) (by decide +kernel)) rfl
theorem q2451 : Cond.instanceMethod y_Cw_trial ∈ lw_ok := lw_okmem (List.mem_of_getElem? (i := 2451) (by decide +kernel)) rfl
theorem q2452 : Cond.selects y_Cw_trial.cls y_Cw_trial y_Cw_trial ∈ lw_ok := lw_okmem (List.mem_of_getElem? (i := 2452) (by decide +kernel)) rfl
theorem w_Cw_trial : CWv y_Cw_trial b_Cw_trial 5 (some .int) 0 ∧ Cond.instanceMethod y_Cw_trial ∈ lw_ok ∧ Cond.selects y_Cw_trial.cls y_Cw_trial y_Cw_trial ∈ lw_ok := ⟨⟨q2453, q329, by decide +kernel, by decide +kernel, by decide +kernel⟩, q2451, q2452⟩
theorem q2450 : Cond.methodLink "ClassWorksLaw" 153 y_Cw_trial ∈ lw_ok := lw_okmem (List.mem_of_getElem? (i := 2450) (by decide +kernel)) rfl
theorem q4215 : Cond.codeWith y_Mo_trial b_Mo_trial 7 (some .int) hh_Mo_trial ∈ lw_ok := lw_okmem (List.mem_of_getElem? (i := 4215) (by decide +kernel)) rfl
theorem q4213 : Cond.instanceMethod y_Mo_trial ∈ lw_ok := lw_okmem (List.mem_of_getElem? (i := 4213) (by decide +kernel)) rfl
theorem q4214 : Cond.selects y_Mo_trial.cls y_Mo_trial y_Mo_trial ∈ lw_ok := lw_okmem (List.mem_of_getElem? (i := 4214) (by decide +kernel)) rfl
theorem w_Mo_trial : (Cond.codeWith y_Mo_trial b_Mo_trial 7 (some .int) hh_Mo_trial ∈ lw_ok ∧ Cond.initialized y_Mo_trial.cls ∈ lw_ok ∧ y_Mo_trial.cls ≠ "java/lang/invoke/MethodHandle" ∧ y_Mo_trial.cls ≠ "java/lang/invoke/VarHandle" ∧ (parseMethodDescriptor y_Mo_trial.desc).map (fun d => d.parameters.length) = some 0) ∧ Cond.instanceMethod y_Mo_trial ∈ lw_ok ∧ Cond.selects y_Mo_trial.cls y_Mo_trial y_Mo_trial ∈ lw_ok := ⟨⟨q4215, q348, by decide +kernel, by decide +kernel, by decide +kernel⟩, q4213, q4214⟩
theorem q4212 : Cond.methodLink "ClassWorksLaw" 156 y_Mo_trial ∈ lw_ok := lw_okmem (List.mem_of_getElem? (i := 4212) (by decide +kernel)) rfl
theorem d_Law_1465 : decode code 1465 = .ok (.aload_n 1, 1) := by decide +kernel
theorem d_Law_1466 : decode code 1466 = .ok (.invokevirtual 153, 3) := by decide +kernel
theorem d_Law_1469 : decode code 1469 = .ok (.aload_n 2, 1) := by decide +kernel
theorem d_Law_1470 : decode code 1470 = .ok (.invokevirtual 156, 3) := by decide +kernel
theorem d_Law_1473 : decode code 1473 = .ok (.if_icmp .eq 295, 3) := by decide +kernel
set_option maxHeartbeats 4000000 in
set_option maxRecDepth 100000 in
theorem law_trial {p : Program} {e : Env} {s : State} {m : MethodId} {below : List Frame} {meth : Method} {c : Code} {l : Launch} {D : va_G} {g : Nat → ClassId} {sl : List SL} {b : Nat} {xs : Nat → Int32} {A : Nat → Prop} (h0 : Nat) (r_cwords : Nat) (r_creader : Nat) (r_cchecker : Nat) (r_cfinder : Nat) (r_cwriter : Nat) (r_cmachines : Nat) (r_ctape : Nat) (r_cstock : Nat) (r_csizes : Nat) (r_cmet : Nat) (r_cfound : Nat) (r_cdraft : Nat) (r_cfewestFor : Nat) (r_cfewestNext : Nat) (h0X : Nat) (fsX : List Value) (r_owordKindsX : Nat) (r_owordValuesX : Nat) (r_owordPlacesX : Nat) (r_otapeX : Nat) (r_ostopX : Nat) (fkX : Nat → Int32) (fvX : Nat → Int32) (fpX : Nat → Int32) (ftpX : Nat → Int32) (G : GV l p s m #[Value.ref b] meth c (⟨"ClassWorksLaw", meth.name, ""⟩ : MethodName) code 4 ret g D sl A) (hX : va_X b 6 xs s s.heap) (hbl : b < s.heap.size) (hbA : ¬ A b) (hAA : ∀ q, A q → s.heap.size ≤ q) {H : Heap} {locs : List Loc} {ls : Array Slot} (glenX : fsX.length = 131) (gk0X : fsX[42]? = some (.int (nI 0))) (gk1X : fsX[39]? = some (.ref r_owordKindsX)) (gk2X : fsX[40]? = some (.ref r_owordValuesX)) (gk3X : fsX[41]? = some (.ref r_owordPlacesX)) (gk4X : fsX[43]? = some (.int (nI 0))) (gk5X : fsX[121]? = some (.int (nI 0))) (gk6X : fsX[85]? = some (.int (nI 0))) (gk7X : fsX[123]? = some (.int (nI 0))) (gk8X : fsX[84]? = some (.ref r_otapeX)) (gk9X : fsX[86]? = some (.int (-2))) (gk10X : fsX[48]? = some (.ref r_ostopX)) (hP : va_P D CL [(h0, .inr (11, [.ref r_cwords, .ref r_creader, .ref r_cchecker, .ref r_cfinder, .ref r_cwriter, .ref r_cmachines, .ref r_ctape, .int (nI 0), .int (-2), .int (nI 60000), .ref r_cstock, .ref r_csizes, .ref r_cmet, .ref r_cfound, .int (nI 0), .ref r_cdraft, .int (nI 0), .int (nI 0), .ref r_cfewestFor, .ref r_cfewestNext])), (h0X, .inr (14, fsX)), (r_owordKindsX, .inl (g 1, 6002, .inl fkX)), (r_owordValuesX, .inl (g 0, 6002, .inl fvX)), (r_owordPlacesX, .inl (g 0, 6002, .inl fpX)), (r_otapeX, .inl (g 1, 6000, .inl ftpX)), (r_ostopX, .inr (15, []))] H) (hD : va_D A [(h0, .inr (11, [.ref r_cwords, .ref r_creader, .ref r_cchecker, .ref r_cfinder, .ref r_cwriter, .ref r_cmachines, .ref r_ctape, .int (nI 0), .int (-2), .int (nI 60000), .ref r_cstock, .ref r_csizes, .ref r_cmet, .ref r_cfound, .int (nI 0), .ref r_cdraft, .int (nI 0), .int (nI 0), .ref r_cfewestFor, .ref r_cfewestNext])), (h0X, .inr (14, fsX)), (r_owordKindsX, .inl (g 1, 6002, .inl fkX)), (r_owordValuesX, .inl (g 0, 6002, .inl fvX)), (r_owordPlacesX, .inl (g 0, 6002, .inl fpX)), (r_otapeX, .inl (g 1, 6000, .inl ftpX)), (r_ostopX, .inr (15, []))]) (hS : va_S A s.heap H locs) (hl : lv_has ls 4 [(0, .ref b), (1, .ref h0), (2, .ref h0X), (3, .int (nI 0))]) : W p l e room_1 s m #[Value.ref b] below meth c H locs 702 488194 (lw_Z below #[Value.ref b] s) (F0 m 1465 ls []) := by
  refine lv_aload_n G.1 G.2.1 d_Law_1465 rfl (lv_at hl 1 rfl) ?_
  refine kEi (wr := [(h0X, .inr (14, fsX)), (r_owordKindsX, .inl (g 1, 6002, .inl fkX)), (r_owordValuesX, .inl (g 0, 6002, .inl fvX)), (r_owordPlacesX, .inl (g 0, 6002, .inl fpX)), (r_otapeX, .inl (g 1, 6000, .inl ftpX)), (r_ostopX, .inr (15, []))]) G (kV (As := []) (rest := []) G hP hD hS [0] rfl rfl (c_Cw_trial l D g h0 r_cwords r_creader r_cchecker r_cfinder r_cwriter r_cmachines r_ctape r_cstock r_csizes r_cmet r_cfound r_cdraft r_cfewestFor r_cfewestNext H.size ) w_Cw_trial q2450 rfl rfl ⟨Nat.le_of_ble_eq_true rfl, Nat.le_of_ble_eq_true rfl⟩ (fun _ h => absurd h List.not_mem_nil) 0 (ci := 11) rfl rfl rfl hl.1 rfl (Nat.le_of_ble_eq_true rfl) rfl ⟨Nat.le_of_ble_eq_true rfl, (Nat.le_of_ble_eq_true rfl)⟩ d_Law_1466) hP hD hS [0] [1, 2, 3, 4, 5, 6] rfl rfl rfl rfl (fun r_1 u_2 H locs hw hP hD hS hzH => ?_)
  have hw : r_1 = (-11) := hw
  have hP : va_P D CL [(h0X, .inr (14, fsX)), (r_owordKindsX, .inl (g 1, 6002, .inl fkX)), (r_owordValuesX, .inl (g 0, 6002, .inl fvX)), (r_owordPlacesX, .inl (g 0, 6002, .inl fpX)), (r_otapeX, .inl (g 1, 6000, .inl ftpX)), (r_ostopX, .inr (15, []))] H := hP
  have hD : va_D A [(h0X, .inr (14, fsX)), (r_owordKindsX, .inl (g 1, 6002, .inl fkX)), (r_owordValuesX, .inl (g 0, 6002, .inl fvX)), (r_owordPlacesX, .inl (g 0, 6002, .inl fpX)), (r_otapeX, .inl (g 1, 6000, .inl ftpX)), (r_ostopX, .inr (15, []))] := hD
  subst hw
  refine tpst (w := [.int (-11)]) rfl ?_
  refine lv_aload_n G.1 G.2.1 d_Law_1469 rfl (lv_at hl 2 rfl) ?_
  refine kEi (wr := []) G (kVW (As := []) (rest := [.int (-11)]) G hP hD hS [0, 1, 2, 3, 4, 5] rfl rfl (c_Mo_trial l D g h0X fsX r_owordKindsX r_owordValuesX r_owordPlacesX r_otapeX r_ostopX fkX fvX fpX ftpX H.size glenX gk0X gk1X gk2X gk3X gk4X gk5X gk6X gk7X gk8X gk9X gk10X) w_Mo_trial q4212 rfl rfl ⟨Nat.le_of_ble_eq_true rfl, Nat.le_of_ble_eq_true rfl⟩ (fun _ h => absurd h List.not_mem_nil) 0 (ci := 14) rfl rfl rfl hl.1 rfl (Nat.le_of_ble_eq_true rfl) rfl ⟨Nat.le_of_ble_eq_true rfl, (Nat.le_of_ble_eq_true rfl)⟩ d_Law_1470) hP hD hS [0, 1, 2, 3, 4, 5] [] rfl rfl rfl rfl (fun r_3 u_4 H locs hw hP hD hS hzH => ?_)
  have hw : r_3 = (-11) := hw
  have hP : va_P D CL [] H := hP
  have hD : va_D A [] := hD
  subst hw
  refine tpst (w := [.int (-11), .int (-11)]) rfl ?_
  refine lv_icmp_eq (tgt := 1768) G.1 G.2.1 d_Law_1473 (by decide) (fun c1473 => ?_) (fun c1473 => absurd c1473 (fun h => h rfl))
  refine lv_iinc (v := nI 6) (lv' := [(3, .int (nI 6)), (0, .ref b), (1, .ref h0), (2, .ref h0X)]) G.1 G.2.1 d_Law_1768 hl (k := 3) rfl (show (nI 0) + Int32.ofInt 6 = nI 6 from by decide) (by decide) rfl (fun ls hl => ?_)
  refine lv_goto (tgt := 18) G.1 G.2.1 d_Law_1771 (by decide) ?_
  refine lv_iload_n G.1 G.2.1 d_Law_18 rfl (lv_at hl 0 rfl) ?_
  refine lv_aload_n G.1 G.2.1 d_Law_19 rfl (lv_at hl 1 rfl) ?_
  refine va_slen G.1 G.2.1 hX hbl hbA hS d_Law_20 ?_
  refine tpi (w := nI 6) rfl ?_
  refine lv_bipush (v := nI 6) G.1 G.2.1 d_Law_21 (by decide) ?_
  refine W.eq (g2 := F0 m 23 ls [.int (nI 6), .int (nI 6), .int (nI 6)]) rfl ?_
  refine lv_isub G.1 G.2.1 d_Law_23 ?_
  refine tpi (w := nI 0) (by decide) ?_
  refine lv_icmp_gt (tgt := 1774) G.1 G.2.1 d_Law_24 (by decide) (fun c24 => ?_) (fun c24 => absurd c24 (by decide))
  refine lv_iconst (v := nI 1) G.1 G.2.1 d_Law_1774 (by decide) ?_
  refine va_forget (fun q hq => hAA _ (hS.2.2 q hq)) ?_
  refine W.widen (k := 600002) (n := 7302232) (Nat.le_of_ble_eq_true rfl) (Nat.le_of_ble_eq_true rfl) ?_
  exact lw_ret G.1 G.2.1 G.2.2.2.1 G.2.2.2.2.1 d_Law_1775
theorem q2472 : Cond.code y_Cw_outcome b_Cw_outcome 4 (some .int) ∈ lw_ok := lw_okmem (List.mem_of_getElem? (i := 2472) (by decide +kernel)) rfl
theorem q2470 : Cond.instanceMethod y_Cw_outcome ∈ lw_ok := lw_okmem (List.mem_of_getElem? (i := 2470) (by decide +kernel)) rfl
theorem q2471 : Cond.selects y_Cw_outcome.cls y_Cw_outcome y_Cw_outcome ∈ lw_ok := lw_okmem (List.mem_of_getElem? (i := 2471) (by decide +kernel)) rfl
theorem w_Cw_outcome : CWv y_Cw_outcome b_Cw_outcome 4 (some .int) 3 ∧ Cond.instanceMethod y_Cw_outcome ∈ lw_ok ∧ Cond.selects y_Cw_outcome.cls y_Cw_outcome y_Cw_outcome ∈ lw_ok := ⟨⟨q2472, q329, by decide +kernel, by decide +kernel, by decide +kernel⟩, q2470, q2471⟩
theorem q2469 : Cond.methodLink "ClassWorksLaw" 157 y_Cw_outcome ∈ lw_ok := lw_okmem (List.mem_of_getElem? (i := 2469) (by decide +kernel)) rfl
theorem q4223 : Cond.code y_Mo_outcome b_Mo_outcome 4 (some .int) ∈ lw_ok := lw_okmem (List.mem_of_getElem? (i := 4223) (by decide +kernel)) rfl
theorem q4221 : Cond.instanceMethod y_Mo_outcome ∈ lw_ok := lw_okmem (List.mem_of_getElem? (i := 4221) (by decide +kernel)) rfl
theorem q4222 : Cond.selects y_Mo_outcome.cls y_Mo_outcome y_Mo_outcome ∈ lw_ok := lw_okmem (List.mem_of_getElem? (i := 4222) (by decide +kernel)) rfl
theorem w_Mo_outcome : CWv y_Mo_outcome b_Mo_outcome 4 (some .int) 3 ∧ Cond.instanceMethod y_Mo_outcome ∈ lw_ok ∧ Cond.selects y_Mo_outcome.cls y_Mo_outcome y_Mo_outcome ∈ lw_ok := ⟨⟨q4223, q348, by decide +kernel, by decide +kernel, by decide +kernel⟩, q4221, q4222⟩
theorem q4220 : Cond.methodLink "ClassWorksLaw" 160 y_Mo_outcome ∈ lw_ok := lw_okmem (List.mem_of_getElem? (i := 4220) (by decide +kernel)) rfl
theorem d_Law_1478 : decode code 1478 = .ok (.aload_n 1, 1) := by decide +kernel
theorem d_Law_1479 : decode code 1479 = .ok (.aload_n 0, 1) := by decide +kernel
theorem d_Law_1480 : decode code 1480 = .ok (.iload_n 3, 1) := by decide +kernel
theorem d_Law_1481 : decode code 1481 = .ok (.iconst 1, 1) := by decide +kernel
theorem d_Law_1482 : decode code 1482 = .ok (.iadd, 1) := by decide +kernel
theorem d_Law_1483 : decode code 1483 = .ok (.iaload, 1) := by decide +kernel
theorem d_Law_1484 : decode code 1484 = .ok (.aload_n 0, 1) := by decide +kernel
theorem d_Law_1485 : decode code 1485 = .ok (.iload_n 3, 1) := by decide +kernel
theorem d_Law_1486 : decode code 1486 = .ok (.iconst 2, 1) := by decide +kernel
theorem d_Law_1487 : decode code 1487 = .ok (.iadd, 1) := by decide +kernel
theorem d_Law_1488 : decode code 1488 = .ok (.iaload, 1) := by decide +kernel
theorem d_Law_1489 : decode code 1489 = .ok (.aload_n 0, 1) := by decide +kernel
theorem d_Law_1490 : decode code 1490 = .ok (.iload_n 3, 1) := by decide +kernel
theorem d_Law_1491 : decode code 1491 = .ok (.iconst 3, 1) := by decide +kernel
theorem d_Law_1492 : decode code 1492 = .ok (.iadd, 1) := by decide +kernel
theorem d_Law_1493 : decode code 1493 = .ok (.iaload, 1) := by decide +kernel
theorem d_Law_1494 : decode code 1494 = .ok (.invokevirtual 157, 3) := by decide +kernel
theorem d_Law_1497 : decode code 1497 = .ok (.aload_n 2, 1) := by decide +kernel
theorem d_Law_1498 : decode code 1498 = .ok (.aload_n 0, 1) := by decide +kernel
theorem d_Law_1499 : decode code 1499 = .ok (.iload_n 3, 1) := by decide +kernel
theorem d_Law_1500 : decode code 1500 = .ok (.iconst 1, 1) := by decide +kernel
theorem d_Law_1501 : decode code 1501 = .ok (.iadd, 1) := by decide +kernel
theorem d_Law_1502 : decode code 1502 = .ok (.iaload, 1) := by decide +kernel
theorem d_Law_1503 : decode code 1503 = .ok (.aload_n 0, 1) := by decide +kernel
theorem d_Law_1504 : decode code 1504 = .ok (.iload_n 3, 1) := by decide +kernel
theorem d_Law_1505 : decode code 1505 = .ok (.iconst 2, 1) := by decide +kernel
theorem d_Law_1506 : decode code 1506 = .ok (.iadd, 1) := by decide +kernel
theorem d_Law_1507 : decode code 1507 = .ok (.iaload, 1) := by decide +kernel
theorem d_Law_1508 : decode code 1508 = .ok (.aload_n 0, 1) := by decide +kernel
theorem d_Law_1509 : decode code 1509 = .ok (.iload_n 3, 1) := by decide +kernel
theorem d_Law_1510 : decode code 1510 = .ok (.iconst 3, 1) := by decide +kernel
theorem d_Law_1511 : decode code 1511 = .ok (.iadd, 1) := by decide +kernel
theorem d_Law_1512 : decode code 1512 = .ok (.iaload, 1) := by decide +kernel
theorem d_Law_1513 : decode code 1513 = .ok (.invokevirtual 160, 3) := by decide +kernel
theorem d_Law_1516 : decode code 1516 = .ok (.if_icmp .eq 252, 3) := by decide +kernel
set_option maxHeartbeats 4000000 in
set_option maxRecDepth 100000 in
theorem law_outcome {p : Program} {e : Env} {s : State} {m : MethodId} {below : List Frame} {meth : Method} {c : Code} {l : Launch} {D : va_G} {g : Nat → ClassId} {sl : List SL} {b : Nat} {xs : Nat → Int32} {A : Nat → Prop} (h0 : Nat) (r_cwords : Nat) (r_creader : Nat) (r_cchecker : Nat) (r_cfinder : Nat) (r_cwriter : Nat) (r_cmachines : Nat) (r_ctape : Nat) (r_cstock : Nat) (r_csizes : Nat) (r_cmet : Nat) (r_cfound : Nat) (r_cdraft : Nat) (r_cfewestFor : Nat) (r_cfewestNext : Nat) (h0X : Nat) (fsX : List Value) (G : GV l p s m #[Value.ref b] meth c (⟨"ClassWorksLaw", meth.name, ""⟩ : MethodName) code 4 ret g D sl A) (hX : va_X b 6 xs s s.heap) (hbl : b < s.heap.size) (hbA : ¬ A b) (hAA : ∀ q, A q → s.heap.size ≤ q) {H : Heap} {locs : List Loc} {ls : Array Slot} (glenX : fsX.length = 131) (gk0X : fsX[121]? = some (.int (nI 0))) (hP : va_P D CL [(h0, .inr (11, [.ref r_cwords, .ref r_creader, .ref r_cchecker, .ref r_cfinder, .ref r_cwriter, .ref r_cmachines, .ref r_ctape, .int (nI 0), .int (-2), .int (nI 60000), .ref r_cstock, .ref r_csizes, .ref r_cmet, .ref r_cfound, .int (nI 0), .ref r_cdraft, .int (nI 0), .int (nI 0), .ref r_cfewestFor, .ref r_cfewestNext])), (h0X, .inr (14, fsX))] H) (hD : va_D A [(h0, .inr (11, [.ref r_cwords, .ref r_creader, .ref r_cchecker, .ref r_cfinder, .ref r_cwriter, .ref r_cmachines, .ref r_ctape, .int (nI 0), .int (-2), .int (nI 60000), .ref r_cstock, .ref r_csizes, .ref r_cmet, .ref r_cfound, .int (nI 0), .ref r_cdraft, .int (nI 0), .int (nI 0), .ref r_cfewestFor, .ref r_cfewestNext])), (h0X, .inr (14, fsX))]) (hS : va_S A s.heap H locs) (hl : lv_has ls 4 [(0, .ref b), (1, .ref h0), (2, .ref h0X), (3, .int (nI 0))]) : W p l e room_1 s m #[Value.ref b] below meth c H locs 702 488194 (lw_Z below #[Value.ref b] s) (F0 m 1478 ls []) := by
  refine lv_aload_n G.1 G.2.1 d_Law_1478 rfl (lv_at hl 1 rfl) ?_
  refine lv_aload_n G.1 G.2.1 d_Law_1479 rfl (lv_at hl 0 rfl) ?_
  refine lv_iload_n G.1 G.2.1 d_Law_1480 rfl (lv_at hl 3 rfl) ?_
  refine lv_iconst (v := nI 1) G.1 G.2.1 d_Law_1481 (by decide) ?_
  refine lv_iadd G.1 G.2.1 d_Law_1482 ?_
  refine tpi (w := nI 1) (by decide) ?_
  refine va_sld G.1 G.2.1 hX hbl hbA hS (nI_inn (n := 6) (a := 1) (by decide) (by decide)) d_Law_1483 ?_
  refine tpi (w := (xs 1)) (by rw [nI_clamp (by decide)]) ?_
  refine lv_aload_n G.1 G.2.1 d_Law_1484 rfl (lv_at hl 0 rfl) ?_
  refine lv_iload_n G.1 G.2.1 d_Law_1485 rfl (lv_at hl 3 rfl) ?_
  refine lv_iconst (v := nI 2) G.1 G.2.1 d_Law_1486 (by decide) ?_
  refine lv_iadd G.1 G.2.1 d_Law_1487 ?_
  refine tpi (w := nI 2) (by decide) ?_
  refine va_sld G.1 G.2.1 hX hbl hbA hS (nI_inn (n := 6) (a := 2) (by decide) (by decide)) d_Law_1488 ?_
  refine tpi (w := (xs 2)) (by rw [nI_clamp (by decide)]) ?_
  refine W.eq (g2 := F0 m 1489 ls [.int (xs 2), .int (xs 1), .ref h0]) rfl ?_
  refine lv_aload_n G.1 G.2.1 d_Law_1489 rfl (lv_at hl 0 rfl) ?_
  refine lv_iload_n G.1 G.2.1 d_Law_1490 rfl (lv_at hl 3 rfl) ?_
  refine lv_iconst (v := nI 3) G.1 G.2.1 d_Law_1491 (by decide) ?_
  refine lv_iadd G.1 G.2.1 d_Law_1492 ?_
  refine tpi (w := nI 3) (by decide) ?_
  refine va_sld G.1 G.2.1 hX hbl hbA hS (nI_inn (n := 6) (a := 3) (by decide) (by decide)) d_Law_1493 ?_
  refine tpi (w := (xs 3)) (by rw [nI_clamp (by decide)]) ?_
  refine kEi (wr := [(h0X, .inr (14, fsX))]) G (kV (As := [.int (xs 1), .int (xs 2), .int (xs 3)]) (rest := []) G hP hD hS [0] rfl rfl (c_Cw_outcome l D g h0 (xs 1) (xs 2) (xs 3) r_cwords r_creader r_cchecker r_cfinder r_cwriter r_cmachines r_ctape r_cstock r_csizes r_cmet r_cfound r_cdraft r_cfewestFor r_cfewestNext H.size ) w_Cw_outcome q2469 rfl rfl ⟨Nat.le_of_ble_eq_true rfl, Nat.le_of_ble_eq_true rfl⟩ (fun _ h => absurd h List.not_mem_nil) 0 (ci := 11) rfl rfl rfl hl.1 rfl (Nat.le_of_ble_eq_true rfl) rfl ⟨Nat.le_of_ble_eq_true rfl, (Nat.le_of_ble_eq_true rfl)⟩ d_Law_1494) hP hD hS [0] [1] rfl rfl rfl rfl (fun r_1 u_2 H locs hw hP hD hS hzH => ?_)
  have hw : r_1 = (-1) := hw
  have hP : va_P D CL [(h0X, .inr (14, fsX))] H := hP
  have hD : va_D A [(h0X, .inr (14, fsX))] := hD
  subst hw
  refine tpst (w := [.int (-1)]) rfl ?_
  refine lv_aload_n G.1 G.2.1 d_Law_1497 rfl (lv_at hl 2 rfl) ?_
  refine lv_aload_n G.1 G.2.1 d_Law_1498 rfl (lv_at hl 0 rfl) ?_
  refine lv_iload_n G.1 G.2.1 d_Law_1499 rfl (lv_at hl 3 rfl) ?_
  refine lv_iconst (v := nI 1) G.1 G.2.1 d_Law_1500 (by decide) ?_
  refine lv_iadd G.1 G.2.1 d_Law_1501 ?_
  refine tpi (w := nI 1) (by decide) ?_
  refine va_sld G.1 G.2.1 hX hbl hbA hS (nI_inn (n := 6) (a := 1) (by decide) (by decide)) d_Law_1502 ?_
  refine tpi (w := (xs 1)) (by rw [nI_clamp (by decide)]) ?_
  refine W.eq (g2 := F0 m 1503 ls [.int (xs 1), .ref h0X, .int (-1)]) rfl ?_
  refine lv_aload_n G.1 G.2.1 d_Law_1503 rfl (lv_at hl 0 rfl) ?_
  refine lv_iload_n G.1 G.2.1 d_Law_1504 rfl (lv_at hl 3 rfl) ?_
  refine lv_iconst (v := nI 2) G.1 G.2.1 d_Law_1505 (by decide) ?_
  refine lv_iadd G.1 G.2.1 d_Law_1506 ?_
  refine tpi (w := nI 2) (by decide) ?_
  refine va_sld G.1 G.2.1 hX hbl hbA hS (nI_inn (n := 6) (a := 2) (by decide) (by decide)) d_Law_1507 ?_
  refine tpi (w := (xs 2)) (by rw [nI_clamp (by decide)]) ?_
  refine lv_aload_n G.1 G.2.1 d_Law_1508 rfl (lv_at hl 0 rfl) ?_
  refine lv_iload_n G.1 G.2.1 d_Law_1509 rfl (lv_at hl 3 rfl) ?_
  refine lv_iconst (v := nI 3) G.1 G.2.1 d_Law_1510 (by decide) ?_
  refine lv_iadd G.1 G.2.1 d_Law_1511 ?_
  refine tpi (w := nI 3) (by decide) ?_
  refine va_sld G.1 G.2.1 hX hbl hbA hS (nI_inn (n := 6) (a := 3) (by decide) (by decide)) d_Law_1512 ?_
  refine tpi (w := (xs 3)) (by rw [nI_clamp (by decide)]) ?_
  refine kEi (wr := []) G (kV (As := [.int (xs 1), .int (xs 2), .int (xs 3)]) (rest := [.int (-1)]) G hP hD hS [0] rfl rfl (c_Mo_outcome l D g h0X (xs 1) (xs 2) (xs 3) fsX H.size glenX gk0X) w_Mo_outcome q4220 rfl rfl ⟨Nat.le_of_ble_eq_true rfl, Nat.le_of_ble_eq_true rfl⟩ (fun _ h => absurd h List.not_mem_nil) 0 (ci := 14) rfl rfl rfl hl.1 rfl (Nat.le_of_ble_eq_true rfl) rfl ⟨Nat.le_of_ble_eq_true rfl, (Nat.le_of_ble_eq_true rfl)⟩ d_Law_1513) hP hD hS [0] [] rfl rfl rfl rfl (fun r_3 u_4 H locs hw hP hD hS hzH => ?_)
  have hw : r_3 = (-1) := hw
  have hP : va_P D CL [] H := hP
  have hD : va_D A [] := hD
  subst hw
  refine tpst (w := [.int (-1), .int (-1)]) rfl ?_
  refine lv_icmp_eq (tgt := 1768) G.1 G.2.1 d_Law_1516 (by decide) (fun c1516 => ?_) (fun c1516 => absurd c1516 (fun h => h rfl))
  refine W.eq (g2 := F0 m 1768 ls []) rfl ?_
  refine lv_iinc (v := nI 6) (lv' := [(3, .int (nI 6)), (0, .ref b), (1, .ref h0), (2, .ref h0X)]) G.1 G.2.1 d_Law_1768 hl (k := 3) rfl (show (nI 0) + Int32.ofInt 6 = nI 6 from by decide) (by decide) rfl (fun ls hl => ?_)
  refine lv_goto (tgt := 18) G.1 G.2.1 d_Law_1771 (by decide) ?_
  refine lv_iload_n G.1 G.2.1 d_Law_18 rfl (lv_at hl 0 rfl) ?_
  refine lv_aload_n G.1 G.2.1 d_Law_19 rfl (lv_at hl 1 rfl) ?_
  refine va_slen G.1 G.2.1 hX hbl hbA hS d_Law_20 ?_
  refine tpi (w := nI 6) rfl ?_
  refine lv_bipush (v := nI 6) G.1 G.2.1 d_Law_21 (by decide) ?_
  refine lv_isub G.1 G.2.1 d_Law_23 ?_
  refine tpi (w := nI 0) (by decide) ?_
  refine lv_icmp_gt (tgt := 1774) G.1 G.2.1 d_Law_24 (by decide) (fun c24 => ?_) (fun c24 => absurd c24 (by decide))
  refine lv_iconst (v := nI 1) G.1 G.2.1 d_Law_1774 (by decide) ?_
  refine va_forget (fun q hq => hAA _ (hS.2.2 q hq)) ?_
  refine W.widen (k := 600002) (n := 7302232) (Nat.le_of_ble_eq_true rfl) (Nat.le_of_ble_eq_true rfl) ?_
  exact lw_ret G.1 G.2.1 G.2.2.2.1 G.2.2.2.2.1 d_Law_1775
theorem q2493 : Cond.code y_Cw_meets b_Cw_meets 2 (some .int) ∈ lw_ok := lw_okmem (List.mem_of_getElem? (i := 2493) (by decide +kernel)) rfl
theorem q2491 : Cond.instanceMethod y_Cw_meets ∈ lw_ok := lw_okmem (List.mem_of_getElem? (i := 2491) (by decide +kernel)) rfl
theorem q2492 : Cond.selects y_Cw_meets.cls y_Cw_meets y_Cw_meets ∈ lw_ok := lw_okmem (List.mem_of_getElem? (i := 2492) (by decide +kernel)) rfl
theorem w_Cw_meets : CWv y_Cw_meets b_Cw_meets 2 (some .int) 1 ∧ Cond.instanceMethod y_Cw_meets ∈ lw_ok ∧ Cond.selects y_Cw_meets.cls y_Cw_meets y_Cw_meets ∈ lw_ok := ⟨⟨q2493, q329, by decide +kernel, by decide +kernel, by decide +kernel⟩, q2491, q2492⟩
theorem q2490 : Cond.methodLink "ClassWorksLaw" 161 y_Cw_meets ∈ lw_ok := lw_okmem (List.mem_of_getElem? (i := 2490) (by decide +kernel)) rfl
theorem q4239 : Cond.code y_Mo_meets b_Mo_meets 2 (some .int) ∈ lw_ok := lw_okmem (List.mem_of_getElem? (i := 4239) (by decide +kernel)) rfl
theorem q4237 : Cond.instanceMethod y_Mo_meets ∈ lw_ok := lw_okmem (List.mem_of_getElem? (i := 4237) (by decide +kernel)) rfl
theorem q4238 : Cond.selects y_Mo_meets.cls y_Mo_meets y_Mo_meets ∈ lw_ok := lw_okmem (List.mem_of_getElem? (i := 4238) (by decide +kernel)) rfl
theorem w_Mo_meets : CWv y_Mo_meets b_Mo_meets 2 (some .int) 1 ∧ Cond.instanceMethod y_Mo_meets ∈ lw_ok ∧ Cond.selects y_Mo_meets.cls y_Mo_meets y_Mo_meets ∈ lw_ok := ⟨⟨q4239, q348, by decide +kernel, by decide +kernel, by decide +kernel⟩, q4237, q4238⟩
theorem q4236 : Cond.methodLink "ClassWorksLaw" 164 y_Mo_meets ∈ lw_ok := lw_okmem (List.mem_of_getElem? (i := 4236) (by decide +kernel)) rfl
theorem d_Law_1521 : decode code 1521 = .ok (.aload_n 1, 1) := by decide +kernel
theorem d_Law_1522 : decode code 1522 = .ok (.aload_n 0, 1) := by decide +kernel
theorem d_Law_1523 : decode code 1523 = .ok (.iload_n 3, 1) := by decide +kernel
theorem d_Law_1524 : decode code 1524 = .ok (.iconst 1, 1) := by decide +kernel
theorem d_Law_1525 : decode code 1525 = .ok (.iadd, 1) := by decide +kernel
theorem d_Law_1526 : decode code 1526 = .ok (.iaload, 1) := by decide +kernel
theorem d_Law_1527 : decode code 1527 = .ok (.invokevirtual 161, 3) := by decide +kernel
theorem d_Law_1530 : decode code 1530 = .ok (.aload_n 2, 1) := by decide +kernel
theorem d_Law_1531 : decode code 1531 = .ok (.aload_n 0, 1) := by decide +kernel
theorem d_Law_1532 : decode code 1532 = .ok (.iload_n 3, 1) := by decide +kernel
theorem d_Law_1533 : decode code 1533 = .ok (.iconst 1, 1) := by decide +kernel
theorem d_Law_1534 : decode code 1534 = .ok (.iadd, 1) := by decide +kernel
theorem d_Law_1535 : decode code 1535 = .ok (.iaload, 1) := by decide +kernel
theorem d_Law_1536 : decode code 1536 = .ok (.invokevirtual 164, 3) := by decide +kernel
theorem d_Law_1539 : decode code 1539 = .ok (.if_icmp .eq 229, 3) := by decide +kernel
set_option maxHeartbeats 4000000 in
set_option maxRecDepth 100000 in
theorem law_meets {p : Program} {e : Env} {s : State} {m : MethodId} {below : List Frame} {meth : Method} {c : Code} {l : Launch} {D : va_G} {g : Nat → ClassId} {sl : List SL} {b : Nat} {xs : Nat → Int32} {A : Nat → Prop} (h0 : Nat) (r_cwords : Nat) (r_creader : Nat) (r_cchecker : Nat) (r_cfinder : Nat) (r_cwriter : Nat) (r_cmachines : Nat) (r_ctape : Nat) (r_cstock : Nat) (r_csizes : Nat) (r_cmet : Nat) (r_cfound : Nat) (r_cdraft : Nat) (r_cfewestFor : Nat) (r_cfewestNext : Nat) (h0X : Nat) (fsX : List Value) (G : GV l p s m #[Value.ref b] meth c (⟨"ClassWorksLaw", meth.name, ""⟩ : MethodName) code 4 ret g D sl A) (hX : va_X b 6 xs s s.heap) (hbl : b < s.heap.size) (hbA : ¬ A b) (hAA : ∀ q, A q → s.heap.size ≤ q) {H : Heap} {locs : List Loc} {ls : Array Slot} (glenX : fsX.length = 131) (gk0X : fsX[121]? = some (.int (nI 0))) (hP : va_P D CL [(h0, .inr (11, [.ref r_cwords, .ref r_creader, .ref r_cchecker, .ref r_cfinder, .ref r_cwriter, .ref r_cmachines, .ref r_ctape, .int (nI 0), .int (-2), .int (nI 60000), .ref r_cstock, .ref r_csizes, .ref r_cmet, .ref r_cfound, .int (nI 0), .ref r_cdraft, .int (nI 0), .int (nI 0), .ref r_cfewestFor, .ref r_cfewestNext])), (h0X, .inr (14, fsX))] H) (hD : va_D A [(h0, .inr (11, [.ref r_cwords, .ref r_creader, .ref r_cchecker, .ref r_cfinder, .ref r_cwriter, .ref r_cmachines, .ref r_ctape, .int (nI 0), .int (-2), .int (nI 60000), .ref r_cstock, .ref r_csizes, .ref r_cmet, .ref r_cfound, .int (nI 0), .ref r_cdraft, .int (nI 0), .int (nI 0), .ref r_cfewestFor, .ref r_cfewestNext])), (h0X, .inr (14, fsX))]) (hS : va_S A s.heap H locs) (hl : lv_has ls 4 [(0, .ref b), (1, .ref h0), (2, .ref h0X), (3, .int (nI 0))]) : W p l e room_1 s m #[Value.ref b] below meth c H locs 702 488194 (lw_Z below #[Value.ref b] s) (F0 m 1521 ls []) := by
  refine lv_aload_n G.1 G.2.1 d_Law_1521 rfl (lv_at hl 1 rfl) ?_
  refine lv_aload_n G.1 G.2.1 d_Law_1522 rfl (lv_at hl 0 rfl) ?_
  refine lv_iload_n G.1 G.2.1 d_Law_1523 rfl (lv_at hl 3 rfl) ?_
  refine lv_iconst (v := nI 1) G.1 G.2.1 d_Law_1524 (by decide) ?_
  refine lv_iadd G.1 G.2.1 d_Law_1525 ?_
  refine tpi (w := nI 1) (by decide) ?_
  refine va_sld G.1 G.2.1 hX hbl hbA hS (nI_inn (n := 6) (a := 1) (by decide) (by decide)) d_Law_1526 ?_
  refine tpi (w := (xs 1)) (by rw [nI_clamp (by decide)]) ?_
  refine kEi (wr := [(h0X, .inr (14, fsX))]) G (kV (As := [.int (xs 1)]) (rest := []) G hP hD hS [0] rfl rfl (c_Cw_meets l D g h0 (xs 1) r_cwords r_creader r_cchecker r_cfinder r_cwriter r_cmachines r_ctape r_cstock r_csizes r_cmet r_cfound r_cdraft r_cfewestFor r_cfewestNext H.size ) w_Cw_meets q2490 rfl rfl ⟨Nat.le_of_ble_eq_true rfl, Nat.le_of_ble_eq_true rfl⟩ (fun _ h => absurd h List.not_mem_nil) 0 (ci := 11) rfl rfl rfl hl.1 rfl (Nat.le_of_ble_eq_true rfl) rfl ⟨Nat.le_of_ble_eq_true rfl, (Nat.le_of_ble_eq_true rfl)⟩ d_Law_1527) hP hD hS [0] [1] rfl rfl rfl rfl (fun r_1 u_2 H locs hw hP hD hS hzH => ?_)
  have hw : r_1 = (-1) := hw
  have hP : va_P D CL [(h0X, .inr (14, fsX))] H := hP
  have hD : va_D A [(h0X, .inr (14, fsX))] := hD
  subst hw
  refine tpst (w := [.int (-1)]) rfl ?_
  refine lv_aload_n G.1 G.2.1 d_Law_1530 rfl (lv_at hl 2 rfl) ?_
  refine lv_aload_n G.1 G.2.1 d_Law_1531 rfl (lv_at hl 0 rfl) ?_
  refine lv_iload_n G.1 G.2.1 d_Law_1532 rfl (lv_at hl 3 rfl) ?_
  refine lv_iconst (v := nI 1) G.1 G.2.1 d_Law_1533 (by decide) ?_
  refine W.eq (g2 := F0 m 1534 ls [.int (nI 1), .int (nI 0), .ref b, .ref h0X, .int (-1)]) rfl ?_
  refine lv_iadd G.1 G.2.1 d_Law_1534 ?_
  refine tpi (w := nI 1) (by decide) ?_
  refine va_sld G.1 G.2.1 hX hbl hbA hS (nI_inn (n := 6) (a := 1) (by decide) (by decide)) d_Law_1535 ?_
  refine tpi (w := (xs 1)) (by rw [nI_clamp (by decide)]) ?_
  refine kEi (wr := []) G (kV (As := [.int (xs 1)]) (rest := [.int (-1)]) G hP hD hS [0] rfl rfl (c_Mo_meets l D g h0X (xs 1) fsX H.size glenX gk0X) w_Mo_meets q4236 rfl rfl ⟨Nat.le_of_ble_eq_true rfl, Nat.le_of_ble_eq_true rfl⟩ (fun _ h => absurd h List.not_mem_nil) 0 (ci := 14) rfl rfl rfl hl.1 rfl (Nat.le_of_ble_eq_true rfl) rfl ⟨Nat.le_of_ble_eq_true rfl, (Nat.le_of_ble_eq_true rfl)⟩ d_Law_1536) hP hD hS [0] [] rfl rfl rfl rfl (fun r_3 u_4 H locs hw hP hD hS hzH => ?_)
  have hw : r_3 = (-1) := hw
  have hP : va_P D CL [] H := hP
  have hD : va_D A [] := hD
  subst hw
  refine tpst (w := [.int (-1), .int (-1)]) rfl ?_
  refine lv_icmp_eq (tgt := 1768) G.1 G.2.1 d_Law_1539 (by decide) (fun c1539 => ?_) (fun c1539 => absurd c1539 (fun h => h rfl))
  refine lv_iinc (v := nI 6) (lv' := [(3, .int (nI 6)), (0, .ref b), (1, .ref h0), (2, .ref h0X)]) G.1 G.2.1 d_Law_1768 hl (k := 3) rfl (show (nI 0) + Int32.ofInt 6 = nI 6 from by decide) (by decide) rfl (fun ls hl => ?_)
  refine lv_goto (tgt := 18) G.1 G.2.1 d_Law_1771 (by decide) ?_
  refine lv_iload_n G.1 G.2.1 d_Law_18 rfl (lv_at hl 0 rfl) ?_
  refine lv_aload_n G.1 G.2.1 d_Law_19 rfl (lv_at hl 1 rfl) ?_
  refine va_slen G.1 G.2.1 hX hbl hbA hS d_Law_20 ?_
  refine tpi (w := nI 6) rfl ?_
  refine lv_bipush (v := nI 6) G.1 G.2.1 d_Law_21 (by decide) ?_
  refine lv_isub G.1 G.2.1 d_Law_23 ?_
  refine tpi (w := nI 0) (by decide) ?_
  refine lv_icmp_gt (tgt := 1774) G.1 G.2.1 d_Law_24 (by decide) (fun c24 => ?_) (fun c24 => absurd c24 (by decide))
  refine W.eq (g2 := F0 m 1774 ls []) rfl ?_
  refine lv_iconst (v := nI 1) G.1 G.2.1 d_Law_1774 (by decide) ?_
  refine va_forget (fun q hq => hAA _ (hS.2.2 q hq)) ?_
  refine W.widen (k := 600002) (n := 7302232) (Nat.le_of_ble_eq_true rfl) (Nat.le_of_ble_eq_true rfl) ?_
  exact lw_ret G.1 G.2.1 G.2.2.2.1 G.2.2.2.2.1 d_Law_1775
theorem q2501 : Cond.code y_Cw_finds b_Cw_finds 5 (some .int) ∈ lw_ok := lw_okmem (List.mem_of_getElem? (i := 2501) (by decide +kernel)) rfl
theorem q2499 : Cond.instanceMethod y_Cw_finds ∈ lw_ok := lw_okmem (List.mem_of_getElem? (i := 2499) (by decide +kernel)) rfl
theorem q2500 : Cond.selects y_Cw_finds.cls y_Cw_finds y_Cw_finds ∈ lw_ok := lw_okmem (List.mem_of_getElem? (i := 2500) (by decide +kernel)) rfl
theorem w_Cw_finds : CWv y_Cw_finds b_Cw_finds 5 (some .int) 2 ∧ Cond.instanceMethod y_Cw_finds ∈ lw_ok ∧ Cond.selects y_Cw_finds.cls y_Cw_finds y_Cw_finds ∈ lw_ok := ⟨⟨q2501, q329, by decide +kernel, by decide +kernel, by decide +kernel⟩, q2499, q2500⟩
theorem q2498 : Cond.methodLink "ClassWorksLaw" 165 y_Cw_finds ∈ lw_ok := lw_okmem (List.mem_of_getElem? (i := 2498) (by decide +kernel)) rfl
theorem q4247 : Cond.code y_Mo_finds b_Mo_finds 5 (some .int) ∈ lw_ok := lw_okmem (List.mem_of_getElem? (i := 4247) (by decide +kernel)) rfl
theorem q4245 : Cond.instanceMethod y_Mo_finds ∈ lw_ok := lw_okmem (List.mem_of_getElem? (i := 4245) (by decide +kernel)) rfl
theorem q4246 : Cond.selects y_Mo_finds.cls y_Mo_finds y_Mo_finds ∈ lw_ok := lw_okmem (List.mem_of_getElem? (i := 4246) (by decide +kernel)) rfl
theorem w_Mo_finds : CWv y_Mo_finds b_Mo_finds 5 (some .int) 2 ∧ Cond.instanceMethod y_Mo_finds ∈ lw_ok ∧ Cond.selects y_Mo_finds.cls y_Mo_finds y_Mo_finds ∈ lw_ok := ⟨⟨q4247, q348, by decide +kernel, by decide +kernel, by decide +kernel⟩, q4245, q4246⟩
theorem q4244 : Cond.methodLink "ClassWorksLaw" 168 y_Mo_finds ∈ lw_ok := lw_okmem (List.mem_of_getElem? (i := 4244) (by decide +kernel)) rfl
theorem d_Law_1544 : decode code 1544 = .ok (.aload_n 1, 1) := by decide +kernel
theorem d_Law_1545 : decode code 1545 = .ok (.aload_n 0, 1) := by decide +kernel
theorem d_Law_1546 : decode code 1546 = .ok (.iload_n 3, 1) := by decide +kernel
theorem d_Law_1547 : decode code 1547 = .ok (.iconst 1, 1) := by decide +kernel
theorem d_Law_1548 : decode code 1548 = .ok (.iadd, 1) := by decide +kernel
theorem d_Law_1549 : decode code 1549 = .ok (.iaload, 1) := by decide +kernel
theorem d_Law_1550 : decode code 1550 = .ok (.aload_n 0, 1) := by decide +kernel
theorem d_Law_1551 : decode code 1551 = .ok (.iload_n 3, 1) := by decide +kernel
theorem d_Law_1552 : decode code 1552 = .ok (.iconst 2, 1) := by decide +kernel
theorem d_Law_1553 : decode code 1553 = .ok (.iadd, 1) := by decide +kernel
theorem d_Law_1554 : decode code 1554 = .ok (.iaload, 1) := by decide +kernel
theorem d_Law_1555 : decode code 1555 = .ok (.invokevirtual 165, 3) := by decide +kernel
theorem d_Law_1558 : decode code 1558 = .ok (.aload_n 2, 1) := by decide +kernel
theorem d_Law_1559 : decode code 1559 = .ok (.aload_n 0, 1) := by decide +kernel
theorem d_Law_1560 : decode code 1560 = .ok (.iload_n 3, 1) := by decide +kernel
theorem d_Law_1561 : decode code 1561 = .ok (.iconst 1, 1) := by decide +kernel
theorem d_Law_1562 : decode code 1562 = .ok (.iadd, 1) := by decide +kernel
theorem d_Law_1563 : decode code 1563 = .ok (.iaload, 1) := by decide +kernel
theorem d_Law_1564 : decode code 1564 = .ok (.aload_n 0, 1) := by decide +kernel
theorem d_Law_1565 : decode code 1565 = .ok (.iload_n 3, 1) := by decide +kernel
theorem d_Law_1566 : decode code 1566 = .ok (.iconst 2, 1) := by decide +kernel
theorem d_Law_1567 : decode code 1567 = .ok (.iadd, 1) := by decide +kernel
theorem d_Law_1568 : decode code 1568 = .ok (.iaload, 1) := by decide +kernel
theorem d_Law_1569 : decode code 1569 = .ok (.invokevirtual 168, 3) := by decide +kernel
theorem d_Law_1572 : decode code 1572 = .ok (.if_icmp .eq 196, 3) := by decide +kernel
set_option maxHeartbeats 4000000 in
set_option maxRecDepth 100000 in
theorem law_finds {p : Program} {e : Env} {s : State} {m : MethodId} {below : List Frame} {meth : Method} {c : Code} {l : Launch} {D : va_G} {g : Nat → ClassId} {sl : List SL} {b : Nat} {xs : Nat → Int32} {A : Nat → Prop} (h0 : Nat) (r_cwords : Nat) (r_creader : Nat) (r_cchecker : Nat) (r_cfinder : Nat) (r_cwriter : Nat) (r_cmachines : Nat) (r_ctape : Nat) (r_cstock : Nat) (r_csizes : Nat) (r_cmet : Nat) (r_cfound : Nat) (r_cdraft : Nat) (r_cfewestFor : Nat) (r_cfewestNext : Nat) (h0X : Nat) (fsX : List Value) (G : GV l p s m #[Value.ref b] meth c (⟨"ClassWorksLaw", meth.name, ""⟩ : MethodName) code 4 ret g D sl A) (hX : va_X b 6 xs s s.heap) (hbl : b < s.heap.size) (hbA : ¬ A b) (hAA : ∀ q, A q → s.heap.size ≤ q) {H : Heap} {locs : List Loc} {ls : Array Slot} (glenX : fsX.length = 131) (gk0X : fsX[121]? = some (.int (nI 0))) (hP : va_P D CL [(h0, .inr (11, [.ref r_cwords, .ref r_creader, .ref r_cchecker, .ref r_cfinder, .ref r_cwriter, .ref r_cmachines, .ref r_ctape, .int (nI 0), .int (-2), .int (nI 60000), .ref r_cstock, .ref r_csizes, .ref r_cmet, .ref r_cfound, .int (nI 0), .ref r_cdraft, .int (nI 0), .int (nI 0), .ref r_cfewestFor, .ref r_cfewestNext])), (h0X, .inr (14, fsX))] H) (hD : va_D A [(h0, .inr (11, [.ref r_cwords, .ref r_creader, .ref r_cchecker, .ref r_cfinder, .ref r_cwriter, .ref r_cmachines, .ref r_ctape, .int (nI 0), .int (-2), .int (nI 60000), .ref r_cstock, .ref r_csizes, .ref r_cmet, .ref r_cfound, .int (nI 0), .ref r_cdraft, .int (nI 0), .int (nI 0), .ref r_cfewestFor, .ref r_cfewestNext])), (h0X, .inr (14, fsX))]) (hS : va_S A s.heap H locs) (hl : lv_has ls 4 [(0, .ref b), (1, .ref h0), (2, .ref h0X), (3, .int (nI 0))]) : W p l e room_1 s m #[Value.ref b] below meth c H locs 702 488194 (lw_Z below #[Value.ref b] s) (F0 m 1544 ls []) := by
  refine lv_aload_n G.1 G.2.1 d_Law_1544 rfl (lv_at hl 1 rfl) ?_
  refine lv_aload_n G.1 G.2.1 d_Law_1545 rfl (lv_at hl 0 rfl) ?_
  refine lv_iload_n G.1 G.2.1 d_Law_1546 rfl (lv_at hl 3 rfl) ?_
  refine lv_iconst (v := nI 1) G.1 G.2.1 d_Law_1547 (by decide) ?_
  refine lv_iadd G.1 G.2.1 d_Law_1548 ?_
  refine tpi (w := nI 1) (by decide) ?_
  refine va_sld G.1 G.2.1 hX hbl hbA hS (nI_inn (n := 6) (a := 1) (by decide) (by decide)) d_Law_1549 ?_
  refine tpi (w := (xs 1)) (by rw [nI_clamp (by decide)]) ?_
  refine lv_aload_n G.1 G.2.1 d_Law_1550 rfl (lv_at hl 0 rfl) ?_
  refine lv_iload_n G.1 G.2.1 d_Law_1551 rfl (lv_at hl 3 rfl) ?_
  refine lv_iconst (v := nI 2) G.1 G.2.1 d_Law_1552 (by decide) ?_
  refine lv_iadd G.1 G.2.1 d_Law_1553 ?_
  refine tpi (w := nI 2) (by decide) ?_
  refine va_sld G.1 G.2.1 hX hbl hbA hS (nI_inn (n := 6) (a := 2) (by decide) (by decide)) d_Law_1554 ?_
  refine tpi (w := (xs 2)) (by rw [nI_clamp (by decide)]) ?_
  refine W.eq (g2 := F0 m 1555 ls [.int (xs 2), .int (xs 1), .ref h0]) rfl ?_
  refine kEi (wr := [(h0X, .inr (14, fsX))]) G (kV (As := [.int (xs 1), .int (xs 2)]) (rest := []) G hP hD hS [0] rfl rfl (c_Cw_finds l D g h0 (xs 1) (xs 2) r_cwords r_creader r_cchecker r_cfinder r_cwriter r_cmachines r_ctape r_cstock r_csizes r_cmet r_cfound r_cdraft r_cfewestFor r_cfewestNext H.size ) w_Cw_finds q2498 rfl rfl ⟨Nat.le_of_ble_eq_true rfl, Nat.le_of_ble_eq_true rfl⟩ (fun _ h => absurd h List.not_mem_nil) 0 (ci := 11) rfl rfl rfl hl.1 rfl (Nat.le_of_ble_eq_true rfl) rfl ⟨Nat.le_of_ble_eq_true rfl, (Nat.le_of_ble_eq_true rfl)⟩ d_Law_1555) hP hD hS [0] [1] rfl rfl rfl rfl (fun r_1 u_2 H locs hw hP hD hS hzH => ?_)
  have hw : r_1 = (-1) := hw
  have hP : va_P D CL [(h0X, .inr (14, fsX))] H := hP
  have hD : va_D A [(h0X, .inr (14, fsX))] := hD
  subst hw
  refine tpst (w := [.int (-1)]) rfl ?_
  refine lv_aload_n G.1 G.2.1 d_Law_1558 rfl (lv_at hl 2 rfl) ?_
  refine lv_aload_n G.1 G.2.1 d_Law_1559 rfl (lv_at hl 0 rfl) ?_
  refine lv_iload_n G.1 G.2.1 d_Law_1560 rfl (lv_at hl 3 rfl) ?_
  refine lv_iconst (v := nI 1) G.1 G.2.1 d_Law_1561 (by decide) ?_
  refine lv_iadd G.1 G.2.1 d_Law_1562 ?_
  refine tpi (w := nI 1) (by decide) ?_
  refine va_sld G.1 G.2.1 hX hbl hbA hS (nI_inn (n := 6) (a := 1) (by decide) (by decide)) d_Law_1563 ?_
  refine tpi (w := (xs 1)) (by rw [nI_clamp (by decide)]) ?_
  refine lv_aload_n G.1 G.2.1 d_Law_1564 rfl (lv_at hl 0 rfl) ?_
  refine lv_iload_n G.1 G.2.1 d_Law_1565 rfl (lv_at hl 3 rfl) ?_
  refine lv_iconst (v := nI 2) G.1 G.2.1 d_Law_1566 (by decide) ?_
  refine lv_iadd G.1 G.2.1 d_Law_1567 ?_
  refine tpi (w := nI 2) (by decide) ?_
  refine va_sld G.1 G.2.1 hX hbl hbA hS (nI_inn (n := 6) (a := 2) (by decide) (by decide)) d_Law_1568 ?_
  refine tpi (w := (xs 2)) (by rw [nI_clamp (by decide)]) ?_
  refine W.eq (g2 := F0 m 1569 ls [.int (xs 2), .int (xs 1), .ref h0X, .int (-1)]) rfl ?_
  refine kEi (wr := []) G (kV (As := [.int (xs 1), .int (xs 2)]) (rest := [.int (-1)]) G hP hD hS [0] rfl rfl (c_Mo_finds l D g h0X (xs 1) (xs 2) fsX H.size glenX gk0X) w_Mo_finds q4244 rfl rfl ⟨Nat.le_of_ble_eq_true rfl, Nat.le_of_ble_eq_true rfl⟩ (fun _ h => absurd h List.not_mem_nil) 0 (ci := 14) rfl rfl rfl hl.1 rfl (Nat.le_of_ble_eq_true rfl) rfl ⟨Nat.le_of_ble_eq_true rfl, (Nat.le_of_ble_eq_true rfl)⟩ d_Law_1569) hP hD hS [0] [] rfl rfl rfl rfl (fun r_3 u_4 H locs hw hP hD hS hzH => ?_)
  have hw : r_3 = (-1) := hw
  have hP : va_P D CL [] H := hP
  have hD : va_D A [] := hD
  subst hw
  refine tpst (w := [.int (-1), .int (-1)]) rfl ?_
  refine lv_icmp_eq (tgt := 1768) G.1 G.2.1 d_Law_1572 (by decide) (fun c1572 => ?_) (fun c1572 => absurd c1572 (fun h => h rfl))
  refine lv_iinc (v := nI 6) (lv' := [(3, .int (nI 6)), (0, .ref b), (1, .ref h0), (2, .ref h0X)]) G.1 G.2.1 d_Law_1768 hl (k := 3) rfl (show (nI 0) + Int32.ofInt 6 = nI 6 from by decide) (by decide) rfl (fun ls hl => ?_)
  refine lv_goto (tgt := 18) G.1 G.2.1 d_Law_1771 (by decide) ?_
  refine lv_iload_n G.1 G.2.1 d_Law_18 rfl (lv_at hl 0 rfl) ?_
  refine lv_aload_n G.1 G.2.1 d_Law_19 rfl (lv_at hl 1 rfl) ?_
  refine va_slen G.1 G.2.1 hX hbl hbA hS d_Law_20 ?_
  refine tpi (w := nI 6) rfl ?_
  refine lv_bipush (v := nI 6) G.1 G.2.1 d_Law_21 (by decide) ?_
  refine lv_isub G.1 G.2.1 d_Law_23 ?_
  refine tpi (w := nI 0) (by decide) ?_
  refine lv_icmp_gt (tgt := 1774) G.1 G.2.1 d_Law_24 (by decide) (fun c24 => ?_) (fun c24 => absurd c24 (by decide))
  refine lv_iconst (v := nI 1) G.1 G.2.1 d_Law_1774 (by decide) ?_
  refine va_forget (fun q hq => hAA _ (hS.2.2 q hq)) ?_
  refine W.widen (k := 600002) (n := 7302232) (Nat.le_of_ble_eq_true rfl) (Nat.le_of_ble_eq_true rfl) ?_
  exact lw_ret G.1 G.2.1 G.2.2.2.1 G.2.2.2.2.1 d_Law_1775
theorem q2505 : Cond.code y_Cw_hole b_Cw_hole 4 (some .int) ∈ lw_ok := lw_okmem (List.mem_of_getElem? (i := 2505) (by decide +kernel)) rfl
theorem q2503 : Cond.instanceMethod y_Cw_hole ∈ lw_ok := lw_okmem (List.mem_of_getElem? (i := 2503) (by decide +kernel)) rfl
theorem q2504 : Cond.selects y_Cw_hole.cls y_Cw_hole y_Cw_hole ∈ lw_ok := lw_okmem (List.mem_of_getElem? (i := 2504) (by decide +kernel)) rfl
theorem w_Cw_hole : CWv y_Cw_hole b_Cw_hole 4 (some .int) 1 ∧ Cond.instanceMethod y_Cw_hole ∈ lw_ok ∧ Cond.selects y_Cw_hole.cls y_Cw_hole y_Cw_hole ∈ lw_ok := ⟨⟨q2505, q329, by decide +kernel, by decide +kernel, by decide +kernel⟩, q2503, q2504⟩
theorem q2502 : Cond.methodLink "ClassWorksLaw" 169 y_Cw_hole ∈ lw_ok := lw_okmem (List.mem_of_getElem? (i := 2502) (by decide +kernel)) rfl
theorem q4251 : Cond.code y_Mo_hole b_Mo_hole 6 (some .int) ∈ lw_ok := lw_okmem (List.mem_of_getElem? (i := 4251) (by decide +kernel)) rfl
theorem q4249 : Cond.instanceMethod y_Mo_hole ∈ lw_ok := lw_okmem (List.mem_of_getElem? (i := 4249) (by decide +kernel)) rfl
theorem q4250 : Cond.selects y_Mo_hole.cls y_Mo_hole y_Mo_hole ∈ lw_ok := lw_okmem (List.mem_of_getElem? (i := 4250) (by decide +kernel)) rfl
theorem w_Mo_hole : CWv y_Mo_hole b_Mo_hole 6 (some .int) 1 ∧ Cond.instanceMethod y_Mo_hole ∈ lw_ok ∧ Cond.selects y_Mo_hole.cls y_Mo_hole y_Mo_hole ∈ lw_ok := ⟨⟨q4251, q348, by decide +kernel, by decide +kernel, by decide +kernel⟩, q4249, q4250⟩
theorem q4248 : Cond.methodLink "ClassWorksLaw" 172 y_Mo_hole ∈ lw_ok := lw_okmem (List.mem_of_getElem? (i := 4248) (by decide +kernel)) rfl
theorem d_Law_1577 : decode code 1577 = .ok (.aload_n 1, 1) := by decide +kernel
theorem d_Law_1578 : decode code 1578 = .ok (.aload_n 0, 1) := by decide +kernel
theorem d_Law_1579 : decode code 1579 = .ok (.iload_n 3, 1) := by decide +kernel
theorem d_Law_1580 : decode code 1580 = .ok (.iconst 1, 1) := by decide +kernel
theorem d_Law_1581 : decode code 1581 = .ok (.iadd, 1) := by decide +kernel
theorem d_Law_1582 : decode code 1582 = .ok (.iaload, 1) := by decide +kernel
theorem d_Law_1583 : decode code 1583 = .ok (.invokevirtual 169, 3) := by decide +kernel
theorem d_Law_1586 : decode code 1586 = .ok (.aload_n 2, 1) := by decide +kernel
theorem d_Law_1587 : decode code 1587 = .ok (.aload_n 0, 1) := by decide +kernel
theorem d_Law_1588 : decode code 1588 = .ok (.iload_n 3, 1) := by decide +kernel
theorem d_Law_1589 : decode code 1589 = .ok (.iconst 1, 1) := by decide +kernel
theorem d_Law_1590 : decode code 1590 = .ok (.iadd, 1) := by decide +kernel
theorem d_Law_1591 : decode code 1591 = .ok (.iaload, 1) := by decide +kernel
theorem d_Law_1592 : decode code 1592 = .ok (.invokevirtual 172, 3) := by decide +kernel
theorem d_Law_1595 : decode code 1595 = .ok (.if_icmp .eq 173, 3) := by decide +kernel
set_option maxHeartbeats 4000000 in
set_option maxRecDepth 100000 in
theorem law_hole {p : Program} {e : Env} {s : State} {m : MethodId} {below : List Frame} {meth : Method} {c : Code} {l : Launch} {D : va_G} {g : Nat → ClassId} {sl : List SL} {b : Nat} {xs : Nat → Int32} {A : Nat → Prop} (h0 : Nat) (r_cwords : Nat) (r_creader : Nat) (r_cchecker : Nat) (r_cfinder : Nat) (r_cwriter : Nat) (r_cmachines : Nat) (r_ctape : Nat) (r_cstock : Nat) (r_csizes : Nat) (r_cmet : Nat) (r_cfound : Nat) (r_cdraft : Nat) (r_cfewestFor : Nat) (r_cfewestNext : Nat) (h0X : Nat) (fsX : List Value) (G : GV l p s m #[Value.ref b] meth c (⟨"ClassWorksLaw", meth.name, ""⟩ : MethodName) code 4 ret g D sl A) (hX : va_X b 6 xs s s.heap) (hbl : b < s.heap.size) (hbA : ¬ A b) (hAA : ∀ q, A q → s.heap.size ≤ q) {H : Heap} {locs : List Loc} {ls : Array Slot} (glenX : fsX.length = 131) (gk0X : fsX[121]? = some (.int (nI 0))) (hP : va_P D CL [(h0, .inr (11, [.ref r_cwords, .ref r_creader, .ref r_cchecker, .ref r_cfinder, .ref r_cwriter, .ref r_cmachines, .ref r_ctape, .int (nI 0), .int (-2), .int (nI 60000), .ref r_cstock, .ref r_csizes, .ref r_cmet, .ref r_cfound, .int (nI 0), .ref r_cdraft, .int (nI 0), .int (nI 0), .ref r_cfewestFor, .ref r_cfewestNext])), (h0X, .inr (14, fsX))] H) (hD : va_D A [(h0, .inr (11, [.ref r_cwords, .ref r_creader, .ref r_cchecker, .ref r_cfinder, .ref r_cwriter, .ref r_cmachines, .ref r_ctape, .int (nI 0), .int (-2), .int (nI 60000), .ref r_cstock, .ref r_csizes, .ref r_cmet, .ref r_cfound, .int (nI 0), .ref r_cdraft, .int (nI 0), .int (nI 0), .ref r_cfewestFor, .ref r_cfewestNext])), (h0X, .inr (14, fsX))]) (hS : va_S A s.heap H locs) (hl : lv_has ls 4 [(0, .ref b), (1, .ref h0), (2, .ref h0X), (3, .int (nI 0))]) : W p l e room_1 s m #[Value.ref b] below meth c H locs 702 488194 (lw_Z below #[Value.ref b] s) (F0 m 1577 ls []) := by
  refine lv_aload_n G.1 G.2.1 d_Law_1577 rfl (lv_at hl 1 rfl) ?_
  refine lv_aload_n G.1 G.2.1 d_Law_1578 rfl (lv_at hl 0 rfl) ?_
  refine lv_iload_n G.1 G.2.1 d_Law_1579 rfl (lv_at hl 3 rfl) ?_
  refine lv_iconst (v := nI 1) G.1 G.2.1 d_Law_1580 (by decide) ?_
  refine lv_iadd G.1 G.2.1 d_Law_1581 ?_
  refine tpi (w := nI 1) (by decide) ?_
  refine va_sld G.1 G.2.1 hX hbl hbA hS (nI_inn (n := 6) (a := 1) (by decide) (by decide)) d_Law_1582 ?_
  refine tpi (w := (xs 1)) (by rw [nI_clamp (by decide)]) ?_
  refine kEi (wr := [(h0X, .inr (14, fsX))]) G (kV (As := [.int (xs 1)]) (rest := []) G hP hD hS [0] rfl rfl (c_Cw_hole l D g h0 (xs 1) r_cwords r_creader r_cchecker r_cfinder r_cwriter r_cmachines r_ctape r_cstock r_csizes r_cmet r_cfound r_cdraft r_cfewestFor r_cfewestNext H.size ) w_Cw_hole q2502 rfl rfl ⟨Nat.le_of_ble_eq_true rfl, Nat.le_of_ble_eq_true rfl⟩ (fun _ h => absurd h List.not_mem_nil) 0 (ci := 11) rfl rfl rfl hl.1 rfl (Nat.le_of_ble_eq_true rfl) rfl ⟨Nat.le_of_ble_eq_true rfl, (Nat.le_of_ble_eq_true rfl)⟩ d_Law_1583) hP hD hS [0] [1] rfl rfl rfl rfl (fun r_1 u_2 H locs hw hP hD hS hzH => ?_)
  have hw : r_1 = hoF ((xs 1)) := hw
  have hP : va_P D CL [(h0X, .inr (14, fsX))] H := hP
  have hD : va_D A [(h0X, .inr (14, fsX))] := hD
  subst hw
  refine tpst (w := [.int (hoF ((xs 1)))]) rfl ?_
  refine lv_aload_n G.1 G.2.1 d_Law_1586 rfl (lv_at hl 2 rfl) ?_
  refine lv_aload_n G.1 G.2.1 d_Law_1587 rfl (lv_at hl 0 rfl) ?_
  refine lv_iload_n G.1 G.2.1 d_Law_1588 rfl (lv_at hl 3 rfl) ?_
  refine lv_iconst (v := nI 1) G.1 G.2.1 d_Law_1589 (by decide) ?_
  refine W.eq (g2 := F0 m 1590 ls [.int (nI 1), .int (nI 0), .ref b, .ref h0X, .int (hoF ((xs 1)))]) rfl ?_
  refine lv_iadd G.1 G.2.1 d_Law_1590 ?_
  refine tpi (w := nI 1) (by decide) ?_
  refine va_sld G.1 G.2.1 hX hbl hbA hS (nI_inn (n := 6) (a := 1) (by decide) (by decide)) d_Law_1591 ?_
  refine tpi (w := (xs 1)) (by rw [nI_clamp (by decide)]) ?_
  refine kEi (wr := []) G (kV (As := [.int (xs 1)]) (rest := [.int (hoF ((xs 1)))]) G hP hD hS [0] rfl rfl (c_Mo_hole l D g h0X (xs 1) fsX H.size glenX gk0X) w_Mo_hole q4248 rfl rfl ⟨Nat.le_of_ble_eq_true rfl, Nat.le_of_ble_eq_true rfl⟩ (fun _ h => absurd h List.not_mem_nil) 0 (ci := 14) rfl rfl rfl hl.1 rfl (Nat.le_of_ble_eq_true rfl) rfl ⟨Nat.le_of_ble_eq_true rfl, (Nat.le_of_ble_eq_true rfl)⟩ d_Law_1592) hP hD hS [0] [] rfl rfl rfl rfl (fun r_3 u_4 H locs hw hP hD hS hzH => ?_)
  have hw : r_3 = hoF ((xs 1)) := hw
  have hP : va_P D CL [] H := hP
  have hD : va_D A [] := hD
  subst hw
  refine tpst (w := [.int (hoF ((xs 1))), .int (hoF ((xs 1)))]) rfl ?_
  refine lv_icmp_eq (tgt := 1768) G.1 G.2.1 d_Law_1595 (by decide) (fun c1595 => ?_) (fun c1595 => absurd c1595 (fun h => h rfl))
  refine lv_iinc (v := nI 6) (lv' := [(3, .int (nI 6)), (0, .ref b), (1, .ref h0), (2, .ref h0X)]) G.1 G.2.1 d_Law_1768 hl (k := 3) rfl (show (nI 0) + Int32.ofInt 6 = nI 6 from by decide) (by decide) rfl (fun ls hl => ?_)
  refine lv_goto (tgt := 18) G.1 G.2.1 d_Law_1771 (by decide) ?_
  refine lv_iload_n G.1 G.2.1 d_Law_18 rfl (lv_at hl 0 rfl) ?_
  refine lv_aload_n G.1 G.2.1 d_Law_19 rfl (lv_at hl 1 rfl) ?_
  refine va_slen G.1 G.2.1 hX hbl hbA hS d_Law_20 ?_
  refine tpi (w := nI 6) rfl ?_
  refine lv_bipush (v := nI 6) G.1 G.2.1 d_Law_21 (by decide) ?_
  refine lv_isub G.1 G.2.1 d_Law_23 ?_
  refine tpi (w := nI 0) (by decide) ?_
  refine lv_icmp_gt (tgt := 1774) G.1 G.2.1 d_Law_24 (by decide) (fun c24 => ?_) (fun c24 => absurd c24 (by decide))
  refine W.eq (g2 := F0 m 1774 ls []) rfl ?_
  refine lv_iconst (v := nI 1) G.1 G.2.1 d_Law_1774 (by decide) ?_
  refine va_forget (fun q hq => hAA _ (hS.2.2 q hq)) ?_
  refine W.widen (k := 600002) (n := 7302232) (Nat.le_of_ble_eq_true rfl) (Nat.le_of_ble_eq_true rfl) ?_
  exact lw_ret G.1 G.2.1 G.2.2.2.1 G.2.2.2.2.1 d_Law_1775
theorem q2516 : Cond.code y_Cw_least b_Cw_least 2 (some .int) ∈ lw_ok := lw_okmem (List.mem_of_getElem? (i := 2516) (by decide +kernel)) rfl
theorem q2514 : Cond.instanceMethod y_Cw_least ∈ lw_ok := lw_okmem (List.mem_of_getElem? (i := 2514) (by decide +kernel)) rfl
theorem q2515 : Cond.selects y_Cw_least.cls y_Cw_least y_Cw_least ∈ lw_ok := lw_okmem (List.mem_of_getElem? (i := 2515) (by decide +kernel)) rfl
theorem w_Cw_least : CWv y_Cw_least b_Cw_least 2 (some .int) 0 ∧ Cond.instanceMethod y_Cw_least ∈ lw_ok ∧ Cond.selects y_Cw_least.cls y_Cw_least y_Cw_least ∈ lw_ok := ⟨⟨q2516, q329, by decide +kernel, by decide +kernel, by decide +kernel⟩, q2514, q2515⟩
theorem q2513 : Cond.methodLink "ClassWorksLaw" 173 y_Cw_least ∈ lw_ok := lw_okmem (List.mem_of_getElem? (i := 2513) (by decide +kernel)) rfl
theorem q4258 : Cond.code y_Mo_least b_Mo_least 7 (some .int) ∈ lw_ok := lw_okmem (List.mem_of_getElem? (i := 4258) (by decide +kernel)) rfl
theorem q4256 : Cond.instanceMethod y_Mo_least ∈ lw_ok := lw_okmem (List.mem_of_getElem? (i := 4256) (by decide +kernel)) rfl
theorem q4257 : Cond.selects y_Mo_least.cls y_Mo_least y_Mo_least ∈ lw_ok := lw_okmem (List.mem_of_getElem? (i := 4257) (by decide +kernel)) rfl
theorem w_Mo_least : CWv y_Mo_least b_Mo_least 7 (some .int) 0 ∧ Cond.instanceMethod y_Mo_least ∈ lw_ok ∧ Cond.selects y_Mo_least.cls y_Mo_least y_Mo_least ∈ lw_ok := ⟨⟨q4258, q348, by decide +kernel, by decide +kernel, by decide +kernel⟩, q4256, q4257⟩
theorem q4255 : Cond.methodLink "ClassWorksLaw" 176 y_Mo_least ∈ lw_ok := lw_okmem (List.mem_of_getElem? (i := 4255) (by decide +kernel)) rfl
theorem d_Law_1600 : decode code 1600 = .ok (.aload_n 1, 1) := by decide +kernel
theorem d_Law_1601 : decode code 1601 = .ok (.invokevirtual 173, 3) := by decide +kernel
theorem d_Law_1604 : decode code 1604 = .ok (.aload_n 2, 1) := by decide +kernel
theorem d_Law_1605 : decode code 1605 = .ok (.invokevirtual 176, 3) := by decide +kernel
theorem d_Law_1608 : decode code 1608 = .ok (.if_icmp .eq 160, 3) := by decide +kernel
set_option maxHeartbeats 4000000 in
set_option maxRecDepth 100000 in
theorem law_least {p : Program} {e : Env} {s : State} {m : MethodId} {below : List Frame} {meth : Method} {c : Code} {l : Launch} {D : va_G} {g : Nat → ClassId} {sl : List SL} {b : Nat} {xs : Nat → Int32} {A : Nat → Prop} (h0 : Nat) (r_cwords : Nat) (r_creader : Nat) (r_cchecker : Nat) (r_cfinder : Nat) (r_cwriter : Nat) (r_cmachines : Nat) (r_ctape : Nat) (r_cstock : Nat) (r_csizes : Nat) (r_cmet : Nat) (r_cfound : Nat) (r_cdraft : Nat) (r_cfewestFor : Nat) (r_cfewestNext : Nat) (h0X : Nat) (fsX : List Value) (G : GV l p s m #[Value.ref b] meth c (⟨"ClassWorksLaw", meth.name, ""⟩ : MethodName) code 4 ret g D sl A) (hX : va_X b 6 xs s s.heap) (hbl : b < s.heap.size) (hbA : ¬ A b) (hAA : ∀ q, A q → s.heap.size ≤ q) {H : Heap} {locs : List Loc} {ls : Array Slot} (glenX : fsX.length = 131) (gk0X : fsX[121]? = some (.int (nI 0))) (hP : va_P D CL [(h0, .inr (11, [.ref r_cwords, .ref r_creader, .ref r_cchecker, .ref r_cfinder, .ref r_cwriter, .ref r_cmachines, .ref r_ctape, .int (nI 0), .int (-2), .int (nI 60000), .ref r_cstock, .ref r_csizes, .ref r_cmet, .ref r_cfound, .int (nI 0), .ref r_cdraft, .int (nI 0), .int (nI 0), .ref r_cfewestFor, .ref r_cfewestNext])), (h0X, .inr (14, fsX))] H) (hD : va_D A [(h0, .inr (11, [.ref r_cwords, .ref r_creader, .ref r_cchecker, .ref r_cfinder, .ref r_cwriter, .ref r_cmachines, .ref r_ctape, .int (nI 0), .int (-2), .int (nI 60000), .ref r_cstock, .ref r_csizes, .ref r_cmet, .ref r_cfound, .int (nI 0), .ref r_cdraft, .int (nI 0), .int (nI 0), .ref r_cfewestFor, .ref r_cfewestNext])), (h0X, .inr (14, fsX))]) (hS : va_S A s.heap H locs) (hl : lv_has ls 4 [(0, .ref b), (1, .ref h0), (2, .ref h0X), (3, .int (nI 0))]) : W p l e room_1 s m #[Value.ref b] below meth c H locs 702 488194 (lw_Z below #[Value.ref b] s) (F0 m 1600 ls []) := by
  refine lv_aload_n G.1 G.2.1 d_Law_1600 rfl (lv_at hl 1 rfl) ?_
  refine kEi (wr := [(h0X, .inr (14, fsX))]) G (kV (As := []) (rest := []) G hP hD hS [0] rfl rfl (c_Cw_least l D g h0 r_cwords r_creader r_cchecker r_cfinder r_cwriter r_cmachines r_ctape r_cstock r_csizes r_cmet r_cfound r_cdraft r_cfewestFor r_cfewestNext H.size ) w_Cw_least q2513 rfl rfl ⟨Nat.le_of_ble_eq_true rfl, Nat.le_of_ble_eq_true rfl⟩ (fun _ h => absurd h List.not_mem_nil) 0 (ci := 11) rfl rfl rfl hl.1 rfl (Nat.le_of_ble_eq_true rfl) rfl ⟨Nat.le_of_ble_eq_true rfl, (Nat.le_of_ble_eq_true rfl)⟩ d_Law_1601) hP hD hS [0] [1] rfl rfl rfl rfl (fun r_1 u_2 H locs hw hP hD hS hzH => ?_)
  have hw : r_1 = nI 0 := hw
  have hP : va_P D CL [(h0X, .inr (14, fsX))] H := hP
  have hD : va_D A [(h0X, .inr (14, fsX))] := hD
  subst hw
  refine tpst (w := [.int (nI 0)]) rfl ?_
  refine lv_aload_n G.1 G.2.1 d_Law_1604 rfl (lv_at hl 2 rfl) ?_
  refine kEi (wr := []) G (kV (As := []) (rest := [.int (nI 0)]) G hP hD hS [0] rfl rfl (c_Mo_least l D g h0X fsX H.size glenX gk0X) w_Mo_least q4255 rfl rfl ⟨Nat.le_of_ble_eq_true rfl, Nat.le_of_ble_eq_true rfl⟩ (fun _ h => absurd h List.not_mem_nil) 0 (ci := 14) rfl rfl rfl hl.1 rfl (Nat.le_of_ble_eq_true rfl) rfl ⟨Nat.le_of_ble_eq_true rfl, (Nat.le_of_ble_eq_true rfl)⟩ d_Law_1605) hP hD hS [0] [] rfl rfl rfl rfl (fun r_3 u_4 H locs hw hP hD hS hzH => ?_)
  have hw : r_3 = nI 0 := hw
  have hP : va_P D CL [] H := hP
  have hD : va_D A [] := hD
  subst hw
  refine tpst (w := [.int (nI 0), .int (nI 0)]) rfl ?_
  refine lv_icmp_eq (tgt := 1768) G.1 G.2.1 d_Law_1608 (by decide) (fun c1608 => ?_) (fun c1608 => absurd c1608 (by decide))
  refine lv_iinc (v := nI 6) (lv' := [(3, .int (nI 6)), (0, .ref b), (1, .ref h0), (2, .ref h0X)]) G.1 G.2.1 d_Law_1768 hl (k := 3) rfl (show (nI 0) + Int32.ofInt 6 = nI 6 from by decide) (by decide) rfl (fun ls hl => ?_)
  refine lv_goto (tgt := 18) G.1 G.2.1 d_Law_1771 (by decide) ?_
  refine lv_iload_n G.1 G.2.1 d_Law_18 rfl (lv_at hl 0 rfl) ?_
  refine lv_aload_n G.1 G.2.1 d_Law_19 rfl (lv_at hl 1 rfl) ?_
  refine va_slen G.1 G.2.1 hX hbl hbA hS d_Law_20 ?_
  refine tpi (w := nI 6) rfl ?_
  refine lv_bipush (v := nI 6) G.1 G.2.1 d_Law_21 (by decide) ?_
  refine W.eq (g2 := F0 m 23 ls [.int (nI 6), .int (nI 6), .int (nI 6)]) rfl ?_
  refine lv_isub G.1 G.2.1 d_Law_23 ?_
  refine tpi (w := nI 0) (by decide) ?_
  refine lv_icmp_gt (tgt := 1774) G.1 G.2.1 d_Law_24 (by decide) (fun c24 => ?_) (fun c24 => absurd c24 (by decide))
  refine lv_iconst (v := nI 1) G.1 G.2.1 d_Law_1774 (by decide) ?_
  refine va_forget (fun q hq => hAA _ (hS.2.2 q hq)) ?_
  refine W.widen (k := 600002) (n := 7302232) (Nat.le_of_ble_eq_true rfl) (Nat.le_of_ble_eq_true rfl) ?_
  exact lw_ret G.1 G.2.1 G.2.2.2.1 G.2.2.2.2.1 d_Law_1775
theorem q2528 : Cond.code y_Cw_fewest b_Cw_fewest 3 (some .int) ∈ lw_ok := lw_okmem (List.mem_of_getElem? (i := 2528) (by decide +kernel)) rfl
theorem q2526 : Cond.instanceMethod y_Cw_fewest ∈ lw_ok := lw_okmem (List.mem_of_getElem? (i := 2526) (by decide +kernel)) rfl
theorem q2527 : Cond.selects y_Cw_fewest.cls y_Cw_fewest y_Cw_fewest ∈ lw_ok := lw_okmem (List.mem_of_getElem? (i := 2527) (by decide +kernel)) rfl
theorem w_Cw_fewest : CWv y_Cw_fewest b_Cw_fewest 3 (some .int) 0 ∧ Cond.instanceMethod y_Cw_fewest ∈ lw_ok ∧ Cond.selects y_Cw_fewest.cls y_Cw_fewest y_Cw_fewest ∈ lw_ok := ⟨⟨q2528, q329, by decide +kernel, by decide +kernel, by decide +kernel⟩, q2526, q2527⟩
theorem q2525 : Cond.methodLink "ClassWorksLaw" 177 y_Cw_fewest ∈ lw_ok := lw_okmem (List.mem_of_getElem? (i := 2525) (by decide +kernel)) rfl
theorem q4266 : Cond.code y_Mo_fewest b_Mo_fewest 5 (some .int) ∈ lw_ok := lw_okmem (List.mem_of_getElem? (i := 4266) (by decide +kernel)) rfl
theorem q4264 : Cond.instanceMethod y_Mo_fewest ∈ lw_ok := lw_okmem (List.mem_of_getElem? (i := 4264) (by decide +kernel)) rfl
theorem q4265 : Cond.selects y_Mo_fewest.cls y_Mo_fewest y_Mo_fewest ∈ lw_ok := lw_okmem (List.mem_of_getElem? (i := 4265) (by decide +kernel)) rfl
theorem w_Mo_fewest : CWv y_Mo_fewest b_Mo_fewest 5 (some .int) 0 ∧ Cond.instanceMethod y_Mo_fewest ∈ lw_ok ∧ Cond.selects y_Mo_fewest.cls y_Mo_fewest y_Mo_fewest ∈ lw_ok := ⟨⟨q4266, q348, by decide +kernel, by decide +kernel, by decide +kernel⟩, q4264, q4265⟩
theorem q4263 : Cond.methodLink "ClassWorksLaw" 180 y_Mo_fewest ∈ lw_ok := lw_okmem (List.mem_of_getElem? (i := 4263) (by decide +kernel)) rfl
theorem d_Law_1613 : decode code 1613 = .ok (.aload_n 1, 1) := by decide +kernel
theorem d_Law_1614 : decode code 1614 = .ok (.invokevirtual 177, 3) := by decide +kernel
theorem d_Law_1617 : decode code 1617 = .ok (.aload_n 2, 1) := by decide +kernel
theorem d_Law_1618 : decode code 1618 = .ok (.invokevirtual 180, 3) := by decide +kernel
theorem d_Law_1621 : decode code 1621 = .ok (.if_icmp .eq 147, 3) := by decide +kernel
set_option maxHeartbeats 4000000 in
set_option maxRecDepth 100000 in
theorem law_fewest {p : Program} {e : Env} {s : State} {m : MethodId} {below : List Frame} {meth : Method} {c : Code} {l : Launch} {D : va_G} {g : Nat → ClassId} {sl : List SL} {b : Nat} {xs : Nat → Int32} {A : Nat → Prop} (h0 : Nat) (r_cwords : Nat) (r_creader : Nat) (r_cchecker : Nat) (r_cfinder : Nat) (r_cwriter : Nat) (r_cmachines : Nat) (r_ctape : Nat) (r_cstock : Nat) (r_csizes : Nat) (r_cmet : Nat) (r_cfound : Nat) (r_cdraft : Nat) (r_cfewestFor : Nat) (r_cfewestNext : Nat) (h0X : Nat) (fsX : List Value) (r_ofewestSoX : Nat) (r_ofewestNoneX : Nat) (r_ofewestOneX : Nat) (G : GV l p s m #[Value.ref b] meth c (⟨"ClassWorksLaw", meth.name, ""⟩ : MethodName) code 4 ret g D sl A) (hX : va_X b 6 xs s s.heap) (hbl : b < s.heap.size) (hbA : ¬ A b) (hAA : ∀ q, A q → s.heap.size ≤ q) {H : Heap} {locs : List Loc} {ls : Array Slot} (glenX : fsX.length = 131) (gk0X : fsX[121]? = some (.int (nI 0))) (gk1X : fsX[126]? = some (.ref r_ofewestSoX)) (gk2X : fsX[127]? = some (.ref r_ofewestNoneX)) (gk3X : fsX[128]? = some (.ref r_ofewestOneX)) (hP : va_P D CL [(h0, .inr (11, [.ref r_cwords, .ref r_creader, .ref r_cchecker, .ref r_cfinder, .ref r_cwriter, .ref r_cmachines, .ref r_ctape, .int (nI 0), .int (-2), .int (nI 60000), .ref r_cstock, .ref r_csizes, .ref r_cmet, .ref r_cfound, .int (nI 0), .ref r_cdraft, .int (nI 0), .int (nI 0), .ref r_cfewestFor, .ref r_cfewestNext])), (r_cfewestFor, .inl (g 0, 256, .inl (fun _ => nI 0))), (h0X, .inr (14, fsX)), (r_ofewestSoX, .inl (g 0, 256, .inl (fun _ => nI 0))), (r_ofewestNoneX, .inl (g 0, 256, .inl (fun _ => nI 0))), (r_ofewestOneX, .inl (g 0, 256, .inl (fun _ => nI 0)))] H) (hD : va_D A [(h0, .inr (11, [.ref r_cwords, .ref r_creader, .ref r_cchecker, .ref r_cfinder, .ref r_cwriter, .ref r_cmachines, .ref r_ctape, .int (nI 0), .int (-2), .int (nI 60000), .ref r_cstock, .ref r_csizes, .ref r_cmet, .ref r_cfound, .int (nI 0), .ref r_cdraft, .int (nI 0), .int (nI 0), .ref r_cfewestFor, .ref r_cfewestNext])), (r_cfewestFor, .inl (g 0, 256, .inl (fun _ => nI 0))), (h0X, .inr (14, fsX)), (r_ofewestSoX, .inl (g 0, 256, .inl (fun _ => nI 0))), (r_ofewestNoneX, .inl (g 0, 256, .inl (fun _ => nI 0))), (r_ofewestOneX, .inl (g 0, 256, .inl (fun _ => nI 0)))]) (hS : va_S A s.heap H locs) (hl : lv_has ls 4 [(0, .ref b), (1, .ref h0), (2, .ref h0X), (3, .int (nI 0))]) : W p l e room_1 s m #[Value.ref b] below meth c H locs 702 488194 (lw_Z below #[Value.ref b] s) (F0 m 1613 ls []) := by
  refine lv_aload_n G.1 G.2.1 d_Law_1613 rfl (lv_at hl 1 rfl) ?_
  refine kEi (wr := [(h0X, .inr (14, fsX)), (r_ofewestSoX, .inl (g 0, 256, .inl (fun _ => nI 0))), (r_ofewestNoneX, .inl (g 0, 256, .inl (fun _ => nI 0))), (r_ofewestOneX, .inl (g 0, 256, .inl (fun _ => nI 0)))]) G (kV (As := []) (rest := []) G hP hD hS [0, 1] rfl rfl (c_Cw_fewest l D g h0 r_cwords r_creader r_cchecker r_cfinder r_cwriter r_cmachines r_ctape r_cstock r_csizes r_cmet r_cfound r_cdraft r_cfewestFor r_cfewestNext H.size ) w_Cw_fewest q2525 rfl rfl ⟨Nat.le_of_ble_eq_true rfl, Nat.le_of_ble_eq_true rfl⟩ (fun _ h => absurd h List.not_mem_nil) 0 (ci := 11) rfl rfl rfl hl.1 rfl (Nat.le_of_ble_eq_true rfl) rfl ⟨Nat.le_of_ble_eq_true rfl, (Nat.le_of_ble_eq_true rfl)⟩ d_Law_1614) hP hD hS [0, 1] [2, 3, 4, 5] rfl rfl rfl rfl (fun r_1 u_2 H locs hw hP hD hS hzH => ?_)
  have hw : r_1 = nI 0 := hw
  have hP : va_P D CL [(h0X, .inr (14, fsX)), (r_ofewestSoX, .inl (g 0, 256, .inl (fun _ => nI 0))), (r_ofewestNoneX, .inl (g 0, 256, .inl (fun _ => nI 0))), (r_ofewestOneX, .inl (g 0, 256, .inl (fun _ => nI 0)))] H := hP
  have hD : va_D A [(h0X, .inr (14, fsX)), (r_ofewestSoX, .inl (g 0, 256, .inl (fun _ => nI 0))), (r_ofewestNoneX, .inl (g 0, 256, .inl (fun _ => nI 0))), (r_ofewestOneX, .inl (g 0, 256, .inl (fun _ => nI 0)))] := hD
  subst hw
  refine tpst (w := [.int (nI 0)]) rfl ?_
  refine lv_aload_n G.1 G.2.1 d_Law_1617 rfl (lv_at hl 2 rfl) ?_
  refine kEi (wr := []) G (kV (As := []) (rest := [.int (nI 0)]) G hP hD hS [0, 1, 2, 3] rfl rfl (c_Mo_fewest l D g h0X fsX r_ofewestSoX r_ofewestNoneX r_ofewestOneX H.size glenX gk0X gk1X gk2X gk3X) w_Mo_fewest q4263 rfl rfl ⟨Nat.le_of_ble_eq_true rfl, Nat.le_of_ble_eq_true rfl⟩ (fun _ h => absurd h List.not_mem_nil) 0 (ci := 14) rfl rfl rfl hl.1 rfl (Nat.le_of_ble_eq_true rfl) rfl ⟨Nat.le_of_ble_eq_true rfl, (Nat.le_of_ble_eq_true rfl)⟩ d_Law_1618) hP hD hS [0, 1, 2, 3] [] rfl rfl rfl rfl (fun r_3 u_4 H locs hw hP hD hS hzH => ?_)
  have hw : r_3 = nI 0 := hw
  have hP : va_P D CL [] H := hP
  have hD : va_D A [] := hD
  subst hw
  refine tpst (w := [.int (nI 0), .int (nI 0)]) rfl ?_
  refine lv_icmp_eq (tgt := 1768) G.1 G.2.1 d_Law_1621 (by decide) (fun c1621 => ?_) (fun c1621 => absurd c1621 (by decide))
  refine lv_iinc (v := nI 6) (lv' := [(3, .int (nI 6)), (0, .ref b), (1, .ref h0), (2, .ref h0X)]) G.1 G.2.1 d_Law_1768 hl (k := 3) rfl (show (nI 0) + Int32.ofInt 6 = nI 6 from by decide) (by decide) rfl (fun ls hl => ?_)
  refine lv_goto (tgt := 18) G.1 G.2.1 d_Law_1771 (by decide) ?_
  refine lv_iload_n G.1 G.2.1 d_Law_18 rfl (lv_at hl 0 rfl) ?_
  refine lv_aload_n G.1 G.2.1 d_Law_19 rfl (lv_at hl 1 rfl) ?_
  refine va_slen G.1 G.2.1 hX hbl hbA hS d_Law_20 ?_
  refine tpi (w := nI 6) rfl ?_
  refine lv_bipush (v := nI 6) G.1 G.2.1 d_Law_21 (by decide) ?_
  refine W.eq (g2 := F0 m 23 ls [.int (nI 6), .int (nI 6), .int (nI 6)]) rfl ?_
  refine lv_isub G.1 G.2.1 d_Law_23 ?_
  refine tpi (w := nI 0) (by decide) ?_
  refine lv_icmp_gt (tgt := 1774) G.1 G.2.1 d_Law_24 (by decide) (fun c24 => ?_) (fun c24 => absurd c24 (by decide))
  refine lv_iconst (v := nI 1) G.1 G.2.1 d_Law_1774 (by decide) ?_
  refine va_forget (fun q hq => hAA _ (hS.2.2 q hq)) ?_
  refine W.widen (k := 600002) (n := 7302232) (Nat.le_of_ble_eq_true rfl) (Nat.le_of_ble_eq_true rfl) ?_
  exact lw_ret G.1 G.2.1 G.2.2.2.1 G.2.2.2.2.1 d_Law_1775
theorem q2541 : Cond.code y_Cw_shrink b_Cw_shrink 9 (some .int) ∈ lw_ok := lw_okmem (List.mem_of_getElem? (i := 2541) (by decide +kernel)) rfl
theorem q2539 : Cond.instanceMethod y_Cw_shrink ∈ lw_ok := lw_okmem (List.mem_of_getElem? (i := 2539) (by decide +kernel)) rfl
theorem q2540 : Cond.selects y_Cw_shrink.cls y_Cw_shrink y_Cw_shrink ∈ lw_ok := lw_okmem (List.mem_of_getElem? (i := 2540) (by decide +kernel)) rfl
theorem w_Cw_shrink : CWv y_Cw_shrink b_Cw_shrink 9 (some .int) 2 ∧ Cond.instanceMethod y_Cw_shrink ∈ lw_ok ∧ Cond.selects y_Cw_shrink.cls y_Cw_shrink y_Cw_shrink ∈ lw_ok := ⟨⟨q2541, q329, by decide +kernel, by decide +kernel, by decide +kernel⟩, q2539, q2540⟩
theorem q2538 : Cond.methodLink "ClassWorksLaw" 181 y_Cw_shrink ∈ lw_ok := lw_okmem (List.mem_of_getElem? (i := 2538) (by decide +kernel)) rfl
theorem q4274 : Cond.code y_Mo_shrink b_Mo_shrink 10 (some .int) ∈ lw_ok := lw_okmem (List.mem_of_getElem? (i := 4274) (by decide +kernel)) rfl
theorem q4272 : Cond.instanceMethod y_Mo_shrink ∈ lw_ok := lw_okmem (List.mem_of_getElem? (i := 4272) (by decide +kernel)) rfl
theorem q4273 : Cond.selects y_Mo_shrink.cls y_Mo_shrink y_Mo_shrink ∈ lw_ok := lw_okmem (List.mem_of_getElem? (i := 4273) (by decide +kernel)) rfl
theorem w_Mo_shrink : CWv y_Mo_shrink b_Mo_shrink 10 (some .int) 2 ∧ Cond.instanceMethod y_Mo_shrink ∈ lw_ok ∧ Cond.selects y_Mo_shrink.cls y_Mo_shrink y_Mo_shrink ∈ lw_ok := ⟨⟨q4274, q348, by decide +kernel, by decide +kernel, by decide +kernel⟩, q4272, q4273⟩
theorem q4271 : Cond.methodLink "ClassWorksLaw" 184 y_Mo_shrink ∈ lw_ok := lw_okmem (List.mem_of_getElem? (i := 4271) (by decide +kernel)) rfl
theorem d_Law_1626 : decode code 1626 = .ok (.aload_n 1, 1) := by decide +kernel
theorem d_Law_1627 : decode code 1627 = .ok (.aload_n 0, 1) := by decide +kernel
theorem d_Law_1628 : decode code 1628 = .ok (.iload_n 3, 1) := by decide +kernel
theorem d_Law_1629 : decode code 1629 = .ok (.iconst 1, 1) := by decide +kernel
theorem d_Law_1630 : decode code 1630 = .ok (.iadd, 1) := by decide +kernel
theorem d_Law_1631 : decode code 1631 = .ok (.iaload, 1) := by decide +kernel
theorem d_Law_1632 : decode code 1632 = .ok (.aload_n 0, 1) := by decide +kernel
theorem d_Law_1633 : decode code 1633 = .ok (.iload_n 3, 1) := by decide +kernel
theorem d_Law_1634 : decode code 1634 = .ok (.iconst 2, 1) := by decide +kernel
theorem d_Law_1635 : decode code 1635 = .ok (.iadd, 1) := by decide +kernel
theorem d_Law_1636 : decode code 1636 = .ok (.iaload, 1) := by decide +kernel
theorem d_Law_1637 : decode code 1637 = .ok (.invokevirtual 181, 3) := by decide +kernel
theorem d_Law_1640 : decode code 1640 = .ok (.aload_n 2, 1) := by decide +kernel
theorem d_Law_1641 : decode code 1641 = .ok (.aload_n 0, 1) := by decide +kernel
theorem d_Law_1642 : decode code 1642 = .ok (.iload_n 3, 1) := by decide +kernel
theorem d_Law_1643 : decode code 1643 = .ok (.iconst 1, 1) := by decide +kernel
theorem d_Law_1644 : decode code 1644 = .ok (.iadd, 1) := by decide +kernel
theorem d_Law_1645 : decode code 1645 = .ok (.iaload, 1) := by decide +kernel
theorem d_Law_1646 : decode code 1646 = .ok (.aload_n 0, 1) := by decide +kernel
theorem d_Law_1647 : decode code 1647 = .ok (.iload_n 3, 1) := by decide +kernel
theorem d_Law_1648 : decode code 1648 = .ok (.iconst 2, 1) := by decide +kernel
theorem d_Law_1649 : decode code 1649 = .ok (.iadd, 1) := by decide +kernel
theorem d_Law_1650 : decode code 1650 = .ok (.iaload, 1) := by decide +kernel
theorem d_Law_1651 : decode code 1651 = .ok (.invokevirtual 184, 3) := by decide +kernel
theorem d_Law_1654 : decode code 1654 = .ok (.if_icmp .eq 114, 3) := by decide +kernel
set_option maxHeartbeats 4000000 in
set_option maxRecDepth 100000 in
theorem law_shrink {p : Program} {e : Env} {s : State} {m : MethodId} {below : List Frame} {meth : Method} {c : Code} {l : Launch} {D : va_G} {g : Nat → ClassId} {sl : List SL} {b : Nat} {xs : Nat → Int32} {A : Nat → Prop} (h0 : Nat) (r_cwords : Nat) (r_creader : Nat) (r_cchecker : Nat) (r_cfinder : Nat) (r_cwriter : Nat) (r_cmachines : Nat) (r_ctape : Nat) (r_cstock : Nat) (r_csizes : Nat) (r_cmet : Nat) (r_cfound : Nat) (r_cdraft : Nat) (r_cfewestFor : Nat) (r_cfewestNext : Nat) (h0X : Nat) (fsX : List Value) (G : GV l p s m #[Value.ref b] meth c (⟨"ClassWorksLaw", meth.name, ""⟩ : MethodName) code 4 ret g D sl A) (hX : va_X b 6 xs s s.heap) (hbl : b < s.heap.size) (hbA : ¬ A b) (hAA : ∀ q, A q → s.heap.size ≤ q) {H : Heap} {locs : List Loc} {ls : Array Slot} (glenX : fsX.length = 131) (gk0X : fsX[121]? = some (.int (nI 0))) (hP : va_P D CL [(h0, .inr (11, [.ref r_cwords, .ref r_creader, .ref r_cchecker, .ref r_cfinder, .ref r_cwriter, .ref r_cmachines, .ref r_ctape, .int (nI 0), .int (-2), .int (nI 60000), .ref r_cstock, .ref r_csizes, .ref r_cmet, .ref r_cfound, .int (nI 0), .ref r_cdraft, .int (nI 0), .int (nI 0), .ref r_cfewestFor, .ref r_cfewestNext])), (h0X, .inr (14, fsX))] H) (hD : va_D A [(h0, .inr (11, [.ref r_cwords, .ref r_creader, .ref r_cchecker, .ref r_cfinder, .ref r_cwriter, .ref r_cmachines, .ref r_ctape, .int (nI 0), .int (-2), .int (nI 60000), .ref r_cstock, .ref r_csizes, .ref r_cmet, .ref r_cfound, .int (nI 0), .ref r_cdraft, .int (nI 0), .int (nI 0), .ref r_cfewestFor, .ref r_cfewestNext])), (h0X, .inr (14, fsX))]) (hS : va_S A s.heap H locs) (hl : lv_has ls 4 [(0, .ref b), (1, .ref h0), (2, .ref h0X), (3, .int (nI 0))]) : W p l e room_1 s m #[Value.ref b] below meth c H locs 702 488194 (lw_Z below #[Value.ref b] s) (F0 m 1626 ls []) := by
  refine lv_aload_n G.1 G.2.1 d_Law_1626 rfl (lv_at hl 1 rfl) ?_
  refine lv_aload_n G.1 G.2.1 d_Law_1627 rfl (lv_at hl 0 rfl) ?_
  refine lv_iload_n G.1 G.2.1 d_Law_1628 rfl (lv_at hl 3 rfl) ?_
  refine lv_iconst (v := nI 1) G.1 G.2.1 d_Law_1629 (by decide) ?_
  refine lv_iadd G.1 G.2.1 d_Law_1630 ?_
  refine tpi (w := nI 1) (by decide) ?_
  refine va_sld G.1 G.2.1 hX hbl hbA hS (nI_inn (n := 6) (a := 1) (by decide) (by decide)) d_Law_1631 ?_
  refine tpi (w := (xs 1)) (by rw [nI_clamp (by decide)]) ?_
  refine lv_aload_n G.1 G.2.1 d_Law_1632 rfl (lv_at hl 0 rfl) ?_
  refine lv_iload_n G.1 G.2.1 d_Law_1633 rfl (lv_at hl 3 rfl) ?_
  refine lv_iconst (v := nI 2) G.1 G.2.1 d_Law_1634 (by decide) ?_
  refine lv_iadd G.1 G.2.1 d_Law_1635 ?_
  refine tpi (w := nI 2) (by decide) ?_
  refine va_sld G.1 G.2.1 hX hbl hbA hS (nI_inn (n := 6) (a := 2) (by decide) (by decide)) d_Law_1636 ?_
  refine tpi (w := (xs 2)) (by rw [nI_clamp (by decide)]) ?_
  refine W.eq (g2 := F0 m 1637 ls [.int (xs 2), .int (xs 1), .ref h0]) rfl ?_
  refine kEi (wr := [(h0X, .inr (14, fsX))]) G (kV (As := [.int (xs 1), .int (xs 2)]) (rest := []) G hP hD hS [0] rfl rfl (c_Cw_shrink l D g h0 (xs 1) (xs 2) r_cwords r_creader r_cchecker r_cfinder r_cwriter r_cmachines r_ctape r_cstock r_csizes r_cmet r_cfound r_cdraft r_cfewestFor r_cfewestNext H.size ) w_Cw_shrink q2538 rfl rfl ⟨Nat.le_of_ble_eq_true rfl, Nat.le_of_ble_eq_true rfl⟩ (fun _ h => absurd h List.not_mem_nil) 0 (ci := 11) rfl rfl rfl hl.1 rfl (Nat.le_of_ble_eq_true rfl) rfl ⟨Nat.le_of_ble_eq_true rfl, (Nat.le_of_ble_eq_true rfl)⟩ d_Law_1637) hP hD hS [0] [1] rfl rfl rfl rfl (fun r_1 u_2 H locs hw hP hD hS hzH => ?_)
  have hw : r_1 = (-1) := hw
  have hP : va_P D CL [(h0X, .inr (14, fsX))] H := hP
  have hD : va_D A [(h0X, .inr (14, fsX))] := hD
  subst hw
  refine tpst (w := [.int (-1)]) rfl ?_
  refine lv_aload_n G.1 G.2.1 d_Law_1640 rfl (lv_at hl 2 rfl) ?_
  refine lv_aload_n G.1 G.2.1 d_Law_1641 rfl (lv_at hl 0 rfl) ?_
  refine lv_iload_n G.1 G.2.1 d_Law_1642 rfl (lv_at hl 3 rfl) ?_
  refine lv_iconst (v := nI 1) G.1 G.2.1 d_Law_1643 (by decide) ?_
  refine lv_iadd G.1 G.2.1 d_Law_1644 ?_
  refine tpi (w := nI 1) (by decide) ?_
  refine va_sld G.1 G.2.1 hX hbl hbA hS (nI_inn (n := 6) (a := 1) (by decide) (by decide)) d_Law_1645 ?_
  refine tpi (w := (xs 1)) (by rw [nI_clamp (by decide)]) ?_
  refine lv_aload_n G.1 G.2.1 d_Law_1646 rfl (lv_at hl 0 rfl) ?_
  refine lv_iload_n G.1 G.2.1 d_Law_1647 rfl (lv_at hl 3 rfl) ?_
  refine lv_iconst (v := nI 2) G.1 G.2.1 d_Law_1648 (by decide) ?_
  refine lv_iadd G.1 G.2.1 d_Law_1649 ?_
  refine tpi (w := nI 2) (by decide) ?_
  refine va_sld G.1 G.2.1 hX hbl hbA hS (nI_inn (n := 6) (a := 2) (by decide) (by decide)) d_Law_1650 ?_
  refine tpi (w := (xs 2)) (by rw [nI_clamp (by decide)]) ?_
  refine W.eq (g2 := F0 m 1651 ls [.int (xs 2), .int (xs 1), .ref h0X, .int (-1)]) rfl ?_
  refine kEi (wr := []) G (kV (As := [.int (xs 1), .int (xs 2)]) (rest := [.int (-1)]) G hP hD hS [0] rfl rfl (c_Mo_shrink l D g h0X (xs 1) (xs 2) fsX H.size glenX gk0X) w_Mo_shrink q4271 rfl rfl ⟨Nat.le_of_ble_eq_true rfl, Nat.le_of_ble_eq_true rfl⟩ (fun _ h => absurd h List.not_mem_nil) 0 (ci := 14) rfl rfl rfl hl.1 rfl (Nat.le_of_ble_eq_true rfl) rfl ⟨Nat.le_of_ble_eq_true rfl, (Nat.le_of_ble_eq_true rfl)⟩ d_Law_1651) hP hD hS [0] [] rfl rfl rfl rfl (fun r_3 u_4 H locs hw hP hD hS hzH => ?_)
  have hw : r_3 = (-1) := hw
  have hP : va_P D CL [] H := hP
  have hD : va_D A [] := hD
  subst hw
  refine tpst (w := [.int (-1), .int (-1)]) rfl ?_
  refine lv_icmp_eq (tgt := 1768) G.1 G.2.1 d_Law_1654 (by decide) (fun c1654 => ?_) (fun c1654 => absurd c1654 (fun h => h rfl))
  refine lv_iinc (v := nI 6) (lv' := [(3, .int (nI 6)), (0, .ref b), (1, .ref h0), (2, .ref h0X)]) G.1 G.2.1 d_Law_1768 hl (k := 3) rfl (show (nI 0) + Int32.ofInt 6 = nI 6 from by decide) (by decide) rfl (fun ls hl => ?_)
  refine lv_goto (tgt := 18) G.1 G.2.1 d_Law_1771 (by decide) ?_
  refine lv_iload_n G.1 G.2.1 d_Law_18 rfl (lv_at hl 0 rfl) ?_
  refine lv_aload_n G.1 G.2.1 d_Law_19 rfl (lv_at hl 1 rfl) ?_
  refine va_slen G.1 G.2.1 hX hbl hbA hS d_Law_20 ?_
  refine tpi (w := nI 6) rfl ?_
  refine lv_bipush (v := nI 6) G.1 G.2.1 d_Law_21 (by decide) ?_
  refine lv_isub G.1 G.2.1 d_Law_23 ?_
  refine tpi (w := nI 0) (by decide) ?_
  refine lv_icmp_gt (tgt := 1774) G.1 G.2.1 d_Law_24 (by decide) (fun c24 => ?_) (fun c24 => absurd c24 (by decide))
  refine lv_iconst (v := nI 1) G.1 G.2.1 d_Law_1774 (by decide) ?_
  refine va_forget (fun q hq => hAA _ (hS.2.2 q hq)) ?_
  refine W.widen (k := 600002) (n := 7302232) (Nat.le_of_ble_eq_true rfl) (Nat.le_of_ble_eq_true rfl) ?_
  exact lw_ret G.1 G.2.1 G.2.2.2.1 G.2.2.2.2.1 d_Law_1775
theorem q2557 : Cond.code y_Cw_change b_Cw_change 8 (some .int) ∈ lw_ok := lw_okmem (List.mem_of_getElem? (i := 2557) (by decide +kernel)) rfl
theorem q2555 : Cond.instanceMethod y_Cw_change ∈ lw_ok := lw_okmem (List.mem_of_getElem? (i := 2555) (by decide +kernel)) rfl
theorem q2556 : Cond.selects y_Cw_change.cls y_Cw_change y_Cw_change ∈ lw_ok := lw_okmem (List.mem_of_getElem? (i := 2556) (by decide +kernel)) rfl
theorem w_Cw_change : CWv y_Cw_change b_Cw_change 8 (some .int) 4 ∧ Cond.instanceMethod y_Cw_change ∈ lw_ok ∧ Cond.selects y_Cw_change.cls y_Cw_change y_Cw_change ∈ lw_ok := ⟨⟨q2557, q329, by decide +kernel, by decide +kernel, by decide +kernel⟩, q2555, q2556⟩
theorem q2554 : Cond.methodLink "ClassWorksLaw" 185 y_Cw_change ∈ lw_ok := lw_okmem (List.mem_of_getElem? (i := 2554) (by decide +kernel)) rfl
theorem q4286 : Cond.code y_Mo_change b_Mo_change 10 (some .int) ∈ lw_ok := lw_okmem (List.mem_of_getElem? (i := 4286) (by decide +kernel)) rfl
theorem q4284 : Cond.instanceMethod y_Mo_change ∈ lw_ok := lw_okmem (List.mem_of_getElem? (i := 4284) (by decide +kernel)) rfl
theorem q4285 : Cond.selects y_Mo_change.cls y_Mo_change y_Mo_change ∈ lw_ok := lw_okmem (List.mem_of_getElem? (i := 4285) (by decide +kernel)) rfl
theorem w_Mo_change : CWv y_Mo_change b_Mo_change 10 (some .int) 4 ∧ Cond.instanceMethod y_Mo_change ∈ lw_ok ∧ Cond.selects y_Mo_change.cls y_Mo_change y_Mo_change ∈ lw_ok := ⟨⟨q4286, q348, by decide +kernel, by decide +kernel, by decide +kernel⟩, q4284, q4285⟩
theorem q4283 : Cond.methodLink "ClassWorksLaw" 188 y_Mo_change ∈ lw_ok := lw_okmem (List.mem_of_getElem? (i := 4283) (by decide +kernel)) rfl
theorem d_Law_1659 : decode code 1659 = .ok (.aload_n 1, 1) := by decide +kernel
theorem d_Law_1660 : decode code 1660 = .ok (.aload_n 0, 1) := by decide +kernel
theorem d_Law_1661 : decode code 1661 = .ok (.iload_n 3, 1) := by decide +kernel
theorem d_Law_1662 : decode code 1662 = .ok (.iconst 1, 1) := by decide +kernel
theorem d_Law_1663 : decode code 1663 = .ok (.iadd, 1) := by decide +kernel
theorem d_Law_1664 : decode code 1664 = .ok (.iaload, 1) := by decide +kernel
theorem d_Law_1665 : decode code 1665 = .ok (.aload_n 0, 1) := by decide +kernel
theorem d_Law_1666 : decode code 1666 = .ok (.iload_n 3, 1) := by decide +kernel
theorem d_Law_1667 : decode code 1667 = .ok (.iconst 2, 1) := by decide +kernel
theorem d_Law_1668 : decode code 1668 = .ok (.iadd, 1) := by decide +kernel
theorem d_Law_1669 : decode code 1669 = .ok (.iaload, 1) := by decide +kernel
theorem d_Law_1670 : decode code 1670 = .ok (.aload_n 0, 1) := by decide +kernel
theorem d_Law_1671 : decode code 1671 = .ok (.iload_n 3, 1) := by decide +kernel
theorem d_Law_1672 : decode code 1672 = .ok (.iconst 3, 1) := by decide +kernel
theorem d_Law_1673 : decode code 1673 = .ok (.iadd, 1) := by decide +kernel
theorem d_Law_1674 : decode code 1674 = .ok (.iaload, 1) := by decide +kernel
theorem d_Law_1675 : decode code 1675 = .ok (.aload_n 0, 1) := by decide +kernel
theorem d_Law_1676 : decode code 1676 = .ok (.iload_n 3, 1) := by decide +kernel
theorem d_Law_1677 : decode code 1677 = .ok (.iconst 4, 1) := by decide +kernel
theorem d_Law_1678 : decode code 1678 = .ok (.iadd, 1) := by decide +kernel
theorem d_Law_1679 : decode code 1679 = .ok (.iaload, 1) := by decide +kernel
theorem d_Law_1680 : decode code 1680 = .ok (.invokevirtual 185, 3) := by decide +kernel
theorem d_Law_1683 : decode code 1683 = .ok (.aload_n 2, 1) := by decide +kernel
theorem d_Law_1684 : decode code 1684 = .ok (.aload_n 0, 1) := by decide +kernel
theorem d_Law_1685 : decode code 1685 = .ok (.iload_n 3, 1) := by decide +kernel
theorem d_Law_1686 : decode code 1686 = .ok (.iconst 1, 1) := by decide +kernel
theorem d_Law_1687 : decode code 1687 = .ok (.iadd, 1) := by decide +kernel
theorem d_Law_1688 : decode code 1688 = .ok (.iaload, 1) := by decide +kernel
theorem d_Law_1689 : decode code 1689 = .ok (.aload_n 0, 1) := by decide +kernel
theorem d_Law_1690 : decode code 1690 = .ok (.iload_n 3, 1) := by decide +kernel
theorem d_Law_1691 : decode code 1691 = .ok (.iconst 2, 1) := by decide +kernel
theorem d_Law_1692 : decode code 1692 = .ok (.iadd, 1) := by decide +kernel
theorem d_Law_1693 : decode code 1693 = .ok (.iaload, 1) := by decide +kernel
theorem d_Law_1694 : decode code 1694 = .ok (.aload_n 0, 1) := by decide +kernel
theorem d_Law_1695 : decode code 1695 = .ok (.iload_n 3, 1) := by decide +kernel
theorem d_Law_1696 : decode code 1696 = .ok (.iconst 3, 1) := by decide +kernel
theorem d_Law_1697 : decode code 1697 = .ok (.iadd, 1) := by decide +kernel
theorem d_Law_1698 : decode code 1698 = .ok (.iaload, 1) := by decide +kernel
theorem d_Law_1699 : decode code 1699 = .ok (.aload_n 0, 1) := by decide +kernel
theorem d_Law_1700 : decode code 1700 = .ok (.iload_n 3, 1) := by decide +kernel
theorem d_Law_1701 : decode code 1701 = .ok (.iconst 4, 1) := by decide +kernel
theorem d_Law_1702 : decode code 1702 = .ok (.iadd, 1) := by decide +kernel
theorem d_Law_1703 : decode code 1703 = .ok (.iaload, 1) := by decide +kernel
theorem d_Law_1704 : decode code 1704 = .ok (.invokevirtual 188, 3) := by decide +kernel
theorem d_Law_1707 : decode code 1707 = .ok (.if_icmp .eq 61, 3) := by decide +kernel
set_option maxHeartbeats 4000000 in
set_option maxRecDepth 100000 in
theorem law_change {p : Program} {e : Env} {s : State} {m : MethodId} {below : List Frame} {meth : Method} {c : Code} {l : Launch} {D : va_G} {g : Nat → ClassId} {sl : List SL} {b : Nat} {xs : Nat → Int32} {A : Nat → Prop} (h0 : Nat) (r_cwords : Nat) (r_creader : Nat) (r_cchecker : Nat) (r_cfinder : Nat) (r_cwriter : Nat) (r_cmachines : Nat) (r_ctape : Nat) (r_cstock : Nat) (r_csizes : Nat) (r_cmet : Nat) (r_cfound : Nat) (r_cdraft : Nat) (r_cfewestFor : Nat) (r_cfewestNext : Nat) (h0X : Nat) (fsX : List Value) (G : GV l p s m #[Value.ref b] meth c (⟨"ClassWorksLaw", meth.name, ""⟩ : MethodName) code 4 ret g D sl A) (hX : va_X b 6 xs s s.heap) (hbl : b < s.heap.size) (hbA : ¬ A b) (hAA : ∀ q, A q → s.heap.size ≤ q) {H : Heap} {locs : List Loc} {ls : Array Slot} (glenX : fsX.length = 131) (gk0X : fsX[121]? = some (.int (nI 0))) (hP : va_P D CL [(h0, .inr (11, [.ref r_cwords, .ref r_creader, .ref r_cchecker, .ref r_cfinder, .ref r_cwriter, .ref r_cmachines, .ref r_ctape, .int (nI 0), .int (-2), .int (nI 60000), .ref r_cstock, .ref r_csizes, .ref r_cmet, .ref r_cfound, .int (nI 0), .ref r_cdraft, .int (nI 0), .int (nI 0), .ref r_cfewestFor, .ref r_cfewestNext])), (h0X, .inr (14, fsX))] H) (hD : va_D A [(h0, .inr (11, [.ref r_cwords, .ref r_creader, .ref r_cchecker, .ref r_cfinder, .ref r_cwriter, .ref r_cmachines, .ref r_ctape, .int (nI 0), .int (-2), .int (nI 60000), .ref r_cstock, .ref r_csizes, .ref r_cmet, .ref r_cfound, .int (nI 0), .ref r_cdraft, .int (nI 0), .int (nI 0), .ref r_cfewestFor, .ref r_cfewestNext])), (h0X, .inr (14, fsX))]) (hS : va_S A s.heap H locs) (hl : lv_has ls 4 [(0, .ref b), (1, .ref h0), (2, .ref h0X), (3, .int (nI 0))]) : W p l e room_1 s m #[Value.ref b] below meth c H locs 702 488194 (lw_Z below #[Value.ref b] s) (F0 m 1659 ls []) := by
  refine lv_aload_n G.1 G.2.1 d_Law_1659 rfl (lv_at hl 1 rfl) ?_
  refine lv_aload_n G.1 G.2.1 d_Law_1660 rfl (lv_at hl 0 rfl) ?_
  refine lv_iload_n G.1 G.2.1 d_Law_1661 rfl (lv_at hl 3 rfl) ?_
  refine lv_iconst (v := nI 1) G.1 G.2.1 d_Law_1662 (by decide) ?_
  refine lv_iadd G.1 G.2.1 d_Law_1663 ?_
  refine tpi (w := nI 1) (by decide) ?_
  refine va_sld G.1 G.2.1 hX hbl hbA hS (nI_inn (n := 6) (a := 1) (by decide) (by decide)) d_Law_1664 ?_
  refine tpi (w := (xs 1)) (by rw [nI_clamp (by decide)]) ?_
  refine lv_aload_n G.1 G.2.1 d_Law_1665 rfl (lv_at hl 0 rfl) ?_
  refine lv_iload_n G.1 G.2.1 d_Law_1666 rfl (lv_at hl 3 rfl) ?_
  refine lv_iconst (v := nI 2) G.1 G.2.1 d_Law_1667 (by decide) ?_
  refine lv_iadd G.1 G.2.1 d_Law_1668 ?_
  refine tpi (w := nI 2) (by decide) ?_
  refine va_sld G.1 G.2.1 hX hbl hbA hS (nI_inn (n := 6) (a := 2) (by decide) (by decide)) d_Law_1669 ?_
  refine tpi (w := (xs 2)) (by rw [nI_clamp (by decide)]) ?_
  refine W.eq (g2 := F0 m 1670 ls [.int (xs 2), .int (xs 1), .ref h0]) rfl ?_
  refine lv_aload_n G.1 G.2.1 d_Law_1670 rfl (lv_at hl 0 rfl) ?_
  refine lv_iload_n G.1 G.2.1 d_Law_1671 rfl (lv_at hl 3 rfl) ?_
  refine lv_iconst (v := nI 3) G.1 G.2.1 d_Law_1672 (by decide) ?_
  refine lv_iadd G.1 G.2.1 d_Law_1673 ?_
  refine tpi (w := nI 3) (by decide) ?_
  refine va_sld G.1 G.2.1 hX hbl hbA hS (nI_inn (n := 6) (a := 3) (by decide) (by decide)) d_Law_1674 ?_
  refine tpi (w := (xs 3)) (by rw [nI_clamp (by decide)]) ?_
  refine lv_aload_n G.1 G.2.1 d_Law_1675 rfl (lv_at hl 0 rfl) ?_
  refine lv_iload_n G.1 G.2.1 d_Law_1676 rfl (lv_at hl 3 rfl) ?_
  refine lv_iconst (v := nI 4) G.1 G.2.1 d_Law_1677 (by decide) ?_
  refine lv_iadd G.1 G.2.1 d_Law_1678 ?_
  refine tpi (w := nI 4) (by decide) ?_
  refine va_sld G.1 G.2.1 hX hbl hbA hS (nI_inn (n := 6) (a := 4) (by decide) (by decide)) d_Law_1679 ?_
  refine tpi (w := (xs 4)) (by rw [nI_clamp (by decide)]) ?_
  refine kEi (wr := [(h0X, .inr (14, fsX))]) G (kV (As := [.int (xs 1), .int (xs 2), .int (xs 3), .int (xs 4)]) (rest := []) G hP hD hS [0] rfl rfl (c_Cw_change l D g h0 (xs 1) (xs 2) (xs 3) (xs 4) r_cwords r_creader r_cchecker r_cfinder r_cwriter r_cmachines r_ctape r_cstock r_csizes r_cmet r_cfound r_cdraft r_cfewestFor r_cfewestNext H.size ) w_Cw_change q2554 rfl rfl ⟨Nat.le_of_ble_eq_true rfl, Nat.le_of_ble_eq_true rfl⟩ (fun _ h => absurd h List.not_mem_nil) 0 (ci := 11) rfl rfl rfl hl.1 rfl (Nat.le_of_ble_eq_true rfl) rfl ⟨Nat.le_of_ble_eq_true rfl, (Nat.le_of_ble_eq_true rfl)⟩ d_Law_1680) hP hD hS [0] [1] rfl rfl rfl rfl (fun r_1 u_2 H locs hw hP hD hS hzH => ?_)
  have hw : r_1 = (-1) := hw
  have hP : va_P D CL [(h0X, .inr (14, fsX))] H := hP
  have hD : va_D A [(h0X, .inr (14, fsX))] := hD
  subst hw
  refine tpst (w := [.int (-1)]) rfl ?_
  refine lv_aload_n G.1 G.2.1 d_Law_1683 rfl (lv_at hl 2 rfl) ?_
  refine W.eq (g2 := F0 m 1684 ls [.ref h0X, .int (-1)]) rfl ?_
  refine lv_aload_n G.1 G.2.1 d_Law_1684 rfl (lv_at hl 0 rfl) ?_
  refine lv_iload_n G.1 G.2.1 d_Law_1685 rfl (lv_at hl 3 rfl) ?_
  refine lv_iconst (v := nI 1) G.1 G.2.1 d_Law_1686 (by decide) ?_
  refine lv_iadd G.1 G.2.1 d_Law_1687 ?_
  refine tpi (w := nI 1) (by decide) ?_
  refine va_sld G.1 G.2.1 hX hbl hbA hS (nI_inn (n := 6) (a := 1) (by decide) (by decide)) d_Law_1688 ?_
  refine tpi (w := (xs 1)) (by rw [nI_clamp (by decide)]) ?_
  refine lv_aload_n G.1 G.2.1 d_Law_1689 rfl (lv_at hl 0 rfl) ?_
  refine lv_iload_n G.1 G.2.1 d_Law_1690 rfl (lv_at hl 3 rfl) ?_
  refine lv_iconst (v := nI 2) G.1 G.2.1 d_Law_1691 (by decide) ?_
  refine lv_iadd G.1 G.2.1 d_Law_1692 ?_
  refine tpi (w := nI 2) (by decide) ?_
  refine va_sld G.1 G.2.1 hX hbl hbA hS (nI_inn (n := 6) (a := 2) (by decide) (by decide)) d_Law_1693 ?_
  refine tpi (w := (xs 2)) (by rw [nI_clamp (by decide)]) ?_
  refine lv_aload_n G.1 G.2.1 d_Law_1694 rfl (lv_at hl 0 rfl) ?_
  refine lv_iload_n G.1 G.2.1 d_Law_1695 rfl (lv_at hl 3 rfl) ?_
  refine W.eq (g2 := F0 m 1696 ls [.int (nI 0), .ref b, .int (xs 2), .int (xs 1), .ref h0X, .int (-1)]) rfl ?_
  refine lv_iconst (v := nI 3) G.1 G.2.1 d_Law_1696 (by decide) ?_
  refine lv_iadd G.1 G.2.1 d_Law_1697 ?_
  refine tpi (w := nI 3) (by decide) ?_
  refine va_sld G.1 G.2.1 hX hbl hbA hS (nI_inn (n := 6) (a := 3) (by decide) (by decide)) d_Law_1698 ?_
  refine tpi (w := (xs 3)) (by rw [nI_clamp (by decide)]) ?_
  refine lv_aload_n G.1 G.2.1 d_Law_1699 rfl (lv_at hl 0 rfl) ?_
  refine lv_iload_n G.1 G.2.1 d_Law_1700 rfl (lv_at hl 3 rfl) ?_
  refine lv_iconst (v := nI 4) G.1 G.2.1 d_Law_1701 (by decide) ?_
  refine lv_iadd G.1 G.2.1 d_Law_1702 ?_
  refine tpi (w := nI 4) (by decide) ?_
  refine va_sld G.1 G.2.1 hX hbl hbA hS (nI_inn (n := 6) (a := 4) (by decide) (by decide)) d_Law_1703 ?_
  refine tpi (w := (xs 4)) (by rw [nI_clamp (by decide)]) ?_
  refine kEi (wr := []) G (kV (As := [.int (xs 1), .int (xs 2), .int (xs 3), .int (xs 4)]) (rest := [.int (-1)]) G hP hD hS [0] rfl rfl (c_Mo_change l D g h0X (xs 1) (xs 2) (xs 3) (xs 4) fsX H.size glenX gk0X) w_Mo_change q4283 rfl rfl ⟨Nat.le_of_ble_eq_true rfl, Nat.le_of_ble_eq_true rfl⟩ (fun _ h => absurd h List.not_mem_nil) 0 (ci := 14) rfl rfl rfl hl.1 rfl (Nat.le_of_ble_eq_true rfl) rfl ⟨Nat.le_of_ble_eq_true rfl, (Nat.le_of_ble_eq_true rfl)⟩ d_Law_1704) hP hD hS [0] [] rfl rfl rfl rfl (fun r_3 u_4 H locs hw hP hD hS hzH => ?_)
  have hw : r_3 = (-1) := hw
  have hP : va_P D CL [] H := hP
  have hD : va_D A [] := hD
  subst hw
  refine tpst (w := [.int (-1), .int (-1)]) rfl ?_
  refine lv_icmp_eq (tgt := 1768) G.1 G.2.1 d_Law_1707 (by decide) (fun c1707 => ?_) (fun c1707 => absurd c1707 (fun h => h rfl))
  refine lv_iinc (v := nI 6) (lv' := [(3, .int (nI 6)), (0, .ref b), (1, .ref h0), (2, .ref h0X)]) G.1 G.2.1 d_Law_1768 hl (k := 3) rfl (show (nI 0) + Int32.ofInt 6 = nI 6 from by decide) (by decide) rfl (fun ls hl => ?_)
  refine lv_goto (tgt := 18) G.1 G.2.1 d_Law_1771 (by decide) ?_
  refine W.eq (g2 := F0 m 18 ls []) rfl ?_
  refine lv_iload_n G.1 G.2.1 d_Law_18 rfl (lv_at hl 0 rfl) ?_
  refine lv_aload_n G.1 G.2.1 d_Law_19 rfl (lv_at hl 1 rfl) ?_
  refine va_slen G.1 G.2.1 hX hbl hbA hS d_Law_20 ?_
  refine tpi (w := nI 6) rfl ?_
  refine lv_bipush (v := nI 6) G.1 G.2.1 d_Law_21 (by decide) ?_
  refine lv_isub G.1 G.2.1 d_Law_23 ?_
  refine tpi (w := nI 0) (by decide) ?_
  refine lv_icmp_gt (tgt := 1774) G.1 G.2.1 d_Law_24 (by decide) (fun c24 => ?_) (fun c24 => absurd c24 (by decide))
  refine lv_iconst (v := nI 1) G.1 G.2.1 d_Law_1774 (by decide) ?_
  refine va_forget (fun q hq => hAA _ (hS.2.2 q hq)) ?_
  refine W.widen (k := 600002) (n := 7302232) (Nat.le_of_ble_eq_true rfl) (Nat.le_of_ble_eq_true rfl) ?_
  exact lw_ret G.1 G.2.1 G.2.2.2.1 G.2.2.2.2.1 d_Law_1775
theorem q2565 : Cond.code y_Cw_text b_Cw_text 3 (some .int) ∈ lw_ok := lw_okmem (List.mem_of_getElem? (i := 2565) (by decide +kernel)) rfl
theorem q2563 : Cond.instanceMethod y_Cw_text ∈ lw_ok := lw_okmem (List.mem_of_getElem? (i := 2563) (by decide +kernel)) rfl
theorem q2564 : Cond.selects y_Cw_text.cls y_Cw_text y_Cw_text ∈ lw_ok := lw_okmem (List.mem_of_getElem? (i := 2564) (by decide +kernel)) rfl
theorem w_Cw_text : CWv y_Cw_text b_Cw_text 3 (some .int) 2 ∧ Cond.instanceMethod y_Cw_text ∈ lw_ok ∧ Cond.selects y_Cw_text.cls y_Cw_text y_Cw_text ∈ lw_ok := ⟨⟨q2565, q329, by decide +kernel, by decide +kernel, by decide +kernel⟩, q2563, q2564⟩
theorem q2562 : Cond.methodLink "ClassWorksLaw" 189 y_Cw_text ∈ lw_ok := lw_okmem (List.mem_of_getElem? (i := 2562) (by decide +kernel)) rfl
theorem q4290 : Cond.code y_Mo_text b_Mo_text 3 (some .int) ∈ lw_ok := lw_okmem (List.mem_of_getElem? (i := 4290) (by decide +kernel)) rfl
theorem q4288 : Cond.instanceMethod y_Mo_text ∈ lw_ok := lw_okmem (List.mem_of_getElem? (i := 4288) (by decide +kernel)) rfl
theorem q4289 : Cond.selects y_Mo_text.cls y_Mo_text y_Mo_text ∈ lw_ok := lw_okmem (List.mem_of_getElem? (i := 4289) (by decide +kernel)) rfl
theorem w_Mo_text : CWv y_Mo_text b_Mo_text 3 (some .int) 2 ∧ Cond.instanceMethod y_Mo_text ∈ lw_ok ∧ Cond.selects y_Mo_text.cls y_Mo_text y_Mo_text ∈ lw_ok := ⟨⟨q4290, q348, by decide +kernel, by decide +kernel, by decide +kernel⟩, q4288, q4289⟩
theorem q4287 : Cond.methodLink "ClassWorksLaw" 192 y_Mo_text ∈ lw_ok := lw_okmem (List.mem_of_getElem? (i := 4287) (by decide +kernel)) rfl
theorem d_Law_1712 : decode code 1712 = .ok (.aload_n 1, 1) := by decide +kernel
theorem d_Law_1713 : decode code 1713 = .ok (.aload_n 0, 1) := by decide +kernel
theorem d_Law_1714 : decode code 1714 = .ok (.iload_n 3, 1) := by decide +kernel
theorem d_Law_1715 : decode code 1715 = .ok (.iconst 1, 1) := by decide +kernel
theorem d_Law_1716 : decode code 1716 = .ok (.iadd, 1) := by decide +kernel
theorem d_Law_1717 : decode code 1717 = .ok (.iaload, 1) := by decide +kernel
theorem d_Law_1718 : decode code 1718 = .ok (.aload_n 0, 1) := by decide +kernel
theorem d_Law_1719 : decode code 1719 = .ok (.iload_n 3, 1) := by decide +kernel
theorem d_Law_1720 : decode code 1720 = .ok (.iconst 2, 1) := by decide +kernel
theorem d_Law_1721 : decode code 1721 = .ok (.iadd, 1) := by decide +kernel
theorem d_Law_1722 : decode code 1722 = .ok (.iaload, 1) := by decide +kernel
theorem d_Law_1723 : decode code 1723 = .ok (.invokevirtual 189, 3) := by decide +kernel
theorem d_Law_1726 : decode code 1726 = .ok (.aload_n 2, 1) := by decide +kernel
theorem d_Law_1727 : decode code 1727 = .ok (.aload_n 0, 1) := by decide +kernel
theorem d_Law_1728 : decode code 1728 = .ok (.iload_n 3, 1) := by decide +kernel
theorem d_Law_1729 : decode code 1729 = .ok (.iconst 1, 1) := by decide +kernel
theorem d_Law_1730 : decode code 1730 = .ok (.iadd, 1) := by decide +kernel
theorem d_Law_1731 : decode code 1731 = .ok (.iaload, 1) := by decide +kernel
theorem d_Law_1732 : decode code 1732 = .ok (.aload_n 0, 1) := by decide +kernel
theorem d_Law_1733 : decode code 1733 = .ok (.iload_n 3, 1) := by decide +kernel
theorem d_Law_1734 : decode code 1734 = .ok (.iconst 2, 1) := by decide +kernel
theorem d_Law_1735 : decode code 1735 = .ok (.iadd, 1) := by decide +kernel
theorem d_Law_1736 : decode code 1736 = .ok (.iaload, 1) := by decide +kernel
theorem d_Law_1737 : decode code 1737 = .ok (.invokevirtual 192, 3) := by decide +kernel
theorem d_Law_1740 : decode code 1740 = .ok (.if_icmp .eq 28, 3) := by decide +kernel
set_option maxHeartbeats 4000000 in
set_option maxRecDepth 100000 in
theorem law_text {p : Program} {e : Env} {s : State} {m : MethodId} {below : List Frame} {meth : Method} {c : Code} {l : Launch} {D : va_G} {g : Nat → ClassId} {sl : List SL} {b : Nat} {xs : Nat → Int32} {A : Nat → Prop} (h0 : Nat) (r_cwords : Nat) (r_creader : Nat) (r_cchecker : Nat) (r_cfinder : Nat) (r_cwriter : Nat) (r_cmachines : Nat) (r_ctape : Nat) (r_cstock : Nat) (r_csizes : Nat) (r_cmet : Nat) (r_cfound : Nat) (r_cdraft : Nat) (r_cfewestFor : Nat) (r_cfewestNext : Nat) (h0X : Nat) (fsX : List Value) (G : GV l p s m #[Value.ref b] meth c (⟨"ClassWorksLaw", meth.name, ""⟩ : MethodName) code 4 ret g D sl A) (hX : va_X b 6 xs s s.heap) (hbl : b < s.heap.size) (hbA : ¬ A b) (hAA : ∀ q, A q → s.heap.size ≤ q) {H : Heap} {locs : List Loc} {ls : Array Slot} (glenX : fsX.length = 131) (gk0X : fsX[121]? = some (.int (nI 0))) (hP : va_P D CL [(h0, .inr (11, [.ref r_cwords, .ref r_creader, .ref r_cchecker, .ref r_cfinder, .ref r_cwriter, .ref r_cmachines, .ref r_ctape, .int (nI 0), .int (-2), .int (nI 60000), .ref r_cstock, .ref r_csizes, .ref r_cmet, .ref r_cfound, .int (nI 0), .ref r_cdraft, .int (nI 0), .int (nI 0), .ref r_cfewestFor, .ref r_cfewestNext])), (h0X, .inr (14, fsX))] H) (hD : va_D A [(h0, .inr (11, [.ref r_cwords, .ref r_creader, .ref r_cchecker, .ref r_cfinder, .ref r_cwriter, .ref r_cmachines, .ref r_ctape, .int (nI 0), .int (-2), .int (nI 60000), .ref r_cstock, .ref r_csizes, .ref r_cmet, .ref r_cfound, .int (nI 0), .ref r_cdraft, .int (nI 0), .int (nI 0), .ref r_cfewestFor, .ref r_cfewestNext])), (h0X, .inr (14, fsX))]) (hS : va_S A s.heap H locs) (hl : lv_has ls 4 [(0, .ref b), (1, .ref h0), (2, .ref h0X), (3, .int (nI 0))]) : W p l e room_1 s m #[Value.ref b] below meth c H locs 702 488194 (lw_Z below #[Value.ref b] s) (F0 m 1712 ls []) := by
  refine lv_aload_n G.1 G.2.1 d_Law_1712 rfl (lv_at hl 1 rfl) ?_
  refine lv_aload_n G.1 G.2.1 d_Law_1713 rfl (lv_at hl 0 rfl) ?_
  refine lv_iload_n G.1 G.2.1 d_Law_1714 rfl (lv_at hl 3 rfl) ?_
  refine lv_iconst (v := nI 1) G.1 G.2.1 d_Law_1715 (by decide) ?_
  refine lv_iadd G.1 G.2.1 d_Law_1716 ?_
  refine tpi (w := nI 1) (by decide) ?_
  refine va_sld G.1 G.2.1 hX hbl hbA hS (nI_inn (n := 6) (a := 1) (by decide) (by decide)) d_Law_1717 ?_
  refine tpi (w := (xs 1)) (by rw [nI_clamp (by decide)]) ?_
  refine lv_aload_n G.1 G.2.1 d_Law_1718 rfl (lv_at hl 0 rfl) ?_
  refine lv_iload_n G.1 G.2.1 d_Law_1719 rfl (lv_at hl 3 rfl) ?_
  refine lv_iconst (v := nI 2) G.1 G.2.1 d_Law_1720 (by decide) ?_
  refine lv_iadd G.1 G.2.1 d_Law_1721 ?_
  refine tpi (w := nI 2) (by decide) ?_
  refine va_sld G.1 G.2.1 hX hbl hbA hS (nI_inn (n := 6) (a := 2) (by decide) (by decide)) d_Law_1722 ?_
  refine tpi (w := (xs 2)) (by rw [nI_clamp (by decide)]) ?_
  refine W.eq (g2 := F0 m 1723 ls [.int (xs 2), .int (xs 1), .ref h0]) rfl ?_
  refine kEi (wr := [(h0X, .inr (14, fsX))]) G (kV (As := [.int (xs 1), .int (xs 2)]) (rest := []) G hP hD hS [0] rfl rfl (c_Cw_text l D g h0 (xs 1) (xs 2) r_cwords r_creader r_cchecker r_cfinder r_cwriter r_cmachines r_ctape r_cstock r_csizes r_cmet r_cfound r_cdraft r_cfewestFor r_cfewestNext H.size ) w_Cw_text q2562 rfl rfl ⟨Nat.le_of_ble_eq_true rfl, Nat.le_of_ble_eq_true rfl⟩ (fun _ h => absurd h List.not_mem_nil) 0 (ci := 11) rfl rfl rfl hl.1 rfl (Nat.le_of_ble_eq_true rfl) rfl ⟨Nat.le_of_ble_eq_true rfl, (Nat.le_of_ble_eq_true rfl)⟩ d_Law_1723) hP hD hS [0] [1] rfl rfl rfl rfl (fun r_1 u_2 H locs hw hP hD hS hzH => ?_)
  have hw : r_1 = (-1) := hw
  have hP : va_P D CL [(h0X, .inr (14, fsX))] H := hP
  have hD : va_D A [(h0X, .inr (14, fsX))] := hD
  subst hw
  refine tpst (w := [.int (-1)]) rfl ?_
  refine lv_aload_n G.1 G.2.1 d_Law_1726 rfl (lv_at hl 2 rfl) ?_
  refine lv_aload_n G.1 G.2.1 d_Law_1727 rfl (lv_at hl 0 rfl) ?_
  refine lv_iload_n G.1 G.2.1 d_Law_1728 rfl (lv_at hl 3 rfl) ?_
  refine lv_iconst (v := nI 1) G.1 G.2.1 d_Law_1729 (by decide) ?_
  refine lv_iadd G.1 G.2.1 d_Law_1730 ?_
  refine tpi (w := nI 1) (by decide) ?_
  refine va_sld G.1 G.2.1 hX hbl hbA hS (nI_inn (n := 6) (a := 1) (by decide) (by decide)) d_Law_1731 ?_
  refine tpi (w := (xs 1)) (by rw [nI_clamp (by decide)]) ?_
  refine lv_aload_n G.1 G.2.1 d_Law_1732 rfl (lv_at hl 0 rfl) ?_
  refine lv_iload_n G.1 G.2.1 d_Law_1733 rfl (lv_at hl 3 rfl) ?_
  refine lv_iconst (v := nI 2) G.1 G.2.1 d_Law_1734 (by decide) ?_
  refine lv_iadd G.1 G.2.1 d_Law_1735 ?_
  refine tpi (w := nI 2) (by decide) ?_
  refine va_sld G.1 G.2.1 hX hbl hbA hS (nI_inn (n := 6) (a := 2) (by decide) (by decide)) d_Law_1736 ?_
  refine tpi (w := (xs 2)) (by rw [nI_clamp (by decide)]) ?_
  refine W.eq (g2 := F0 m 1737 ls [.int (xs 2), .int (xs 1), .ref h0X, .int (-1)]) rfl ?_
  refine kEi (wr := []) G (kV (As := [.int (xs 1), .int (xs 2)]) (rest := [.int (-1)]) G hP hD hS [0] rfl rfl (c_Mo_text l D g h0X (xs 1) (xs 2) fsX H.size glenX gk0X) w_Mo_text q4287 rfl rfl ⟨Nat.le_of_ble_eq_true rfl, Nat.le_of_ble_eq_true rfl⟩ (fun _ h => absurd h List.not_mem_nil) 0 (ci := 14) rfl rfl rfl hl.1 rfl (Nat.le_of_ble_eq_true rfl) rfl ⟨Nat.le_of_ble_eq_true rfl, (Nat.le_of_ble_eq_true rfl)⟩ d_Law_1737) hP hD hS [0] [] rfl rfl rfl rfl (fun r_3 u_4 H locs hw hP hD hS hzH => ?_)
  have hw : r_3 = (-1) := hw
  have hP : va_P D CL [] H := hP
  have hD : va_D A [] := hD
  subst hw
  refine tpst (w := [.int (-1), .int (-1)]) rfl ?_
  refine lv_icmp_eq (tgt := 1768) G.1 G.2.1 d_Law_1740 (by decide) (fun c1740 => ?_) (fun c1740 => absurd c1740 (fun h => h rfl))
  refine lv_iinc (v := nI 6) (lv' := [(3, .int (nI 6)), (0, .ref b), (1, .ref h0), (2, .ref h0X)]) G.1 G.2.1 d_Law_1768 hl (k := 3) rfl (show (nI 0) + Int32.ofInt 6 = nI 6 from by decide) (by decide) rfl (fun ls hl => ?_)
  refine lv_goto (tgt := 18) G.1 G.2.1 d_Law_1771 (by decide) ?_
  refine lv_iload_n G.1 G.2.1 d_Law_18 rfl (lv_at hl 0 rfl) ?_
  refine lv_aload_n G.1 G.2.1 d_Law_19 rfl (lv_at hl 1 rfl) ?_
  refine va_slen G.1 G.2.1 hX hbl hbA hS d_Law_20 ?_
  refine tpi (w := nI 6) rfl ?_
  refine lv_bipush (v := nI 6) G.1 G.2.1 d_Law_21 (by decide) ?_
  refine lv_isub G.1 G.2.1 d_Law_23 ?_
  refine tpi (w := nI 0) (by decide) ?_
  refine lv_icmp_gt (tgt := 1774) G.1 G.2.1 d_Law_24 (by decide) (fun c24 => ?_) (fun c24 => absurd c24 (by decide))
  refine lv_iconst (v := nI 1) G.1 G.2.1 d_Law_1774 (by decide) ?_
  refine va_forget (fun q hq => hAA _ (hS.2.2 q hq)) ?_
  refine W.widen (k := 600002) (n := 7302232) (Nat.le_of_ble_eq_true rfl) (Nat.le_of_ble_eq_true rfl) ?_
  exact lw_ret G.1 G.2.1 G.2.2.2.1 G.2.2.2.2.1 d_Law_1775
theorem q2569 : Cond.code y_Cw_count b_Cw_count 2 (some .int) ∈ lw_ok := lw_okmem (List.mem_of_getElem? (i := 2569) (by decide +kernel)) rfl
theorem q2567 : Cond.instanceMethod y_Cw_count ∈ lw_ok := lw_okmem (List.mem_of_getElem? (i := 2567) (by decide +kernel)) rfl
theorem q2568 : Cond.selects y_Cw_count.cls y_Cw_count y_Cw_count ∈ lw_ok := lw_okmem (List.mem_of_getElem? (i := 2568) (by decide +kernel)) rfl
theorem w_Cw_count : CWv y_Cw_count b_Cw_count 2 (some .int) 1 ∧ Cond.instanceMethod y_Cw_count ∈ lw_ok ∧ Cond.selects y_Cw_count.cls y_Cw_count y_Cw_count ∈ lw_ok := ⟨⟨q2569, q329, by decide +kernel, by decide +kernel, by decide +kernel⟩, q2567, q2568⟩
theorem q2566 : Cond.methodLink "ClassWorksLaw" 193 y_Cw_count ∈ lw_ok := lw_okmem (List.mem_of_getElem? (i := 2566) (by decide +kernel)) rfl
theorem q4294 : Cond.code y_Mo_count b_Mo_count 2 (some .int) ∈ lw_ok := lw_okmem (List.mem_of_getElem? (i := 4294) (by decide +kernel)) rfl
theorem q4292 : Cond.instanceMethod y_Mo_count ∈ lw_ok := lw_okmem (List.mem_of_getElem? (i := 4292) (by decide +kernel)) rfl
theorem q4293 : Cond.selects y_Mo_count.cls y_Mo_count y_Mo_count ∈ lw_ok := lw_okmem (List.mem_of_getElem? (i := 4293) (by decide +kernel)) rfl
theorem w_Mo_count : CWv y_Mo_count b_Mo_count 2 (some .int) 1 ∧ Cond.instanceMethod y_Mo_count ∈ lw_ok ∧ Cond.selects y_Mo_count.cls y_Mo_count y_Mo_count ∈ lw_ok := ⟨⟨q4294, q348, by decide +kernel, by decide +kernel, by decide +kernel⟩, q4292, q4293⟩
theorem q4291 : Cond.methodLink "ClassWorksLaw" 196 y_Mo_count ∈ lw_ok := lw_okmem (List.mem_of_getElem? (i := 4291) (by decide +kernel)) rfl
theorem d_Law_1745 : decode code 1745 = .ok (.aload_n 1, 1) := by decide +kernel
theorem d_Law_1746 : decode code 1746 = .ok (.aload_n 0, 1) := by decide +kernel
theorem d_Law_1747 : decode code 1747 = .ok (.iload_n 3, 1) := by decide +kernel
theorem d_Law_1748 : decode code 1748 = .ok (.iconst 1, 1) := by decide +kernel
theorem d_Law_1749 : decode code 1749 = .ok (.iadd, 1) := by decide +kernel
theorem d_Law_1750 : decode code 1750 = .ok (.iaload, 1) := by decide +kernel
theorem d_Law_1751 : decode code 1751 = .ok (.invokevirtual 193, 3) := by decide +kernel
theorem d_Law_1754 : decode code 1754 = .ok (.aload_n 2, 1) := by decide +kernel
theorem d_Law_1755 : decode code 1755 = .ok (.aload_n 0, 1) := by decide +kernel
theorem d_Law_1756 : decode code 1756 = .ok (.iload_n 3, 1) := by decide +kernel
theorem d_Law_1757 : decode code 1757 = .ok (.iconst 1, 1) := by decide +kernel
theorem d_Law_1758 : decode code 1758 = .ok (.iadd, 1) := by decide +kernel
theorem d_Law_1759 : decode code 1759 = .ok (.iaload, 1) := by decide +kernel
theorem d_Law_1760 : decode code 1760 = .ok (.invokevirtual 196, 3) := by decide +kernel
theorem d_Law_1763 : decode code 1763 = .ok (.if_icmp .eq 5, 3) := by decide +kernel
set_option maxHeartbeats 4000000 in
set_option maxRecDepth 100000 in
theorem law_count {p : Program} {e : Env} {s : State} {m : MethodId} {below : List Frame} {meth : Method} {c : Code} {l : Launch} {D : va_G} {g : Nat → ClassId} {sl : List SL} {b : Nat} {xs : Nat → Int32} {A : Nat → Prop} (h0 : Nat) (r_cwords : Nat) (r_creader : Nat) (r_cchecker : Nat) (r_cfinder : Nat) (r_cwriter : Nat) (r_cmachines : Nat) (r_ctape : Nat) (r_cstock : Nat) (r_csizes : Nat) (r_cmet : Nat) (r_cfound : Nat) (r_cdraft : Nat) (r_cfewestFor : Nat) (r_cfewestNext : Nat) (h0X : Nat) (fsX : List Value) (G : GV l p s m #[Value.ref b] meth c (⟨"ClassWorksLaw", meth.name, ""⟩ : MethodName) code 4 ret g D sl A) (hX : va_X b 6 xs s s.heap) (hbl : b < s.heap.size) (hbA : ¬ A b) (hAA : ∀ q, A q → s.heap.size ≤ q) {H : Heap} {locs : List Loc} {ls : Array Slot} (glenX : fsX.length = 131) (gk0X : fsX[121]? = some (.int (nI 0))) (gk1X : fsX[93]? = some (.int (nI 0))) (gk2X : fsX[85]? = some (.int (nI 0))) (hP : va_P D CL [(h0, .inr (11, [.ref r_cwords, .ref r_creader, .ref r_cchecker, .ref r_cfinder, .ref r_cwriter, .ref r_cmachines, .ref r_ctape, .int (nI 0), .int (-2), .int (nI 60000), .ref r_cstock, .ref r_csizes, .ref r_cmet, .ref r_cfound, .int (nI 0), .ref r_cdraft, .int (nI 0), .int (nI 0), .ref r_cfewestFor, .ref r_cfewestNext])), (h0X, .inr (14, fsX))] H) (hD : va_D A [(h0, .inr (11, [.ref r_cwords, .ref r_creader, .ref r_cchecker, .ref r_cfinder, .ref r_cwriter, .ref r_cmachines, .ref r_ctape, .int (nI 0), .int (-2), .int (nI 60000), .ref r_cstock, .ref r_csizes, .ref r_cmet, .ref r_cfound, .int (nI 0), .ref r_cdraft, .int (nI 0), .int (nI 0), .ref r_cfewestFor, .ref r_cfewestNext])), (h0X, .inr (14, fsX))]) (hS : va_S A s.heap H locs) (hl : lv_has ls 4 [(0, .ref b), (1, .ref h0), (2, .ref h0X), (3, .int (nI 0))]) : W p l e room_1 s m #[Value.ref b] below meth c H locs 702 488194 (lw_Z below #[Value.ref b] s) (F0 m 1745 ls []) := by
  refine lv_aload_n G.1 G.2.1 d_Law_1745 rfl (lv_at hl 1 rfl) ?_
  refine lv_aload_n G.1 G.2.1 d_Law_1746 rfl (lv_at hl 0 rfl) ?_
  refine lv_iload_n G.1 G.2.1 d_Law_1747 rfl (lv_at hl 3 rfl) ?_
  refine lv_iconst (v := nI 1) G.1 G.2.1 d_Law_1748 (by decide) ?_
  refine lv_iadd G.1 G.2.1 d_Law_1749 ?_
  refine tpi (w := nI 1) (by decide) ?_
  refine va_sld G.1 G.2.1 hX hbl hbA hS (nI_inn (n := 6) (a := 1) (by decide) (by decide)) d_Law_1750 ?_
  refine tpi (w := (xs 1)) (by rw [nI_clamp (by decide)]) ?_
  refine kEi (wr := [(h0X, .inr (14, fsX))]) G (kV (As := [.int (xs 1)]) (rest := []) G hP hD hS [0] rfl rfl (c_Cw_count l D g h0 (xs 1) r_cwords r_creader r_cchecker r_cfinder r_cwriter r_cmachines r_ctape r_cstock r_csizes r_cmet r_cfound r_cdraft r_cfewestFor r_cfewestNext H.size ) w_Cw_count q2566 rfl rfl ⟨Nat.le_of_ble_eq_true rfl, Nat.le_of_ble_eq_true rfl⟩ (fun _ h => absurd h List.not_mem_nil) 0 (ci := 11) rfl rfl rfl hl.1 rfl (Nat.le_of_ble_eq_true rfl) rfl ⟨Nat.le_of_ble_eq_true rfl, (Nat.le_of_ble_eq_true rfl)⟩ d_Law_1751) hP hD hS [0] [1] rfl rfl rfl rfl (fun r_1 u_2 H locs hw hP hD hS hzH => ?_)
  have hw : r_1 = cntF ((xs 1)) := hw
  have hP : va_P D CL [(h0X, .inr (14, fsX))] H := hP
  have hD : va_D A [(h0X, .inr (14, fsX))] := hD
  subst hw
  refine tpst (w := [.int (cntF ((xs 1)))]) rfl ?_
  refine lv_aload_n G.1 G.2.1 d_Law_1754 rfl (lv_at hl 2 rfl) ?_
  refine lv_aload_n G.1 G.2.1 d_Law_1755 rfl (lv_at hl 0 rfl) ?_
  refine lv_iload_n G.1 G.2.1 d_Law_1756 rfl (lv_at hl 3 rfl) ?_
  refine lv_iconst (v := nI 1) G.1 G.2.1 d_Law_1757 (by decide) ?_
  refine W.eq (g2 := F0 m 1758 ls [.int (nI 1), .int (nI 0), .ref b, .ref h0X, .int (cntF ((xs 1)))]) rfl ?_
  refine lv_iadd G.1 G.2.1 d_Law_1758 ?_
  refine tpi (w := nI 1) (by decide) ?_
  refine va_sld G.1 G.2.1 hX hbl hbA hS (nI_inn (n := 6) (a := 1) (by decide) (by decide)) d_Law_1759 ?_
  refine tpi (w := (xs 1)) (by rw [nI_clamp (by decide)]) ?_
  refine kEi (wr := []) G (kV (As := [.int (xs 1)]) (rest := [.int (cntF ((xs 1)))]) G hP hD hS [0] rfl rfl (c_Mo_count l D g h0X (xs 1) fsX H.size glenX gk0X gk1X gk2X) w_Mo_count q4291 rfl rfl ⟨Nat.le_of_ble_eq_true rfl, Nat.le_of_ble_eq_true rfl⟩ (fun _ h => absurd h List.not_mem_nil) 0 (ci := 14) rfl rfl rfl hl.1 rfl (Nat.le_of_ble_eq_true rfl) rfl ⟨Nat.le_of_ble_eq_true rfl, (Nat.le_of_ble_eq_true rfl)⟩ d_Law_1760) hP hD hS [0] [] rfl rfl rfl rfl (fun r_3 u_4 H locs hw hP hD hS hzH => ?_)
  have hw : r_3 = cntF ((xs 1)) := hw
  have hP : va_P D CL [] H := hP
  have hD : va_D A [] := hD
  subst hw
  refine tpst (w := [.int (cntF ((xs 1))), .int (cntF ((xs 1)))]) rfl ?_
  refine lv_icmp_eq (tgt := 1768) G.1 G.2.1 d_Law_1763 (by decide) (fun c1763 => ?_) (fun c1763 => absurd c1763 (fun h => h rfl))
  refine lv_iinc (v := nI 6) (lv' := [(3, .int (nI 6)), (0, .ref b), (1, .ref h0), (2, .ref h0X)]) G.1 G.2.1 d_Law_1768 hl (k := 3) rfl (show (nI 0) + Int32.ofInt 6 = nI 6 from by decide) (by decide) rfl (fun ls hl => ?_)
  refine lv_goto (tgt := 18) G.1 G.2.1 d_Law_1771 (by decide) ?_
  refine lv_iload_n G.1 G.2.1 d_Law_18 rfl (lv_at hl 0 rfl) ?_
  refine lv_aload_n G.1 G.2.1 d_Law_19 rfl (lv_at hl 1 rfl) ?_
  refine va_slen G.1 G.2.1 hX hbl hbA hS d_Law_20 ?_
  refine tpi (w := nI 6) rfl ?_
  refine lv_bipush (v := nI 6) G.1 G.2.1 d_Law_21 (by decide) ?_
  refine lv_isub G.1 G.2.1 d_Law_23 ?_
  refine tpi (w := nI 0) (by decide) ?_
  refine lv_icmp_gt (tgt := 1774) G.1 G.2.1 d_Law_24 (by decide) (fun c24 => ?_) (fun c24 => absurd c24 (by decide))
  refine W.eq (g2 := F0 m 1774 ls []) rfl ?_
  refine lv_iconst (v := nI 1) G.1 G.2.1 d_Law_1774 (by decide) ?_
  refine va_forget (fun q hq => hAA _ (hS.2.2 q hq)) ?_
  refine W.widen (k := 600002) (n := 7302232) (Nat.le_of_ble_eq_true rfl) (Nat.le_of_ble_eq_true rfl) ?_
  exact lw_ret G.1 G.2.1 G.2.2.2.1 G.2.2.2.2.1 d_Law_1775
