def lw_flat : List Cond := flatC (Jvm.Cond.and given_1 narrow_1)
theorem arr_of {s : State} {args : Array Value} {ty : FieldType} (h : (Cond.arrayClass ty).before args s = true) (hp : ∀ C, ty ≠ .object C) : ∃ cA : ClassId, ArrOfT s cA ty ∧ va_RA s cA ty := by
  obtain ⟨c, k, comp, h1, h2, h3⟩ := Cond.arrayClass_spec h
  refine ⟨c, fun n z => ⟨fun k h => (by cases h), k, h2, comp, h3⟩, ?_⟩
  cases ty with
  | object C => exact absurd rfl (hp C)
  | _ => exact h1
theorem arrq_of {s : State} {args : Array Value} {C : String} (h : (Cond.arrayOver (.object C)).before args s = true) : ∃ cA : ClassId, ArrOfT s cA (.object C) ∧ va_RA s cA (.object C) := by
  obtain ⟨comp, c, k, h1, -, h2, h3, h4⟩ := Cond.arrayOver_spec h
  exact ⟨c, fun n z => ⟨fun k h => (by cases h), k, h2, comp, h3⟩, k, comp, h2, h3, h1, h4⟩
theorem strx {s : State} {args : Array Value} (hs : ∀ w ∈ lw_flat, w.before args s = true) {A : Nat → Prop} (hA : ∀ a : Nat, a < s.heap.size → ¬ A a) (own : String) (k : Nat) (tx : String) (byt : List Int32) (i0 : Nat) (href : (Cond.stringRef own k tx).before args s = true) (hlen : byt.length < 2 ^ 31)
    (h0 : lw_flat[i0]? = some (.exactly (.string own k) "java/lang/String")) (h1 : lw_flat[i0 + 1]? = some (.eq (.field (.string own k) "java/lang/String" "coder" "B") (.int 0))) (h2 : lw_flat[i0 + 2]? = some (.arrayOf (.field (.string own k) "java/lang/String" "value" "[B") .byte)) (h3 : lw_flat[i0 + 3]? = some (.eq (.length (.field (.string own k) "java/lang/String" "value" "[B")) (.int (Int32.ofNat byt.length))))
    (h4 : (lw_flat.drop (i0 + 4)).take byt.length = (List.range byt.length).map (fun j => Cond.eq (.elem (.field (.string own k) "java/lang/String" "value" "[B") (.int (Int32.ofNat j))) (.int (byt.getD j 0)))) :
    ∃ ka va : Nat, S1 (own, k, tx, ka, va, byt) A s s.heap := by
  have g0 := hs _ (List.mem_of_getElem? h0)
  have g1 := hs _ (List.mem_of_getElem? h1)
  have g2 := hs _ (List.mem_of_getElem? h2)
  have g3 := hs _ (List.mem_of_getElem? h3)
  have g4 : ∀ j : Nat, j < byt.length → (Cond.eq (.elem (.field (.string own k) "java/lang/String" "value" "[B") (.int (Int32.ofNat j))) (.int (byt.getD j 0))).before args s = true := by
    intro j hj
    have e : Cond.eq (.elem (.field (.string own k) "java/lang/String" "value" "[B") (.int (Int32.ofNat j))) (.int (byt.getD j 0)) ∈ (lw_flat.drop (i0 + 4)).take byt.length := by
      rw [h4]; exact List.mem_map.mpr ⟨j, List.mem_range.mpr hj, rfl⟩
    exact hs _ (List.mem_of_mem_drop (List.mem_of_mem_take e))
  obtain ⟨adK, adV, hS, hev⟩ := vk_Sof (N := 1) (tm := fun _ => .string own k) (len := [byt.length]) (byt := [byt]) (A := A) (s := s) (args := args)
    (fun i hi => by rw [show i = 0 by omega]; exact hlen) (fun i hi => g0) (fun i hi => g1) (fun i hi => g2) (fun i hi => by rw [show i = 0 by omega]; exact g3)
    (fun i hi => by rw [show i = 0 by omega]; exact g4) (fun i j hi hj hij => absurd (by omega) hij) hA
  obtain ⟨q1, q2, q3, q4⟩ := hS.1 0 (by decide)
  exact ⟨adK 0, adV 0, vk_R.of href (hev 0 (by decide)), q1, q2, q3, q4⟩

set_option maxRecDepth 100000 in
set_option maxHeartbeats 4000000 in
theorem lw_know {s : State} {args : Array Value} (hts : ∀ w ∈ lw_tbl, w.before args s = true) : ∃ (D : va_G) (g : Nat → ClassId), va_K D CL (TY g) s := by
  have ht : ∀ w ∈ lw_ok, w.before args s = true := fun w hw => hts w (lw_oksub hw)
  obtain ⟨d0, e0, k0⟩ := u_known (C := RCk) (T := TCk) (N := 22) (n := 22) ht iCk (hts (Cond.instantiable "ClassWorks$Checker" 22) (List.mem_of_getElem? (i := 643) (by decide +kernel)))
  obtain ⟨d1, e1, k1⟩ := u_known (C := RFi) (T := TFi) (N := 10) (n := 10) ht iFi (hts (Cond.instantiable "ClassWorks$Finder" 10) (List.mem_of_getElem? (i := 719) (by decide +kernel)))
  obtain ⟨d2, e2, k2⟩ := u_known (C := RHp) (T := THp) (N := 15) (n := 15) ht iHp (hts (Cond.instantiable "ClassWorks$Heap" 15) (List.mem_of_getElem? (i := 905) (by decide +kernel)))
  obtain ⟨d3, e3, k3⟩ := u_known (C := RIn) (T := TIn) (N := 2) (n := 2) ht iIn (hts (Cond.instantiable "ClassWorks$Ints" 2) (List.mem_of_getElem? (i := 374) (by decide +kernel)))
  obtain ⟨d4, e4, k4⟩ := u_known (C := RMa) (T := TMa) (N := 19) (n := 19) ht iMa (hts (Cond.instantiable "ClassWorks$Machine" 19) (List.mem_of_getElem? (i := 794) (by decide +kernel)))
  obtain ⟨d5, e5, k5⟩ := u_known (C := RNa) (T := TNa) (N := 11) (n := 11) ht iNa (hts (Cond.instantiable "ClassWorks$Names" 11) (List.mem_of_getElem? (i := 368) (by decide +kernel)))
  obtain ⟨d6, e6, k6⟩ := u_known (C := RRe) (T := TRe) (N := 18) (n := 18) ht iRe (hts (Cond.instantiable "ClassWorks$Reader" 18) (List.mem_of_getElem? (i := 578) (by decide +kernel)))
  obtain ⟨d7, e7, k7⟩ := u_known (C := RRu) (T := TRu) (N := 19) (n := 19) ht iRu (hts (Cond.instantiable "ClassWorks$Runner" 19) (List.mem_of_getElem? (i := 969) (by decide +kernel)))
  obtain ⟨d8, e8, k8⟩ := u_known (C := RWo) (T := TWo) (N := 8) (n := 8) ht iWo (hts (Cond.instantiable "ClassWorks$Words" 8) (List.mem_of_getElem? (i := 542) (by decide +kernel)))
  obtain ⟨d9, e9, k9⟩ := u_known (C := RWd) (T := TWd) (N := 17) (n := 17) ht iWd (hts (Cond.instantiable "ClassWorks$World" 17) (List.mem_of_getElem? (i := 796) (by decide +kernel)))
  obtain ⟨d10, e10, k10⟩ := u_known (C := RWr) (T := TWr) (N := 7) (n := 7) ht iWr (hts (Cond.instantiable "ClassWorks$Writer" 7) (List.mem_of_getElem? (i := 764) (by decide +kernel)))
  obtain ⟨d11, e11, k11⟩ := u_known (C := RCw) (T := TCw) (N := 20) (n := 20) ht iCw (hts (Cond.instantiable "ClassWorks" 20) (List.mem_of_getElem? (i := 356) (by decide +kernel)))
  obtain ⟨d12, e12, k12⟩ := u_known (C := RMr) (T := TMr) (N := 23) (n := 23) ht iMr (hts (Cond.instantiable "ClassWorksModel$Run" 23) (List.mem_of_getElem? (i := 2982) (by decide +kernel)))
  obtain ⟨d13, e13, k13⟩ := u_known (C := RMw) (T := TMw) (N := 72) (n := 72) ht iMw (hts (Cond.instantiable "ClassWorksModel$World" 72) (List.mem_of_getElem? (i := 2699) (by decide +kernel)))
  obtain ⟨d14, e14, k14⟩ := u_known (C := RMo) (T := TMo) (N := 131) (n := 131) ht iMo (hts (Cond.instantiable "ClassWorksModel" 131) (List.mem_of_getElem? (i := 2571) (by decide +kernel)))
  obtain ⟨d15, e15, k15⟩ := u_known (C := RIse) (T := TIse) (N := 0) (n := 6) ht (fun w hw => absurd hw (by simp [u_ws])) (hts (Cond.instantiable "java/lang/IllegalStateException" 6) (List.mem_of_getElem? (i := 2634) (by decide +kernel)))
  obtain ⟨c0, r0⟩ := arr_of (ty := .int) (hts (Cond.arrayClass .int) (List.mem_of_getElem? (i := 404) (by decide +kernel))) (fun C h => by cases h)
  obtain ⟨c1, r1⟩ := arr_of (ty := .byte) (hts (Cond.arrayClass .byte) (List.mem_of_getElem? (i := 403) (by decide +kernel))) (fun C h => by cases h)
  obtain ⟨c2, r2⟩ := arr_of (ty := .long) (hts (Cond.arrayClass .long) (List.mem_of_getElem? (i := 899) (by decide +kernel))) (fun C h => by cases h)
  obtain ⟨c3, r3⟩ := arr_of (ty := .boolean) (hts (Cond.arrayClass .boolean) (List.mem_of_getElem? (i := 2980) (by decide +kernel))) (fun C h => by cases h)
  obtain ⟨c4, r4⟩ := arrq_of (C := "ClassWorks$Machine") (hts (Cond.arrayOver (.object "ClassWorks$Machine")) (List.mem_of_getElem? (i := 364) (by decide +kernel)))
  obtain ⟨c5, r5⟩ := arrq_of (C := "ClassWorks$Runner") (hts (Cond.arrayOver (.object "ClassWorks$Runner")) (List.mem_of_getElem? (i := 968) (by decide +kernel)))
  obtain ⟨c6, r6⟩ := arrq_of (C := "ClassWorksModel$World") (hts (Cond.arrayOver (.object "ClassWorksModel$World")) (List.mem_of_getElem? (i := 2632) (by decide +kernel)))
  obtain ⟨c7, r7⟩ := arrq_of (C := "ClassWorksModel$Run") (hts (Cond.arrayOver (.object "ClassWorksModel$Run")) (List.mem_of_getElem? (i := 2705) (by decide +kernel)))
  refine ⟨(fun k => [d0, d1, d2, d3, d4, d5, d6, d7, d8, d9, d10, d11, d12, d13, d14, d15].getD k 0, fun k => [e0, e1, e2, e3, e4, e5, e6, e7, e8, e9, e10, e11, e12, e13, e14, e15].getD k (fun _ => 0)), fun k => [c0, c1, c2, c3, c4, c5, c6, c7].getD k 0, ?_, ?_⟩
  · intro c q hq
    match c, hq with
    | 0, hq => cases hq; exact k0
    | 1, hq => cases hq; exact k1
    | 2, hq => cases hq; exact k2
    | 3, hq => cases hq; exact k3
    | 4, hq => cases hq; exact k4
    | 5, hq => cases hq; exact k5
    | 6, hq => cases hq; exact k6
    | 7, hq => cases hq; exact k7
    | 8, hq => cases hq; exact k8
    | 9, hq => cases hq; exact k9
    | 10, hq => cases hq; exact k10
    | 11, hq => cases hq; exact k11
    | 12, hq => cases hq; exact k12
    | 13, hq => cases hq; exact k13
    | 14, hq => cases hq; exact k14
    | 15, hq => cases hq; exact k15
    | n + 16, hq => exact absurd (show ([] : List vw_C)[n]? = some q from hq) (by simp)
  · intro c q hq
    match c, hq with
    | 0, hq => cases hq; exact r0
    | 1, hq => cases hq; exact r1
    | 2, hq => cases hq; exact r2
    | 3, hq => cases hq; exact r3
    | 4, hq => cases hq; exact r4
    | 5, hq => cases hq; exact r5
    | 6, hq => cases hq; exact r6
    | 7, hq => cases hq; exact r7
    | n + 8, hq => exact absurd (show ([] : List (ClassId × FieldType))[n]? = some q from hq) (by simp)
set_option maxRecDepth 100000 in
theorem sz_Na_52 {s : State} {args : Array Value} (hts : ∀ w ∈ lw_tbl, w.before args s = true) (hs : ∀ w ∈ lw_flat, w.before args s = true) {A : Nat → Prop} (hA : ∀ a : Nat, a < s.heap.size → ¬ A a) : ∃ k v : Nat, S1 (z_Na_52 k v) A s s.heap := by
  exact strx hs hA "ClassWorks$Names" 52 (z_Na_52 0 0).2.2.1 (sb (z_Na_52 0 0)) 94 (hts _ (List.mem_of_getElem? (i := 408) (by decide +kernel))) (by decide +kernel) (by decide +kernel) (by decide +kernel) (by decide +kernel) (by decide +kernel) (by decide +kernel)
set_option maxRecDepth 100000 in
theorem sz_Na_58 {s : State} {args : Array Value} (hts : ∀ w ∈ lw_tbl, w.before args s = true) (hs : ∀ w ∈ lw_flat, w.before args s = true) {A : Nat → Prop} (hA : ∀ a : Nat, a < s.heap.size → ¬ A a) : ∃ k v : Nat, S1 (z_Na_58 k v) A s s.heap := by
  exact strx hs hA "ClassWorks$Names" 58 (z_Na_58 0 0).2.2.1 (sb (z_Na_58 0 0)) 147 (hts _ (List.mem_of_getElem? (i := 489) (by decide +kernel))) (by decide +kernel) (by decide +kernel) (by decide +kernel) (by decide +kernel) (by decide +kernel) (by decide +kernel)
set_option maxRecDepth 100000 in
theorem sz_Na_60 {s : State} {args : Array Value} (hts : ∀ w ∈ lw_tbl, w.before args s = true) (hs : ∀ w ∈ lw_flat, w.before args s = true) {A : Nat → Prop} (hA : ∀ a : Nat, a < s.heap.size → ¬ A a) : ∃ k v : Nat, S1 (z_Na_60 k v) A s s.heap := by
  exact strx hs hA "ClassWorks$Names" 60 (z_Na_60 0 0).2.2.1 (sb (z_Na_60 0 0)) 162 (hts _ (List.mem_of_getElem? (i := 490) (by decide +kernel))) (by decide +kernel) (by decide +kernel) (by decide +kernel) (by decide +kernel) (by decide +kernel) (by decide +kernel)
set_option maxRecDepth 100000 in
theorem sz_Na_62 {s : State} {args : Array Value} (hts : ∀ w ∈ lw_tbl, w.before args s = true) (hs : ∀ w ∈ lw_flat, w.before args s = true) {A : Nat → Prop} (hA : ∀ a : Nat, a < s.heap.size → ¬ A a) : ∃ k v : Nat, S1 (z_Na_62 k v) A s s.heap := by
  exact strx hs hA "ClassWorks$Names" 62 (z_Na_62 0 0).2.2.1 (sb (z_Na_62 0 0)) 246 (hts _ (List.mem_of_getElem? (i := 491) (by decide +kernel))) (by decide +kernel) (by decide +kernel) (by decide +kernel) (by decide +kernel) (by decide +kernel) (by decide +kernel)
set_option maxRecDepth 100000 in
theorem sz_Na_64 {s : State} {args : Array Value} (hts : ∀ w ∈ lw_tbl, w.before args s = true) (hs : ∀ w ∈ lw_flat, w.before args s = true) {A : Nat → Prop} (hA : ∀ a : Nat, a < s.heap.size → ¬ A a) : ∃ k v : Nat, S1 (z_Na_64 k v) A s s.heap := by
  exact strx hs hA "ClassWorks$Names" 64 (z_Na_64 0 0).2.2.1 (sb (z_Na_64 0 0)) 367 (hts _ (List.mem_of_getElem? (i := 492) (by decide +kernel))) (by decide +kernel) (by decide +kernel) (by decide +kernel) (by decide +kernel) (by decide +kernel) (by decide +kernel)
set_option maxRecDepth 100000 in
theorem sz_Na_66 {s : State} {args : Array Value} (hts : ∀ w ∈ lw_tbl, w.before args s = true) (hs : ∀ w ∈ lw_flat, w.before args s = true) {A : Nat → Prop} (hA : ∀ a : Nat, a < s.heap.size → ¬ A a) : ∃ k v : Nat, S1 (z_Na_66 k v) A s s.heap := by
  exact strx hs hA "ClassWorks$Names" 66 (z_Na_66 0 0).2.2.1 (sb (z_Na_66 0 0)) 451 (hts _ (List.mem_of_getElem? (i := 493) (by decide +kernel))) (by decide +kernel) (by decide +kernel) (by decide +kernel) (by decide +kernel) (by decide +kernel) (by decide +kernel)
set_option maxRecDepth 100000 in
theorem sz_Na_68 {s : State} {args : Array Value} (hts : ∀ w ∈ lw_tbl, w.before args s = true) (hs : ∀ w ∈ lw_flat, w.before args s = true) {A : Nat → Prop} (hA : ∀ a : Nat, a < s.heap.size → ¬ A a) : ∃ k v : Nat, S1 (z_Na_68 k v) A s s.heap := by
  exact strx hs hA "ClassWorks$Names" 68 (z_Na_68 0 0).2.2.1 (sb (z_Na_68 0 0)) 558 (hts _ (List.mem_of_getElem? (i := 494) (by decide +kernel))) (by decide +kernel) (by decide +kernel) (by decide +kernel) (by decide +kernel) (by decide +kernel) (by decide +kernel)
set_option maxRecDepth 100000 in
theorem sz_Na_70 {s : State} {args : Array Value} (hts : ∀ w ∈ lw_tbl, w.before args s = true) (hs : ∀ w ∈ lw_flat, w.before args s = true) {A : Nat → Prop} (hA : ∀ a : Nat, a < s.heap.size → ¬ A a) : ∃ k v : Nat, S1 (z_Na_70 k v) A s s.heap := by
  exact strx hs hA "ClassWorks$Names" 70 (z_Na_70 0 0).2.2.1 (sb (z_Na_70 0 0)) 642 (hts _ (List.mem_of_getElem? (i := 495) (by decide +kernel))) (by decide +kernel) (by decide +kernel) (by decide +kernel) (by decide +kernel) (by decide +kernel) (by decide +kernel)
set_option maxRecDepth 100000 in
theorem sz_Mo_140 {s : State} {args : Array Value} (hts : ∀ w ∈ lw_tbl, w.before args s = true) (hs : ∀ w ∈ lw_flat, w.before args s = true) {A : Nat → Prop} (hA : ∀ a : Nat, a < s.heap.size → ¬ A a) : ∃ k v : Nat, S1 (z_Mo_140 k v) A s s.heap := by
  exact strx hs hA "ClassWorksModel" 140 (z_Mo_140 0 0).2.2.1 (sb (z_Mo_140 0 0)) 1531 (hts _ (List.mem_of_getElem? (i := 2576) (by decide +kernel))) (by decide +kernel) (by decide +kernel) (by decide +kernel) (by decide +kernel) (by decide +kernel) (by decide +kernel)
set_option maxRecDepth 100000 in
theorem sz_Mo_146 {s : State} {args : Array Value} (hts : ∀ w ∈ lw_tbl, w.before args s = true) (hs : ∀ w ∈ lw_flat, w.before args s = true) {A : Nat → Prop} (hA : ∀ a : Nat, a < s.heap.size → ¬ A a) : ∃ k v : Nat, S1 (z_Mo_146 k v) A s s.heap := by
  exact strx hs hA "ClassWorksModel" 146 (z_Mo_146 0 0).2.2.1 (sb (z_Mo_146 0 0)) 1541 (hts _ (List.mem_of_getElem? (i := 2599) (by decide +kernel))) (by decide +kernel) (by decide +kernel) (by decide +kernel) (by decide +kernel) (by decide +kernel) (by decide +kernel)
set_option maxRecDepth 100000 in
theorem sz_Mo_148 {s : State} {args : Array Value} (hts : ∀ w ∈ lw_tbl, w.before args s = true) (hs : ∀ w ∈ lw_flat, w.before args s = true) {A : Nat → Prop} (hA : ∀ a : Nat, a < s.heap.size → ¬ A a) : ∃ k v : Nat, S1 (z_Mo_148 k v) A s s.heap := by
  exact strx hs hA "ClassWorksModel" 148 (z_Mo_148 0 0).2.2.1 (sb (z_Mo_148 0 0)) 1552 (hts _ (List.mem_of_getElem? (i := 2600) (by decide +kernel))) (by decide +kernel) (by decide +kernel) (by decide +kernel) (by decide +kernel) (by decide +kernel) (by decide +kernel)
set_option maxRecDepth 100000 in
theorem sz_Mo_156 {s : State} {args : Array Value} (hts : ∀ w ∈ lw_tbl, w.before args s = true) (hs : ∀ w ∈ lw_flat, w.before args s = true) {A : Nat → Prop} (hA : ∀ a : Nat, a < s.heap.size → ¬ A a) : ∃ k v : Nat, S1 (z_Mo_156 k v) A s s.heap := by
  exact strx hs hA "ClassWorksModel" 156 (z_Mo_156 0 0).2.2.1 (sb (z_Mo_156 0 0)) 1767 (hts _ (List.mem_of_getElem? (i := 2605) (by decide +kernel))) (by decide +kernel) (by decide +kernel) (by decide +kernel) (by decide +kernel) (by decide +kernel) (by decide +kernel)
set_option maxRecDepth 100000 in
theorem sz_Mo_161 {s : State} {args : Array Value} (hts : ∀ w ∈ lw_tbl, w.before args s = true) (hs : ∀ w ∈ lw_flat, w.before args s = true) {A : Nat → Prop} (hA : ∀ a : Nat, a < s.heap.size → ¬ A a) : ∃ k v : Nat, S1 (z_Mo_161 k v) A s s.heap := by
  exact strx hs hA "ClassWorksModel" 161 (z_Mo_161 0 0).2.2.1 (sb (z_Mo_161 0 0)) 1776 (hts _ (List.mem_of_getElem? (i := 2606) (by decide +kernel))) (by decide +kernel) (by decide +kernel) (by decide +kernel) (by decide +kernel) (by decide +kernel) (by decide +kernel)
set_option maxRecDepth 100000 in
theorem sz_Mo_166 {s : State} {args : Array Value} (hts : ∀ w ∈ lw_tbl, w.before args s = true) (hs : ∀ w ∈ lw_flat, w.before args s = true) {A : Nat → Prop} (hA : ∀ a : Nat, a < s.heap.size → ¬ A a) : ∃ k v : Nat, S1 (z_Mo_166 k v) A s s.heap := by
  exact strx hs hA "ClassWorksModel" 166 (z_Mo_166 0 0).2.2.1 (sb (z_Mo_166 0 0)) 1785 (hts _ (List.mem_of_getElem? (i := 2607) (by decide +kernel))) (by decide +kernel) (by decide +kernel) (by decide +kernel) (by decide +kernel) (by decide +kernel) (by decide +kernel)
set_option maxRecDepth 100000 in
theorem sz_Mo_171 {s : State} {args : Array Value} (hts : ∀ w ∈ lw_tbl, w.before args s = true) (hs : ∀ w ∈ lw_flat, w.before args s = true) {A : Nat → Prop} (hA : ∀ a : Nat, a < s.heap.size → ¬ A a) : ∃ k v : Nat, S1 (z_Mo_171 k v) A s s.heap := by
  exact strx hs hA "ClassWorksModel" 171 (z_Mo_171 0 0).2.2.1 (sb (z_Mo_171 0 0)) 1797 (hts _ (List.mem_of_getElem? (i := 2608) (by decide +kernel))) (by decide +kernel) (by decide +kernel) (by decide +kernel) (by decide +kernel) (by decide +kernel) (by decide +kernel)
set_option maxRecDepth 100000 in
theorem sz_Mo_176 {s : State} {args : Array Value} (hts : ∀ w ∈ lw_tbl, w.before args s = true) (hs : ∀ w ∈ lw_flat, w.before args s = true) {A : Nat → Prop} (hA : ∀ a : Nat, a < s.heap.size → ¬ A a) : ∃ k v : Nat, S1 (z_Mo_176 k v) A s s.heap := by
  exact strx hs hA "ClassWorksModel" 176 (z_Mo_176 0 0).2.2.1 (sb (z_Mo_176 0 0)) 1805 (hts _ (List.mem_of_getElem? (i := 2609) (by decide +kernel))) (by decide +kernel) (by decide +kernel) (by decide +kernel) (by decide +kernel) (by decide +kernel) (by decide +kernel)
set_option maxRecDepth 100000 in
theorem sz_Mo_181 {s : State} {args : Array Value} (hts : ∀ w ∈ lw_tbl, w.before args s = true) (hs : ∀ w ∈ lw_flat, w.before args s = true) {A : Nat → Prop} (hA : ∀ a : Nat, a < s.heap.size → ¬ A a) : ∃ k v : Nat, S1 (z_Mo_181 k v) A s s.heap := by
  exact strx hs hA "ClassWorksModel" 181 (z_Mo_181 0 0).2.2.1 (sb (z_Mo_181 0 0)) 1814 (hts _ (List.mem_of_getElem? (i := 2610) (by decide +kernel))) (by decide +kernel) (by decide +kernel) (by decide +kernel) (by decide +kernel) (by decide +kernel) (by decide +kernel)
set_option maxRecDepth 100000 in
theorem sz_Mo_186 {s : State} {args : Array Value} (hts : ∀ w ∈ lw_tbl, w.before args s = true) (hs : ∀ w ∈ lw_flat, w.before args s = true) {A : Nat → Prop} (hA : ∀ a : Nat, a < s.heap.size → ¬ A a) : ∃ k v : Nat, S1 (z_Mo_186 k v) A s s.heap := by
  exact strx hs hA "ClassWorksModel" 186 (z_Mo_186 0 0).2.2.1 (sb (z_Mo_186 0 0)) 1824 (hts _ (List.mem_of_getElem? (i := 2611) (by decide +kernel))) (by decide +kernel) (by decide +kernel) (by decide +kernel) (by decide +kernel) (by decide +kernel) (by decide +kernel)
set_option maxRecDepth 100000 in
theorem sz_Mo_191 {s : State} {args : Array Value} (hts : ∀ w ∈ lw_tbl, w.before args s = true) (hs : ∀ w ∈ lw_flat, w.before args s = true) {A : Nat → Prop} (hA : ∀ a : Nat, a < s.heap.size → ¬ A a) : ∃ k v : Nat, S1 (z_Mo_191 k v) A s s.heap := by
  exact strx hs hA "ClassWorksModel" 191 (z_Mo_191 0 0).2.2.1 (sb (z_Mo_191 0 0)) 1835 (hts _ (List.mem_of_getElem? (i := 2612) (by decide +kernel))) (by decide +kernel) (by decide +kernel) (by decide +kernel) (by decide +kernel) (by decide +kernel) (by decide +kernel)
set_option maxRecDepth 100000 in
theorem sz_Mo_195 {s : State} {args : Array Value} (hts : ∀ w ∈ lw_tbl, w.before args s = true) (hs : ∀ w ∈ lw_flat, w.before args s = true) {A : Nat → Prop} (hA : ∀ a : Nat, a < s.heap.size → ¬ A a) : ∃ k v : Nat, S1 (z_Mo_195 k v) A s s.heap := by
  exact strx hs hA "ClassWorksModel" 195 (z_Mo_195 0 0).2.2.1 (sb (z_Mo_195 0 0)) 1843 (hts _ (List.mem_of_getElem? (i := 2613) (by decide +kernel))) (by decide +kernel) (by decide +kernel) (by decide +kernel) (by decide +kernel) (by decide +kernel) (by decide +kernel)
set_option maxRecDepth 100000 in
theorem sz_Mo_200 {s : State} {args : Array Value} (hts : ∀ w ∈ lw_tbl, w.before args s = true) (hs : ∀ w ∈ lw_flat, w.before args s = true) {A : Nat → Prop} (hA : ∀ a : Nat, a < s.heap.size → ¬ A a) : ∃ k v : Nat, S1 (z_Mo_200 k v) A s s.heap := by
  exact strx hs hA "ClassWorksModel" 200 (z_Mo_200 0 0).2.2.1 (sb (z_Mo_200 0 0)) 1852 (hts _ (List.mem_of_getElem? (i := 2614) (by decide +kernel))) (by decide +kernel) (by decide +kernel) (by decide +kernel) (by decide +kernel) (by decide +kernel) (by decide +kernel)
set_option maxRecDepth 100000 in
theorem sz_Mo_205 {s : State} {args : Array Value} (hts : ∀ w ∈ lw_tbl, w.before args s = true) (hs : ∀ w ∈ lw_flat, w.before args s = true) {A : Nat → Prop} (hA : ∀ a : Nat, a < s.heap.size → ¬ A a) : ∃ k v : Nat, S1 (z_Mo_205 k v) A s s.heap := by
  exact strx hs hA "ClassWorksModel" 205 (z_Mo_205 0 0).2.2.1 (sb (z_Mo_205 0 0)) 1863 (hts _ (List.mem_of_getElem? (i := 2615) (by decide +kernel))) (by decide +kernel) (by decide +kernel) (by decide +kernel) (by decide +kernel) (by decide +kernel) (by decide +kernel)
set_option maxRecDepth 100000 in
theorem sz_Mo_210 {s : State} {args : Array Value} (hts : ∀ w ∈ lw_tbl, w.before args s = true) (hs : ∀ w ∈ lw_flat, w.before args s = true) {A : Nat → Prop} (hA : ∀ a : Nat, a < s.heap.size → ¬ A a) : ∃ k v : Nat, S1 (z_Mo_210 k v) A s s.heap := by
  exact strx hs hA "ClassWorksModel" 210 (z_Mo_210 0 0).2.2.1 (sb (z_Mo_210 0 0)) 1870 (hts _ (List.mem_of_getElem? (i := 2616) (by decide +kernel))) (by decide +kernel) (by decide +kernel) (by decide +kernel) (by decide +kernel) (by decide +kernel) (by decide +kernel)
set_option maxRecDepth 100000 in
theorem sz_Mo_215 {s : State} {args : Array Value} (hts : ∀ w ∈ lw_tbl, w.before args s = true) (hs : ∀ w ∈ lw_flat, w.before args s = true) {A : Nat → Prop} (hA : ∀ a : Nat, a < s.heap.size → ¬ A a) : ∃ k v : Nat, S1 (z_Mo_215 k v) A s s.heap := by
  exact strx hs hA "ClassWorksModel" 215 (z_Mo_215 0 0).2.2.1 (sb (z_Mo_215 0 0)) 1877 (hts _ (List.mem_of_getElem? (i := 2617) (by decide +kernel))) (by decide +kernel) (by decide +kernel) (by decide +kernel) (by decide +kernel) (by decide +kernel) (by decide +kernel)
set_option maxRecDepth 100000 in
theorem sz_Mo_220 {s : State} {args : Array Value} (hts : ∀ w ∈ lw_tbl, w.before args s = true) (hs : ∀ w ∈ lw_flat, w.before args s = true) {A : Nat → Prop} (hA : ∀ a : Nat, a < s.heap.size → ¬ A a) : ∃ k v : Nat, S1 (z_Mo_220 k v) A s s.heap := by
  exact strx hs hA "ClassWorksModel" 220 (z_Mo_220 0 0).2.2.1 (sb (z_Mo_220 0 0)) 1885 (hts _ (List.mem_of_getElem? (i := 2618) (by decide +kernel))) (by decide +kernel) (by decide +kernel) (by decide +kernel) (by decide +kernel) (by decide +kernel) (by decide +kernel)
set_option maxRecDepth 100000 in
theorem sz_Mo_225 {s : State} {args : Array Value} (hts : ∀ w ∈ lw_tbl, w.before args s = true) (hs : ∀ w ∈ lw_flat, w.before args s = true) {A : Nat → Prop} (hA : ∀ a : Nat, a < s.heap.size → ¬ A a) : ∃ k v : Nat, S1 (z_Mo_225 k v) A s s.heap := by
  exact strx hs hA "ClassWorksModel" 225 (z_Mo_225 0 0).2.2.1 (sb (z_Mo_225 0 0)) 1894 (hts _ (List.mem_of_getElem? (i := 2619) (by decide +kernel))) (by decide +kernel) (by decide +kernel) (by decide +kernel) (by decide +kernel) (by decide +kernel) (by decide +kernel)
set_option maxRecDepth 100000 in
theorem sz_Mo_230 {s : State} {args : Array Value} (hts : ∀ w ∈ lw_tbl, w.before args s = true) (hs : ∀ w ∈ lw_flat, w.before args s = true) {A : Nat → Prop} (hA : ∀ a : Nat, a < s.heap.size → ¬ A a) : ∃ k v : Nat, S1 (z_Mo_230 k v) A s s.heap := by
  exact strx hs hA "ClassWorksModel" 230 (z_Mo_230 0 0).2.2.1 (sb (z_Mo_230 0 0)) 1904 (hts _ (List.mem_of_getElem? (i := 2620) (by decide +kernel))) (by decide +kernel) (by decide +kernel) (by decide +kernel) (by decide +kernel) (by decide +kernel) (by decide +kernel)
set_option maxRecDepth 100000 in
theorem sz_Mo_235 {s : State} {args : Array Value} (hts : ∀ w ∈ lw_tbl, w.before args s = true) (hs : ∀ w ∈ lw_flat, w.before args s = true) {A : Nat → Prop} (hA : ∀ a : Nat, a < s.heap.size → ¬ A a) : ∃ k v : Nat, S1 (z_Mo_235 k v) A s s.heap := by
  exact strx hs hA "ClassWorksModel" 235 (z_Mo_235 0 0).2.2.1 (sb (z_Mo_235 0 0)) 1911 (hts _ (List.mem_of_getElem? (i := 2621) (by decide +kernel))) (by decide +kernel) (by decide +kernel) (by decide +kernel) (by decide +kernel) (by decide +kernel) (by decide +kernel)
set_option maxRecDepth 100000 in
theorem sz_Mo_240 {s : State} {args : Array Value} (hts : ∀ w ∈ lw_tbl, w.before args s = true) (hs : ∀ w ∈ lw_flat, w.before args s = true) {A : Nat → Prop} (hA : ∀ a : Nat, a < s.heap.size → ¬ A a) : ∃ k v : Nat, S1 (z_Mo_240 k v) A s s.heap := by
  exact strx hs hA "ClassWorksModel" 240 (z_Mo_240 0 0).2.2.1 (sb (z_Mo_240 0 0)) 1918 (hts _ (List.mem_of_getElem? (i := 2622) (by decide +kernel))) (by decide +kernel) (by decide +kernel) (by decide +kernel) (by decide +kernel) (by decide +kernel) (by decide +kernel)
set_option maxRecDepth 100000 in
theorem sz_Mo_269 {s : State} {args : Array Value} (hts : ∀ w ∈ lw_tbl, w.before args s = true) (hs : ∀ w ∈ lw_flat, w.before args s = true) {A : Nat → Prop} (hA : ∀ a : Nat, a < s.heap.size → ¬ A a) : ∃ k v : Nat, S1 (z_Mo_269 k v) A s s.heap := by
  exact strx hs hA "ClassWorksModel" 269 (z_Mo_269 0 0).2.2.1 (sb (z_Mo_269 0 0)) 2223 (hts _ (List.mem_of_getElem? (i := 2672) (by decide +kernel))) (by decide +kernel) (by decide +kernel) (by decide +kernel) (by decide +kernel) (by decide +kernel) (by decide +kernel)
set_option maxRecDepth 100000 in
theorem lw_sc {s : State} {args : Array Value} (hts : ∀ w ∈ lw_tbl, w.before args s = true) (hs : ∀ w ∈ lw_flat, w.before args s = true) {A : Nat → Prop} (hA : ∀ a : Nat, a < s.heap.size → ¬ A a) : SC A s s.heap := by
  refine ⟨va_Zof (hts _ (List.mem_of_getElem? (i := 422) (by decide +kernel))) (hts _ (List.mem_of_getElem? (i := 333) (by decide +kernel))) (va_eqi (hs _ (List.mem_of_getElem? (i := 4) (by decide +kernel)))) hA, va_Zqof (hts _ (List.mem_of_getElem? (i := 438) (by decide +kernel))) (hts _ (List.mem_of_getElem? (i := 335) (by decide +kernel))) (hs _ (List.mem_of_getElem? (i := 5) (by decide +kernel))) hA, vx_Zqof (hts _ (List.mem_of_getElem? (i := 2660) (by decide +kernel))) (hts _ (List.mem_of_getElem? (i := 349) (by decide +kernel))) (hs _ (List.mem_of_getElem? (i := 9) (by decide +kernel))) hA, vx_Zqof (hts _ (List.mem_of_getElem? (i := 2662) (by decide +kernel))) (hts _ (List.mem_of_getElem? (i := 349) (by decide +kernel))) (hs _ (List.mem_of_getElem? (i := 10) (by decide +kernel))) hA⟩

/-! THE CLAIM OUT OF ONE WALK OF THE LAW'S BODY. Your part is whole_start (and what it stands on); all else here is the same for every law, but numbers. -/
def R_law : String := "ClassWorksLaw"
def lw_P (b : Addr) (xs : List Int32) (args : Array Value) (s : State) : Prop := args = #[.ref b] ∧ s.IntsAt b xs ∧ xs.length ≤ 6 ∧ (Jvm.Cond.and given_1 narrow_1).before args s = true
def lw_Q (_ : Array Value) (s : State) (o : Outcome) (t : State) : Prop := o = .returned (some (.int 1)) ∧ Framed s o t [] 600002 7302232
def lw_Z (below : List Frame) (a : Array Value) (s : State) : State → Prop := fun t => ∃ o, t.status = .running ∧ Ended t below o ∧ lw_Q a s o t
/-- the law's own end, with 1 on the stack, nothing written that was there before, its room as the claim has it -/
theorem lw_ret {p : Program} {l : Launch} {e : Env} {s : State} {m : MethodId} {below : List Frame} {meth : Method} {c : Code} {b : Nat} (hx : p.tables.exec = Jvm.exec) (hb : c.code = code) (hr : meth.sig.returnType = ret) (hlocks : meth.locks = false) {pc : Nat} {H : Heap} {ls : Array Slot} (hdg : decode code pc = .ok (.ireturn, 1)) : W p l e room_1 s m #[Value.ref b] below meth c H [] 600002 7302232 (lw_Z below #[Value.ref b] s) (F0 m pc ls [.int 1]) := by
  intro T hT X
  obtain ⟨fs, hret, hrun, hended, hW, hframe⟩ := X.leave (v := some (.int 1)) (hlocks := hlocks) (fun h => by rw [hr] at h; cases h)
  have hmeth' : T.vm.method? m = some meth := X.method'
  refine ⟨T.setFrames fs, ?_, .returned (some (.int 1)), hrun, hended, rfl, ⟨_, rfl⟩, hW, hframe⟩
  jvm_step X.here [X.here.top, hx, hb, hdg, hmeth', hr, ret, narrow_b1]
  (try refine ⟨rfl, ?_⟩); (try refine ⟨rfl, ?_⟩)
  first | (intro acts; rw [hret _ acts rfl rfl rfl]) | rw [hret _ _ rfl rfl rfl]
  exact Steps.refl _
/-- what holds at the law's entry: the machine, the code, the tables' words (any of lw_tbl by 'hts w (by decide +kernel)'), the script of L ints xs at the cell b, what the Statement gives of the start (any of its parts by flat_of_before) -/
def lw_At (p : Program) (s : State) (m : MethodId) (meth : Method) (c : Code) (b L : Nat) (xs : Nat → Int32) : Prop :=
  p.tables.exec = Jvm.exec ∧ c.code = code ∧ meth.sig.returnType = ret ∧ c.maxLocals = 4 ∧ s.vm.findClass R_law = some m.cls ∧ (∀ w ∈ lw_tbl, w.before #[Value.ref b] s = true) ∧ va_X b L xs s s.heap ∧ b < s.heap.size ∧ meth.locks = false ∧ (Jvm.Cond.and given_1 narrow_1).before #[Value.ref b] s = true

set_option maxRecDepth 100000 in
theorem lw_MoS {s : State} {args : Array Value} (hts : ∀ w ∈ lw_tbl, w.before args s = true) (hs : ∀ w ∈ lw_flat, w.before args s = true) {A : Nat → Prop} (hA : ∀ a : Nat, a < s.heap.size → ¬ A a) : ∃ K V : Nat → Nat, ∀ x ∈ sl_Mo K V, S1 x A s s.heap := by
  obtain ⟨k140, v140, h140⟩ := sz_Mo_140 (A := A) hts hs hA
  obtain ⟨k146, v146, h146⟩ := sz_Mo_146 (A := A) hts hs hA
  obtain ⟨k148, v148, h148⟩ := sz_Mo_148 (A := A) hts hs hA
  obtain ⟨k156, v156, h156⟩ := sz_Mo_156 (A := A) hts hs hA
  obtain ⟨k161, v161, h161⟩ := sz_Mo_161 (A := A) hts hs hA
  obtain ⟨k166, v166, h166⟩ := sz_Mo_166 (A := A) hts hs hA
  obtain ⟨k171, v171, h171⟩ := sz_Mo_171 (A := A) hts hs hA
  obtain ⟨k176, v176, h176⟩ := sz_Mo_176 (A := A) hts hs hA
  obtain ⟨k181, v181, h181⟩ := sz_Mo_181 (A := A) hts hs hA
  obtain ⟨k186, v186, h186⟩ := sz_Mo_186 (A := A) hts hs hA
  obtain ⟨k191, v191, h191⟩ := sz_Mo_191 (A := A) hts hs hA
  obtain ⟨k195, v195, h195⟩ := sz_Mo_195 (A := A) hts hs hA
  obtain ⟨k200, v200, h200⟩ := sz_Mo_200 (A := A) hts hs hA
  obtain ⟨k205, v205, h205⟩ := sz_Mo_205 (A := A) hts hs hA
  obtain ⟨k210, v210, h210⟩ := sz_Mo_210 (A := A) hts hs hA
  obtain ⟨k215, v215, h215⟩ := sz_Mo_215 (A := A) hts hs hA
  obtain ⟨k220, v220, h220⟩ := sz_Mo_220 (A := A) hts hs hA
  obtain ⟨k225, v225, h225⟩ := sz_Mo_225 (A := A) hts hs hA
  obtain ⟨k230, v230, h230⟩ := sz_Mo_230 (A := A) hts hs hA
  obtain ⟨k235, v235, h235⟩ := sz_Mo_235 (A := A) hts hs hA
  obtain ⟨k240, v240, h240⟩ := sz_Mo_240 (A := A) hts hs hA
  obtain ⟨k269, v269, h269⟩ := sz_Mo_269 (A := A) hts hs hA
  refine ⟨fun i => if i = 140 then k140 else if i = 146 then k146 else if i = 148 then k148 else if i = 156 then k156 else if i = 161 then k161 else if i = 166 then k166 else if i = 171 then k171 else if i = 176 then k176 else if i = 181 then k181 else if i = 186 then k186 else if i = 191 then k191 else if i = 195 then k195 else if i = 200 then k200 else if i = 205 then k205 else if i = 210 then k210 else if i = 215 then k215 else if i = 220 then k220 else if i = 225 then k225 else if i = 230 then k230 else if i = 235 then k235 else if i = 240 then k240 else if i = 269 then k269 else 0, fun i => if i = 140 then v140 else if i = 146 then v146 else if i = 148 then v148 else if i = 156 then v156 else if i = 161 then v161 else if i = 166 then v166 else if i = 171 then v171 else if i = 176 then v176 else if i = 181 then v181 else if i = 186 then v186 else if i = 191 then v191 else if i = 195 then v195 else if i = 200 then v200 else if i = 205 then v205 else if i = 210 then v210 else if i = 215 then v215 else if i = 220 then v220 else if i = 225 then v225 else if i = 230 then v230 else if i = 235 then v235 else if i = 240 then v240 else if i = 269 then v269 else 0, ?_⟩
  exact List.forall_mem_cons.mpr ⟨h140, List.forall_mem_cons.mpr ⟨h146, List.forall_mem_cons.mpr ⟨h148, List.forall_mem_cons.mpr ⟨h156, List.forall_mem_cons.mpr ⟨h161, List.forall_mem_cons.mpr ⟨h166, List.forall_mem_cons.mpr ⟨h171, List.forall_mem_cons.mpr ⟨h176, List.forall_mem_cons.mpr ⟨h181, List.forall_mem_cons.mpr ⟨h186, List.forall_mem_cons.mpr ⟨h191, List.forall_mem_cons.mpr ⟨h195, List.forall_mem_cons.mpr ⟨h200, List.forall_mem_cons.mpr ⟨h205, List.forall_mem_cons.mpr ⟨h210, List.forall_mem_cons.mpr ⟨h215, List.forall_mem_cons.mpr ⟨h220, List.forall_mem_cons.mpr ⟨h225, List.forall_mem_cons.mpr ⟨h230, List.forall_mem_cons.mpr ⟨h235, List.forall_mem_cons.mpr ⟨h240, List.forall_mem_cons.mpr ⟨h269, fun _ h => absurd h List.not_mem_nil⟩⟩⟩⟩⟩⟩⟩⟩⟩⟩⟩⟩⟩⟩⟩⟩⟩⟩⟩⟩⟩⟩
