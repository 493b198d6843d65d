def lw_ok : List Cond := lw_tbl.filter goodWord
theorem lw_okmem {w : Cond} (h : w ∈ lw_tbl) (hg : goodWord w = true) : w ∈ lw_ok := List.mem_filter.mpr ⟨h, hg⟩
theorem lw_oksub {w : Cond} (h : w ∈ lw_ok) : w ∈ lw_tbl := (List.mem_filter.mp h).1
theorem lw_okgood {w : Cond} (h : w ∈ lw_ok) : goodWord w = true := (List.mem_filter.mp h).2
abbrev mw (y : MethodName) (b : ByteArray) (n : Nat) (r : Option FieldType) : List Cond := Cond.code y b n r :: lw_ok
theorem mw_good {y : MethodName} {b : ByteArray} {n : Nat} {r : Option FieldType} (h : Cond.code y b n r ∈ lw_ok) : GoodIn lw_ok (mw y b n r) := by
  intro w hw
  rcases List.mem_cons.mp hw with rfl | hw
  · exact ⟨h, good_of_word (lw_okgood h)⟩
  · exact ⟨hw, good_of_word (lw_okgood hw)⟩
/-- the words of fields and methods of nest mates -/
def isNest : Cond → Bool
  | .fieldLinkNest .. => true
  | .methodLinkNest .. => true
  | .declares .. => true
  | .castable .. => true
  | _ => false
def lw_nest : List Cond := lw_tbl.filter isNest
def lw_over : List String := ["ClassWorks$Machine", "ClassWorks$Runner", "ClassWorksModel$World", "ClassWorksModel$Run"]
theorem lw_overmem : ∀ C ∈ lw_over, Cond.arrayOver (.object C) ∈ lw_tbl := by
  intro C hC
  simp only [lw_over, List.mem_cons, List.not_mem_nil, or_false] at hC
  rcases hC with rfl | rfl | rfl | rfl
  · exact List.mem_of_getElem? (i := 364) (by decide +kernel)
  · exact List.mem_of_getElem? (i := 968) (by decide +kernel)
  · exact List.mem_of_getElem? (i := 2632) (by decide +kernel)
  · exact List.mem_of_getElem? (i := 2705) (by decide +kernel)
def NB (U : State) : Prop := (∀ w ∈ lw_nest, va_Nw w U) ∧ ∀ C ∈ lw_over, va_AO C U
theorem NB.same {u U : State} (h : u.vm = U.vm) (hN : NB u) : NB U := by
  refine ⟨?_, fun C hC => va_AO.moved (by rw [h]; exact Vm.Alike.refl _) (hN.2 C hC)⟩
  intro w hw
  have hn : isNest w = true := (List.mem_filter.mp hw).2
  have h1 := hN.1 w hw
  cases w <;> first | (exact absurd hn Bool.false_ne_true) | exact va_Nw.same rfl h h1
theorem NB.warm {s U : State} (hW : s.WarmedH U.vm) (hN : NB s) : NB U := by
  refine ⟨?_, fun C hC => va_AO.moved hW.alike (hN.2 C hC)⟩
  intro w hw
  have hn : isNest w = true := (List.mem_filter.mp hw).2
  have h1 := hN.1 w hw
  cases w <;> first | (exact absurd hn Bool.false_ne_true) | exact va_Nw.warmF hW h1 | exact va_Nw.warmM hW h1 | exact va_Nw.warmD hW h1 | exact va_Nw.warmC hW h1
theorem NB.of {s : State} {args : Array Value} (ht : ∀ w ∈ lw_tbl, w.before args s = true) : NB s := by
  refine ⟨?_, fun C hC => va_AO.of (ht _ (lw_overmem C hC))⟩
  intro w hw
  have hn : isNest w = true := (List.mem_filter.mp hw).2
  have h1 := ht w (List.mem_filter.mp hw).1
  cases w <;> first | (exact absurd hn Bool.false_ne_true) | exact va_Nw.of rfl h1
theorem NB.use {s : State} {args : Array Value} (hN : NB s) {w : Cond} (hw : w ∈ lw_nest) (ho : w.onTables = true) : w.before args s = true := va_Nw.use ho (hN.1 w hw)
theorem lw_nestmem {w : Cond} (h : w ∈ lw_tbl) (hg : isNest w = true) : w ∈ lw_nest := List.mem_filter.mpr ⟨h, hg⟩
theorem lay_in {C : String} {T : u_T} {N : Nat} (ps : List Nat) (h : (List.range N).map (fun k => some (u_lay C T k)) = ps.map (fun i => lw_tbl[i]?)) (h2 : (u_ws C T N).all goodWord = true) : ∀ w ∈ u_ws C T N, w ∈ lw_ok := by
  intro w hw
  refine lw_okmem ?_ (List.all_eq_true.mp h2 w hw)
  obtain ⟨k, hk, rfl⟩ := List.mem_map.mp hw
  have h3 : some (u_lay C T k) ∈ (List.range N).map (fun k => some (u_lay C T k)) := List.mem_map.mpr ⟨k, hk, rfl⟩
  rw [h] at h3
  obtain ⟨i, -, hi⟩ := List.mem_map.mp h3
  exact List.mem_of_getElem? hi
