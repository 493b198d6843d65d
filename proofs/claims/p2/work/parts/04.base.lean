/-! String constants that a method reads: class, entry, text, the String's cell, its row's cell, its bytes -/
abbrev SL : Type := String × Nat × String × Nat × Nat × List Int32
abbrev sk (x : SL) : Nat := x.2.2.2.1
abbrev sv (x : SL) : Nat := x.2.2.2.2.1
abbrev sb (x : SL) : List Int32 := x.2.2.2.2.2
def S1 (x : SL) (A : Nat → Prop) (U : State) (H : Heap) : Prop :=
  vk_R x.1 x.2.1 x.2.2.1 (sk x) U ∧ va_O "java/lang/String" (sk x) A U H ∧ va_OF "java/lang/String" "coder" "B" (.int 0) (sk x) A U H ∧ va_OF "java/lang/String" "value" "[B" (.ref (sv x)) (sk x) A U H ∧ va_T .byte (sv x) (sb x).length (fun j => .int ((sb x).getD j 0)) A U H
def SC (A : Nat → Prop) (U : State) (H : Heap) : Prop := va_Z "java/lang/String" "COMPACT_STRINGS" "Z" (.int 1) A U H ∧ va_Zq "jdk/internal/util/Preconditions" "SIOOBE_FORMATTER" "Ljava/util/function/BiFunction;" A U H ∧ vx_Zq Bundle.tN "UNASSIGNED_STACK" Bundle.steD A U H ∧ vx_Zq Bundle.tN "SUPPRESSED_SENTINEL" Bundle.listD A U H
def SX (sl : List SL) (A : Nat → Prop) (U : State) (H : Heap) : Prop := (sl = [] ∨ SC A U H) ∧ ∀ x ∈ sl, S1 x A U H
theorem SX.sc {x : SL} {sl : List SL} {A : Nat → Prop} {U : State} {H : Heap} (h : SX (x :: sl) A U H) : SC A U H := h.1.elim (fun e => by cases e) id
theorem S1.recv {x : SL} {A : Nat → Prop} {s : State} {H : Heap} {locs : List Loc} (h : S1 x A s s.heap) (hS : va_S A s.heap H locs) : ∃ cell : Cell, H[sk x]? = some cell ∧ cell.vm.isStatics = false ∧ s.vm.findClass "java/lang/String" = some cell.cls := by
  obtain ⟨cell, h1, h2, h3, -⟩ := h.2.1.kept hS.2.1
  exact ⟨cell, h1, h2, h3⟩
theorem SX.nil {A : Nat → Prop} {U : State} {H : Heap} : SX [] A U H := ⟨Or.inl rfl, fun _ h => absurd h List.not_mem_nil⟩
theorem S1.kept {x : SL} {A : Nat → Prop} {U : State} {H H1 : Heap} (h : S1 x A U H) (hq : ∀ a : Nat, a < H.size → ¬ A a → H1[a]? = H[a]?) : S1 x A U H1 :=
  ⟨h.1, h.2.1.kept hq, h.2.2.1.kept hq, h.2.2.2.1.kept hq, h.2.2.2.2.kept hq⟩
theorem S1.narrow {x : SL} {A B : Nat → Prop} {U : State} {H : Heap} (h : S1 x A U H) (hAB : ∀ q, B q → A q) : S1 x B U H :=
  ⟨h.1, h.2.1.narrow hAB, h.2.2.1.narrow hAB, h.2.2.2.1.narrow hAB, h.2.2.2.2.narrow hAB⟩
theorem S1.warm {x : SL} {A : Nat → Prop} {s U : State} {H : Heap} (hW : s.WarmedH U.vm) (h : S1 x A s H) : S1 x A U H :=
  ⟨h.1.warm hW, h.2.1.moved hW.alike, h.2.2.1.moved hW.alike, h.2.2.2.1.moved hW.alike, h.2.2.2.2.moved hW.alike⟩
theorem S1.same {x : SL} {A : Nat → Prop} {s U : State} {H : Heap} (hv : U.vm = s.vm) (h : S1 x A s H) : S1 x A U H := by
  have hal : s.vm.Alike U.vm := by rw [hv]; exact Vm.Alike.refl _
  exact ⟨h.1.same hv, h.2.1.moved hal, h.2.2.1.moved hal, h.2.2.2.1.moved hal, h.2.2.2.2.moved hal⟩
theorem SC.kept {A : Nat → Prop} {U : State} {H H1 : Heap} (h : SC A U H) (hq : ∀ a : Nat, a < H.size → ¬ A a → H1[a]? = H[a]?) : SC A U H1 := ⟨h.1.kept hq, h.2.1.kept hq, h.2.2.1.kept hq, h.2.2.2.kept hq⟩
theorem SC.narrow {A B : Nat → Prop} {U : State} {H : Heap} (h : SC A U H) (hAB : ∀ q, B q → A q) : SC B U H := ⟨h.1.narrow hAB, h.2.1.narrow hAB, h.2.2.1.narrow hAB, h.2.2.2.narrow hAB⟩
theorem SC.moved {A : Nat → Prop} {u U : State} {H : Heap} (hvm : u.vm.Alike U.vm) (h : SC A u H) : SC A U H := ⟨h.1.moved hvm, h.2.1.moved hvm, h.2.2.1.moved hvm, h.2.2.2.moved hvm⟩
theorem SX.sub {sl sl' : List SL} {A : Nat → Prop} {U : State} {H : Heap} (h : SX sl A U H) (hs : ∀ x ∈ sl', x ∈ sl) : SX sl' A U H := by
  refine ⟨?_, fun x hx => h.2 x (hs x hx)⟩
  cases sl' with
  | nil => exact Or.inl rfl
  | cons a t =>
    rcases h.1 with h1 | h1
    · rw [h1] at hs; exact absurd (hs a List.mem_cons_self) List.not_mem_nil
    · exact Or.inr h1
theorem SX.kept {sl : List SL} {A : Nat → Prop} {U : State} {H H1 : Heap} (h : SX sl A U H) (hq : ∀ a : Nat, a < H.size → ¬ A a → H1[a]? = H[a]?) : SX sl A U H1 :=
  ⟨h.1.imp id (fun h => h.kept hq), fun x hx => (h.2 x hx).kept hq⟩
theorem SX.narrow {sl : List SL} {A B : Nat → Prop} {U : State} {H : Heap} (h : SX sl A U H) (hAB : ∀ q, B q → A q) : SX sl B U H :=
  ⟨h.1.imp id (fun h => h.narrow hAB), fun x hx => (h.2 x hx).narrow hAB⟩
theorem SX.warm {sl : List SL} {A : Nat → Prop} {s U : State} {H : Heap} (hW : s.WarmedH U.vm) (h : SX sl A s H) : SX sl A U H :=
  ⟨h.1.imp id (fun h => h.moved hW.alike), fun x hx => (h.2 x hx).warm hW⟩
theorem SX.same {sl : List SL} {A : Nat → Prop} {s U : State} {H : Heap} (hv : U.vm = s.vm) (h : SX sl A s H) : SX sl A U H :=
  ⟨h.1.imp id (fun h => h.moved (by rw [hv]; exact Vm.Alike.refl _)), fun x hx => (h.2 x hx).same hv⟩
/-! A method's start: its arguments, its world, the tables -/
def PC (g : Nat → ClassId) (D : va_G) (sl : List SL) (av : List Value) (sz : Nat) (ws : va_W) : Array Value → State → Prop :=
  va_Pc av (fun U => U.heap.size = sz ∧ va_P D CL ws U.heap ∧ va_K D CL (TY g) U ∧ va_D (fun _ => True) ws ∧ NB U ∧ SX sl (va_A ws sz) U U.heap)
theorem PC.blind {g : Nat → ClassId} {D : va_G} {sl : List SL} {av : List Value} {sz : Nat} {ws : va_W} : FrameBlind (PC g D sl av sz ws) := by
  intro a U gf mk q
  obtain ⟨q0, q1, qP, qK, qD, qN, qX⟩ := q
  exact ⟨q0, q1, qP, va_K.moved (u := U) (U := U.calling gf mk a) (Vm.Alike.refl U.vm) qK, qD, NB.same (u := U) (U := U.calling gf mk a) rfl qN, SX.same (s := U) (U := U.calling gf mk a) rfl qX⟩
/-- the world behind a method -/
def QW {S : Type} (D : va_G) (A : Nat → Prop) (W' : S → va_W) : S → State → Prop := fun u t => va_P D CL (W' u) t.heap ∧ va_D A (W' u)
theorem PC.give {g : Nat → ClassId} {D : va_G} {sl sl' : List SL} {As : List Value} {s : State} {H : Heap} {locs : List Loc} {A : Nat → Prop} {ws wc : va_W} (hK : va_K D CL (TY g) s) (hN : NB s) (hX : SX sl A s s.heap) (hsl : ∀ x ∈ sl', x ∈ sl) (hP : va_P D CL ws H) (hD : va_D A ws) (hS : va_S A s.heap H locs) (hA : ∀ q, s.heap.size ≤ q → A q) (isC : List Nat) (hC : isC.map (fun i => ws[i]?) = wc.map some) (hnd : va_nd isC = true) :
    ∀ U : State, U.heap = H → s.WarmedH U.vm → PC g D sl' As H.size wc As.toArray U := by
  have hC' : isC.filterMap (fun i => ws[i]?) = wc := by
    have h1 : ∀ (is : List Nat) (w : va_W), is.map (fun i => ws[i]?) = w.map some → is.filterMap (fun i => ws[i]?) = w := by
      intro is
      induction is with
      | nil => intro w h; cases w with
        | nil => rfl
        | cons a t => cases h
      | cons i is ih => intro w h; cases w with
        | nil => cases h
        | cons a t =>
          injection h with h2 h3
          have h4 : ws[i]? = some a := h2
          rw [List.filterMap_cons, h4]
          show a :: List.filterMap (fun i => ws[i]?) is = a :: t
          rw [ih t h3]
    exact h1 _ _ hC
  intro U hU hW
  refine ⟨rfl, by rw [hU], by rw [hU]; exact hP.sub isC hC', va_K.moved hW.alike hK, (hD.sub isC hnd hC).weaken (fun _ _ _ _ => trivial), hN.warm hW, ?_⟩
  have hF := va_free hD hS hA isC hC
  have h1 : SX sl' A s H := (hX.sub hsl).kept hS.2.1
  rw [hU]
  exact (h1.narrow hF).warm hW

/-! How a method's proof begins, and how it ends -/
theorem ofG {l : Launch} {y : MethodName} {b : ByteArray} {nL : Nat} {r : Option FieldType} {rm : Room} {g : Nat → ClassId} {D : va_G} {sl : List SL} {av : List Value} {sz : Nat} {ws : va_W} {Qc : Array Value → State → Outcome → State → Prop} {mc ms : Nat} (hy : plainName y.cls = true) (hn : (lg_sl av).length ≤ nL)
    (body : ∀ (p : Program) (e : Env) (s : State) (m : MethodId) (args : Array Value) (below : List Frame) (meth : Method) (c : Code) (ls : Array Slot), p.tables.exec = Jvm.exec → c.code = b → c.maxLocals = nL → meth.sig.returnType = r → meth.locks = false → (∀ w ∈ lw_ok, w.before args s = true) → s.vm.findClass y.cls = some m.cls → meth.name = y.name → s.heap.size = sz → va_K D CL (TY g) s → NB s → SX sl (va_A ws sz) s s.heap → va_P D CL ws s.heap → va_D (va_A ws sz) ws → lv_has ls nL (lv_args 0 av) →
      W p l e rm s m args below meth c s.heap [] 0 0 (MQ below Qc args s mc ms (va_A ws sz)) (F0 m 0 ls [])) :
    Met l y (mw y b nL r) rm (PC g D sl av sz ws) Qc mc ms (va_A ws sz) := by
  refine Met.ofW (cc := b) (maxL := nL) (ret := r) hy rfl ?_
  intro p e s m args below meth c s₁ B hml hv
  obtain ⟨hargs, hsz, hP, hK, hD, hN, hX⟩ := hv
  have hts := atoms_spec (ws := mw y b nL r) B.pre
  have hent : entryFrame m args nL = F0 m 0 ((lg_sl av ++ List.replicate (nL - (lg_sl av).length) Slot.unset).toArray) [] := by
    rw [hargs]; exact lg_entry_eq m av nL
  rw [hent]
  exact body p e s m args below meth c _ B.exec B.bytes hml B.returns B.notSynchronized (fun w hw => hts w (List.mem_cons_of_mem _ hw)) (findClass_of_methodNamed B.named) (name_of_methodNamed B.named B.method).1 hsz hK hN hX hP hD.self (lv_entry av hn)
/-- what a body is given: all that stays the same in it -/
def GV (l : Launch) (p : Program) (s : State) (m : MethodId) (args : Array Value) (meth : Method) (c : Code) (y : MethodName) (b : ByteArray) (nL : Nat) (r : Option FieldType) (g : Nat → ClassId) (D : va_G) (sl : List SL) (A : Nat → Prop) : Prop :=
  p.tables.exec = Jvm.exec ∧ c.code = b ∧ c.maxLocals = nL ∧ meth.sig.returnType = r ∧ meth.locks = false ∧ (∀ w ∈ lw_ok, w.before args s = true) ∧ s.vm.findClass y.cls = some m.cls ∧ meth.name = y.name ∧ va_K D CL (TY g) s ∧ NB s ∧ SX sl A s s.heap ∧ ∀ q, s.heap.size ≤ q → A q
theorem ofI {S : Type} {l : Launch} {y : MethodName} {b : ByteArray} {nL : Nat} {rm : Room} {g : Nat → ClassId} {D : va_G} {sl : List SL} {av : List Value} {sz : Nat} {ws : va_W} {post : Int32 → S → Prop} {W' : S → va_W} {mc ms : Nat} (hy : plainName y.cls = true) (hn : (lg_sl av).length ≤ nL)
    (body : ∀ (p : Program) (e : Env) (s : State) (m : MethodId) (args : Array Value) (below : List Frame) (meth : Method) (c : Code) (A : Nat → Prop) (Q : State → Prop) (ls : Array Slot) (H : Heap) (locs : List Loc), GV l p s m args meth c y b nL (some .int) g D sl A → s.heap.size = sz → va_P D CL ws H → va_D A ws → va_S A s.heap H locs → lv_has ls nL (lv_args 0 av) →
      (∀ (v : Int32) (u : S) (H : Heap) (locs : List Loc) (k n pc : Nat) (ls : Array Slot), post v u → va_P D CL (W' u) H → va_D A (W' u) → va_S A s.heap H locs → k ≤ mc → n ≤ ms → decode b pc = .ok (.ireturn, 1) → W p l e rm s m args below meth c H locs k n Q (F0 m pc ls [.int v])) →
      W p l e rm s m args below meth c H locs 0 0 Q (F0 m 0 ls [])) :
    Met l y (mw y b nL (some .int)) rm (PC g D sl av sz ws) (va_Qi post (QW D (va_A ws sz) W') (va_A ws sz)) mc ms (va_A ws sz) := by
  refine ofG hy hn ?_
  intro p e s m args below meth c ls hx hb hml hr hlk ht hown hin hsz hK hN hX hP hD hl
  refine body p e s m args below meth c (va_A ws sz) _ ls s.heap [] ⟨hx, hb, hml, hr, hlk, ht, hown, hin, hK, hN, hX, fun q h => Or.inr (by rw [← hsz]; exact h)⟩ hsz hP hD va_S.rf hl ?_
  intro v u H locs k n pc ls hpost hP1 hD1 hS1 hk hn1 hdg
  refine W.widen hk hn1 ?_
  exact W.iret hx hb hr (fun t ht hW => ⟨⟨v, u, rfl, hpost, by rw [ht]; exact hP1, hD1⟩, hS1.F ht⟩) hS1.2.2 hdg hlk
theorem ofZ {S : Type} {l : Launch} {y : MethodName} {b : ByteArray} {nL : Nat} {rm : Room} {g : Nat → ClassId} {D : va_G} {sl : List SL} {av : List Value} {sz : Nat} {ws : va_W} {post : Int32 → S → Prop} {W' : S → va_W} {mc ms : Nat} {ty : FieldType} (hy : plainName y.cls = true) (hn : (lg_sl av).length ≤ nL)
    (body : ∀ (p : Program) (e : Env) (s : State) (m : MethodId) (args : Array Value) (below : List Frame) (meth : Method) (c : Code) (A : Nat → Prop) (Q : State → Prop) (ls : Array Slot) (H : Heap) (locs : List Loc), GV l p s m args meth c y b nL (some ty) g D sl A → s.heap.size = sz → va_P D CL ws H → va_D A ws → va_S A s.heap H locs → lv_has ls nL (lv_args 0 av) →
      (∀ (v : Int32) (u : S) (H : Heap) (locs : List Loc) (k n pc : Nat) (ls : Array Slot), narrow ty (.int v) = .int v → post v u → va_P D CL (W' u) H → va_D A (W' u) → va_S A s.heap H locs → k ≤ mc → n ≤ ms → decode b pc = .ok (.ireturn, 1) → W p l e rm s m args below meth c H locs k n Q (F0 m pc ls [.int v])) →
      W p l e rm s m args below meth c H locs 0 0 Q (F0 m 0 ls [])) :
    Met l y (mw y b nL (some ty)) rm (PC g D sl av sz ws) (va_Qi post (QW D (va_A ws sz) W') (va_A ws sz)) mc ms (va_A ws sz) := by
  refine ofG hy hn ?_
  intro p e s m args below meth c ls hx hb hml hr hlk ht hown hin hsz hK hN hX hP hD hl
  refine body p e s m args below meth c (va_A ws sz) _ ls s.heap [] ⟨hx, hb, hml, hr, hlk, ht, hown, hin, hK, hN, hX, fun q h => Or.inr (by rw [← hsz]; exact h)⟩ hsz hP hD va_S.rf hl ?_
  intro v u H locs k n pc ls hv9 hpost hP1 hD1 hS1 hk hn1 hdg
  refine W.widen hk hn1 ?_
  exact W.zret hx hb hr hv9 (fun t ht hW => ⟨⟨v, u, rfl, hpost, by rw [ht]; exact hP1, hD1⟩, hS1.F ht⟩) hS1.2.2 hdg hlk
theorem ofV {S : Type} {l : Launch} {y : MethodName} {b : ByteArray} {nL : Nat} {rm : Room} {g : Nat → ClassId} {D : va_G} {sl : List SL} {av : List Value} {sz : Nat} {ws : va_W} {post : S → Prop} {W' : S → va_W} {mc ms : Nat} (hy : plainName y.cls = true) (hn : (lg_sl av).length ≤ nL)
    (body : ∀ (p : Program) (e : Env) (s : State) (m : MethodId) (args : Array Value) (below : List Frame) (meth : Method) (c : Code) (A : Nat → Prop) (Q : State → Prop) (ls : Array Slot) (H : Heap) (locs : List Loc), GV l p s m args meth c y b nL none g D sl A → s.heap.size = sz → va_P D CL ws H → va_D A ws → va_S A s.heap H locs → lv_has ls nL (lv_args 0 av) →
      (∀ (u : S) (H : Heap) (locs : List Loc) (k n pc : Nat) (ls : Array Slot), post u → va_P D CL (W' u) H → va_D A (W' u) → va_S A s.heap H locs → k ≤ mc → n ≤ ms → decode b pc = .ok (.return_, 1) → W p l e rm s m args below meth c H locs k n Q (F0 m pc ls [])) →
      W p l e rm s m args below meth c H locs 0 0 Q (F0 m 0 ls [])) :
    Met l y (mw y b nL none) rm (PC g D sl av sz ws) (va_Qv post (QW D (va_A ws sz) W') (va_A ws sz)) mc ms (va_A ws sz) := by
  refine ofG hy hn ?_
  intro p e s m args below meth c ls hx hb hml hr hlk ht hown hin hsz hK hN hX hP hD hl
  refine body p e s m args below meth c (va_A ws sz) _ ls s.heap [] ⟨hx, hb, hml, hr, hlk, ht, hown, hin, hK, hN, hX, fun q h => Or.inr (by rw [← hsz]; exact h)⟩ hsz hP hD va_S.rf hl ?_
  intro u H locs k n pc ls hpost hP1 hD1 hS1 hk hn1 hdg
  refine W.widen hk hn1 ?_
  exact W.vret hx hb hr (fun t ht hW => ⟨⟨u, rfl, hpost, by rw [ht]; exact hP1, hD1⟩, hS1.F ht⟩) hS1.2.2 hdg hlk
theorem ofL {S : Type} {l : Launch} {y : MethodName} {b : ByteArray} {nL : Nat} {rm : Room} {g : Nat → ClassId} {D : va_G} {sl : List SL} {av : List Value} {sz : Nat} {ws : va_W} {post : Int64 → S → Prop} {W' : S → va_W} {mc ms : Nat} (hy : plainName y.cls = true) (hn : (lg_sl av).length ≤ nL)
    (body : ∀ (p : Program) (e : Env) (s : State) (m : MethodId) (args : Array Value) (below : List Frame) (meth : Method) (c : Code) (A : Nat → Prop) (Q : State → Prop) (ls : Array Slot) (H : Heap) (locs : List Loc), GV l p s m args meth c y b nL (some .long) g D sl A → s.heap.size = sz → va_P D CL ws H → va_D A ws → va_S A s.heap H locs → lv_has ls nL (lv_args 0 av) →
      (∀ (v : Int64) (u : S) (H : Heap) (locs : List Loc) (k n pc : Nat) (ls : Array Slot), post v u → va_P D CL (W' u) H → va_D A (W' u) → va_S A s.heap H locs → k ≤ mc → n ≤ ms → decode b pc = .ok (.lreturn, 1) → W p l e rm s m args below meth c H locs k n Q (F0 m pc ls [.long v])) →
      W p l e rm s m args below meth c H locs 0 0 Q (F0 m 0 ls [])) :
    Met l y (mw y b nL (some .long)) rm (PC g D sl av sz ws) (va_Ql post (QW D (va_A ws sz) W') (va_A ws sz)) mc ms (va_A ws sz) := by
  refine ofG hy hn ?_
  intro p e s m args below meth c ls hx hb hml hr hlk ht hown hin hsz hK hN hX hP hD hl
  refine body p e s m args below meth c (va_A ws sz) _ ls s.heap [] ⟨hx, hb, hml, hr, hlk, ht, hown, hin, hK, hN, hX, fun q h => Or.inr (by rw [← hsz]; exact h)⟩ hsz hP hD va_S.rf hl ?_
  intro v u H locs k n pc ls hpost hP1 hD1 hS1 hk hn1 hdg
  refine W.widen hk hn1 ?_
  exact W.lret hx hb hr (fun t ht hW => ⟨⟨v, u, rfl, hpost, by rw [ht]; exact hP1, hD1⟩, hS1.F ht⟩) hS1.2.2 hdg hlk
theorem ofQ {S : Type} {l : Launch} {y : MethodName} {b : ByteArray} {nL : Nat} {rm : Room} {g : Nat → ClassId} {D : va_G} {sl : List SL} {av : List Value} {sz : Nat} {ws : va_W} {post : Option Nat → S → Prop} {W' : S → va_W} {mc ms : Nat} {rt : FieldType} (hrt : (∃ n, rt = .object n) ∨ ∃ t, rt = .array t) (hy : plainName y.cls = true) (hn : (lg_sl av).length ≤ nL)
    (body : ∀ (p : Program) (e : Env) (s : State) (m : MethodId) (args : Array Value) (below : List Frame) (meth : Method) (c : Code) (A : Nat → Prop) (Q : State → Prop) (ls : Array Slot) (H : Heap) (locs : List Loc), GV l p s m args meth c y b nL (some rt) g D sl A → s.heap.size = sz → va_P D CL ws H → va_D A ws → va_S A s.heap H locs → lv_has ls nL (lv_args 0 av) →
      (∀ (v : Option Nat) (u : S) (H : Heap) (locs : List Loc) (k n pc : Nat) (ls : Array Slot), post v u → va_P D CL (W' u) H → va_D A (W' u) → va_S A s.heap H locs → k ≤ mc → n ≤ ms → decode b pc = .ok (.areturn, 1) → W p l e rm s m args below meth c H locs k n Q (F0 m pc ls [va_rf v])) →
      W p l e rm s m args below meth c H locs 0 0 Q (F0 m 0 ls [])) :
    Met l y (mw y b nL (some rt)) rm (PC g D sl av sz ws) (va_Qq post (QW D (va_A ws sz) W') (va_A ws sz)) mc ms (va_A ws sz) := by
  refine ofG hy hn ?_
  intro p e s m args below meth c ls hx hb hml hr hlk ht hown hin hsz hK hN hX hP hD hl
  refine body p e s m args below meth c (va_A ws sz) _ ls s.heap [] ⟨hx, hb, hml, hr, hlk, ht, hown, hin, hK, hN, hX, fun q h => Or.inr (by rw [← hsz]; exact h)⟩ hsz hP hD va_S.rf hl ?_
  intro v u H locs k n pc ls hpost hP1 hD1 hS1 hk hn1 hdg
  refine W.widen hk hn1 ?_
  exact W.aret hx hb hr hrt (va_rf_or v) (fun t ht hW => ⟨⟨v, u, rfl, hpost, by rw [ht]; exact hP1, hD1⟩, hS1.F ht⟩) hS1.2.2 hdg hlk

/-! Calls -/
section KC
variable {p : Program} {l : Launch} {e : Env} {R : Room} {s : State} {m : MethodId} {args : Array Value} {below : List Frame} {meth : Method} {c : Code} {H : Heap} {locs : List Loc} {cells slots : Nat} {Q : State → Prop}
variable {cc : ByteArray} {pc nL : Nat} {ls : Array Slot} {rest st : List Value} {A0 : Nat → Prop} {y y0 : MethodName} {bytes : ByteArray} {maxL index mc ms : Nat} {ret r0 : Option FieldType} {rm : Room} {g : Nat → ClassId} {D : va_G} {sl sl' : List SL} {b : Nat} {As : List Value} {ws wc wr : va_W} {own C : String} {Qc : Array Value → State → Outcome → State → Prop}
/-- the callee's own words -/
def CWv (y : MethodName) (bytes : ByteArray) (maxL : Nat) (ret : Option FieldType) (n : Nat) : Prop :=
  Cond.code y bytes maxL ret ∈ lw_ok ∧ Cond.initialized y.cls ∈ lw_ok ∧ y.cls ≠ "java/lang/invoke/MethodHandle" ∧ y.cls ≠ "java/lang/invoke/VarHandle" ∧ (parseMethodDescriptor y.desc).map (fun d => d.parameters.length) = some n
theorem CWv.B {n : Nat} (ht : ∀ w ∈ lw_ok, w.before args s = true) (h : CWv y bytes maxL ret n) (hl : Cond.methodLink own index y ∈ lw_ok) (hrc : rm.cells = mc) (hrs : rm.slots = ms) (hR : rm.frames + 1 ≤ R.frames ∧ 8 + (maxL + 11) + rm.locals ≤ R.locals) : CallB R s args own index y bytes maxL ret (mw y bytes maxL ret) rm mc ms n :=
  callB_of n ht (mw_good h.1) rfl hrc hrs (ht _ h.2.1) (ht _ hl) h.2.2 hR
theorem kV {n : Nat} (G : GV l p s m args meth c y0 cc nL r0 g D sl A0) (hP : va_P D CL ws H) (hD : va_D A0 ws) (hS : va_S A0 s.heap H locs) (isC : List Nat) (hC : isC.map (fun i => ws[i]?) = wc.map some) (hnd : va_nd isC = true)
    (hM : Met l y (mw y bytes maxL ret) rm (PC g D sl' (.ref b :: As) H.size wc) Qc mc ms (va_A wc H.size)) (w : CWv y bytes maxL ret n ∧ Cond.instanceMethod y ∈ lw_ok ∧ Cond.selects y.cls y y ∈ lw_ok) (hl : Cond.methodLink y0.cls index y ∈ lw_ok) (hrc : rm.cells = mc) (hrs : rm.slots = ms) (hR : rm.frames + 1 ≤ R.frames ∧ 8 + (maxL + 11) + rm.locals ≤ R.locals) (hsl : ∀ x ∈ sl', x ∈ sl)
    (q0 : Nat) {ci : Nat} {q : vw_C} {fs : List Value} (hc : CL[ci]? = some q) (hqc : q.1 = y.cls) (he : ws[q0]? = some (b, .inr (ci, fs))) (hsz : ls.size = nL) (hst : st = As.reverse ++ .ref b :: rest) (hroom : (rest.map fun v => v.category).sum ≤ 8) (hn : As.length = n) (hf : cells + mc ≤ R.cells ∧ slots + ms ≤ R.slots) (hdg : decode cc pc = .ok (.invokevirtual index, 3)) :
    va_Run p l e R s m args below meth c H locs cells slots mc ms (F0 m pc ls st) rest (Qc (Value.ref b :: As).toArray) (va_A wc H.size) := by
  obtain ⟨hx, hb, hml, hr, hlk, ht, hown, hin, hK, hN, hX, hA⟩ := G
  refine va_runV (C := y.cls) ⟨hx, hb, hml, hown, ht⟩ hM ⟨w.1.B ht hl hrc hrs hR, ht _ w.2.1, ht _ w.2.2⟩ ⟨PC.blind, ?_, PC.give hK hN hX hsl hP hD hS hA isC hC hnd⟩ rfl hn hsz hst (lv_room hroom) hdg hf
  rw [← hqc]; exact va_recv hK hP hc he
theorem kVr {n : Nat} (G : GV l p s m args meth c y0 cc nL r0 g D sl A0) (hP : va_P D CL ws H) (hD : va_D A0 ws) (hS : va_S A0 s.heap H locs) (isC : List Nat) (hC : isC.map (fun i => ws[i]?) = wc.map some) (hnd : va_nd isC = true)
    (hM : Met l y (mw y bytes maxL ret) rm (PC g D sl' (.ref b :: As) H.size wc) Qc mc ms (va_A wc H.size)) (w : CWv y bytes maxL ret n ∧ Cond.instanceMethod y ∈ lw_ok ∧ Cond.selects y.cls y y ∈ lw_ok) (hl : Cond.methodLink y0.cls index y ∈ lw_ok) (hrc : rm.cells = mc) (hrs : rm.slots = ms) (hR : rm.frames + 1 ≤ R.frames ∧ 8 + (maxL + 11) + rm.locals ≤ R.locals) (hsl : ∀ x ∈ sl', x ∈ sl)
    (hrv : ∃ cell : Cell, H[b]? = some cell ∧ cell.vm.isStatics = false ∧ s.vm.findClass y.cls = some cell.cls) (hsz : ls.size = nL) (hst : st = As.reverse ++ .ref b :: rest) (hroom : (rest.map fun v => v.category).sum ≤ 8) (hn : As.length = n) (hf : cells + mc ≤ R.cells ∧ slots + ms ≤ R.slots) (hdg : decode cc pc = .ok (.invokevirtual index, 3)) :
    va_Run p l e R s m args below meth c H locs cells slots mc ms (F0 m pc ls st) rest (Qc (Value.ref b :: As).toArray) (va_A wc H.size) := by
  obtain ⟨hx, hb, hml, hr, hlk, ht, hown, hin, hK, hN, hX, hA⟩ := G
  exact va_runV (C := y.cls) ⟨hx, hb, hml, hown, ht⟩ hM ⟨w.1.B ht hl hrc hrs hR, ht _ w.2.1, ht _ w.2.2⟩ ⟨PC.blind, hrv, PC.give hK hN hX hsl hP hD hS hA isC hC hnd⟩ rfl hn hsz hst (lv_room hroom) hdg hf
theorem kI {n : Nat} (G : GV l p s m args meth c y0 cc nL r0 g D sl A0) (hP : va_P D CL ws H) (hD : va_D A0 ws) (hS : va_S A0 s.heap H locs) (isC : List Nat) (hC : isC.map (fun i => ws[i]?) = wc.map some) (hnd : va_nd isC = true)
    (hM : Met l y (mw y bytes maxL none) rm (PC g D sl' (.ref b :: As) H.size wc) Qc mc ms (va_A wc H.size)) (w : CWv y bytes maxL none n ∧ Cond.instanceMethod y ∈ lw_ok ∧ y.name = "<init>") (hl : Cond.methodLink y0.cls index y ∈ lw_ok) (hrc : rm.cells = mc) (hrs : rm.slots = ms) (hR : rm.frames + 1 ≤ R.frames ∧ 8 + (maxL + 11) + rm.locals ≤ R.locals) (hsl : ∀ x ∈ sl', x ∈ sl)
    (hsz : ls.size = nL) (hst : st = As.reverse ++ .ref b :: rest) (hroom : (rest.map fun v => v.category).sum ≤ 8) (hn : As.length = n) (hf : cells + mc ≤ R.cells ∧ slots + ms ≤ R.slots) (hdg : decode cc pc = .ok (.invokespecial index, 3)) :
    va_Run p l e R s m args below meth c H locs cells slots mc ms (F0 m pc ls st) rest (Qc (Value.ref b :: As).toArray) (va_A wc H.size) := by
  obtain ⟨hx, hb, hml, hr, hlk, ht, hown, hin, hK, hN, hX, hA⟩ := G
  exact va_runI ⟨hx, hb, hml, hown, ht⟩ hM ⟨w.1.B ht hl hrc hrs hR, w.2.2, ht _ w.2.1⟩ ⟨PC.blind, PC.give hK hN hX hsl hP hD hS hA isC hC hnd⟩ rfl hn hsz hst (lv_room hroom) hdg hf
theorem kS {n : Nat} (G : GV l p s m args meth c y0 cc nL r0 g D sl A0) (hP : va_P D CL ws H) (hD : va_D A0 ws) (hS : va_S A0 s.heap H locs) (isC : List Nat) (hC : isC.map (fun i => ws[i]?) = wc.map some) (hnd : va_nd isC = true)
    (hM : Met l y (mw y bytes maxL ret) rm (PC g D sl' As H.size wc) Qc mc ms (va_A wc H.size)) (w : CWv y bytes maxL ret n ∧ Cond.static y ∈ lw_ok) (hl : Cond.methodLink y0.cls index y ∈ lw_ok) (hrc : rm.cells = mc) (hrs : rm.slots = ms) (hR : rm.frames + 1 ≤ R.frames ∧ 8 + (maxL + 11) + rm.locals ≤ R.locals) (hsl : ∀ x ∈ sl', x ∈ sl)
    (hsz : ls.size = nL) (hst : st = As.reverse ++ rest) (hroom : (rest.map fun v => v.category).sum ≤ 8) (hn : As.length = n) (hf : cells + mc ≤ R.cells ∧ slots + ms ≤ R.slots) (hdg : decode cc pc = .ok (.invokestatic index, 3)) :
    va_Run p l e R s m args below meth c H locs cells slots mc ms (F0 m pc ls st) rest (Qc As.toArray) (va_A wc H.size) := by
  obtain ⟨hx, hb, hml, hr, hlk, ht, hown, hin, hK, hN, hX, hA⟩ := G
  exact va_runS ⟨hx, hb, hml, hown, ht⟩ hM ⟨w.1.B ht hl hrc hrs hR, ht _ w.2⟩ ⟨PC.blind, PC.give hK hN hX hsl hP hD hS hA isC hC hnd⟩ rfl hn hsz hst (lv_room hroom) hdg hf
/-- a constructor of a nest mate -/
theorem kIN {n : Nat} {host : String} (G : GV l p s m args meth c y0 cc nL r0 g D sl A0) (hP : va_P D CL ws H) (hD : va_D A0 ws) (hS : va_S A0 s.heap H locs) (isC : List Nat) (hC : isC.map (fun i => ws[i]?) = wc.map some) (hnd : va_nd isC = true)
    (hM : Met l y (mw y bytes maxL none) rm (PC g D sl' (.ref b :: As) H.size wc) Qc mc ms (va_A wc H.size)) (w : CWv y bytes maxL none n ∧ Cond.instanceMethod y ∈ lw_ok ∧ y.name = "<init>") (hl : Cond.methodLinkNest y0.cls index y host ∈ lw_nest) (hrc : rm.cells = mc) (hrs : rm.slots = ms) (hR : rm.frames + 1 ≤ R.frames ∧ 8 + (maxL + 11) + rm.locals ≤ R.locals) (hsl : ∀ x ∈ sl', x ∈ sl)
    (hsz : ls.size = nL) (hst : st = As.reverse ++ .ref b :: rest) (hroom : (rest.map fun v => v.category).sum ≤ 8) (hn : As.length = n) (hf : cells + mc ≤ R.cells ∧ slots + ms ≤ R.slots) (hdg : decode cc pc = .ok (.invokespecial index, 3)) :
    va_Run p l e R s m args below meth c H locs cells slots mc ms (F0 m pc ls st) rest (Qc (Value.ref b :: As).toArray) (va_A wc H.size) := by
  obtain ⟨hx, hb, hml, hr, hlk, ht, hown, hin, hK, hN, hX, hA⟩ := G
  exact va_runIN ⟨hx, hb, hml, hown, ht⟩ hM ⟨va_cnB n ht (mw_good w.1.1) rfl hrc hrs (hN.1 _ hl) (ht _ w.1.2.1) w.1.2.2 hR, w.2.2, ht _ w.2.1⟩ ⟨PC.blind, PC.give hK hN hX hsl hP hD hS hA isC hC hnd⟩ rfl hn hsz hst (lv_room hroom) hdg hf
end KC
section KE
variable {p : Program} {l : Launch} {e : Env} {R : Room} {s : State} {m : MethodId} {args : Array Value} {below : List Frame} {meth : Method} {c : Code} {H : Heap} {locs : List Loc} {cells slots : Nat} {Q : State → Prop}
variable {pc : Nat} {ls : Array Slot} {rest st : List Value} {A0 : Nat → Prop} {mc ms : Nat} {D : va_G} {ws wc wr : va_W} {a : Array Value} {y0 : MethodName} {cc : ByteArray} {nL : Nat} {r0 : Option FieldType} {g : Nat → ClassId} {sl : List SL}
theorem kEi {S : Type} {post : Int32 → S → Prop} {W' : S → va_W} (G : GV l p s m args meth c y0 cc nL r0 g D sl A0) (hr : va_Run p l e R s m args below meth c H locs cells slots mc ms (F0 m pc ls st) rest (va_Qi post (QW D (va_A wc H.size) W') (va_A wc H.size) a) (va_A wc H.size)) (hP : va_P D CL ws H) (hD : va_D A0 ws) (hS : va_S A0 s.heap H locs) (isC isR : List Nat) (hC : isC.map (fun i => ws[i]?) = wc.map some) (hR : isR.map (fun i => ws[i]?) = wr.map some) (hn : va_nd isR = true) (hdis : isR.all (fun i => !isC.contains i) = true)
    (kk : ∀ (r : Int32) (u : S) (H1 : Heap) (locs1 : List Loc), post r u → va_P D CL (wr ++ W' u) H1 → va_D A0 (wr ++ W' u) → va_S A0 s.heap H1 locs1 → H.size ≤ H1.size → W p l e R s m args below meth c H1 locs1 (cells + mc) (slots + ms) Q (F0 m (pc + 3) ls (.int r :: rest))) : W p l e R s m args below meth c H locs cells slots Q (F0 m pc ls st) := by
  have hF := va_free hD hS G.2.2.2.2.2.2.2.2.2.2.2 isC hC
  refine va_calli hr hS (fun q _ h => hF q h) hF (fun r u t H1 locs1 ht hvm hw hB hz hk hS1 => ?_)
  obtain ⟨hP1, hD1⟩ := hB
  rw [ht] at hP1
  have hdis' : ∀ i ∈ isR, i ∉ isC := fun i hi hc => by
    have h1 := List.all_eq_true.mp hdis i hi
    rw [List.contains_iff_mem.mpr hc] at h1
    exact absurd h1 (by decide)
  obtain ⟨hP2, hD2⟩ := va_join hP hD isC isR hC hR hn hdis' hk hF hP1 hD1
  exact kk r u H1 locs1 hw hP2 hD2 hS1 hz
theorem kEv {S : Type} {post : S → Prop} {W' : S → va_W} (G : GV l p s m args meth c y0 cc nL r0 g D sl A0) (hr : va_Run p l e R s m args below meth c H locs cells slots mc ms (F0 m pc ls st) rest (va_Qv post (QW D (va_A wc H.size) W') (va_A wc H.size) a) (va_A wc H.size)) (hP : va_P D CL ws H) (hD : va_D A0 ws) (hS : va_S A0 s.heap H locs) (isC isR : List Nat) (hC : isC.map (fun i => ws[i]?) = wc.map some) (hR : isR.map (fun i => ws[i]?) = wr.map some) (hn : va_nd isR = true) (hdis : isR.all (fun i => !isC.contains i) = true)
    (kk : ∀ (u : S) (H1 : Heap) (locs1 : List Loc), post u → va_P D CL (wr ++ W' u) H1 → va_D A0 (wr ++ W' u) → va_S A0 s.heap H1 locs1 → H.size ≤ H1.size → W p l e R s m args below meth c H1 locs1 (cells + mc) (slots + ms) Q (F0 m (pc + 3) ls (rest))) : W p l e R s m args below meth c H locs cells slots Q (F0 m pc ls st) := by
  have hF := va_free hD hS G.2.2.2.2.2.2.2.2.2.2.2 isC hC
  refine va_callv hr hS (fun q _ h => hF q h) hF (fun u t H1 locs1 ht hvm hw hB hz hk hS1 => ?_)
  obtain ⟨hP1, hD1⟩ := hB
  rw [ht] at hP1
  have hdis' : ∀ i ∈ isR, i ∉ isC := fun i hi hc => by
    have h1 := List.all_eq_true.mp hdis i hi
    rw [List.contains_iff_mem.mpr hc] at h1
    exact absurd h1 (by decide)
  obtain ⟨hP2, hD2⟩ := va_join hP hD isC isR hC hR hn hdis' hk hF hP1 hD1
  exact kk u H1 locs1 hw hP2 hD2 hS1 hz
theorem kEl {S : Type} {post : Int64 → S → Prop} {W' : S → va_W} (G : GV l p s m args meth c y0 cc nL r0 g D sl A0) (hr : va_Run p l e R s m args below meth c H locs cells slots mc ms (F0 m pc ls st) rest (va_Ql post (QW D (va_A wc H.size) W') (va_A wc H.size) a) (va_A wc H.size)) (hP : va_P D CL ws H) (hD : va_D A0 ws) (hS : va_S A0 s.heap H locs) (isC isR : List Nat) (hC : isC.map (fun i => ws[i]?) = wc.map some) (hR : isR.map (fun i => ws[i]?) = wr.map some) (hn : va_nd isR = true) (hdis : isR.all (fun i => !isC.contains i) = true)
    (kk : ∀ (r : Int64) (u : S) (H1 : Heap) (locs1 : List Loc), post r u → va_P D CL (wr ++ W' u) H1 → va_D A0 (wr ++ W' u) → va_S A0 s.heap H1 locs1 → H.size ≤ H1.size → W p l e R s m args below meth c H1 locs1 (cells + mc) (slots + ms) Q (F0 m (pc + 3) ls (.long r :: rest))) : W p l e R s m args below meth c H locs cells slots Q (F0 m pc ls st) := by
  have hF := va_free hD hS G.2.2.2.2.2.2.2.2.2.2.2 isC hC
  refine va_calll hr hS (fun q _ h => hF q h) hF (fun r u t H1 locs1 ht hvm hw hB hz hk hS1 => ?_)
  obtain ⟨hP1, hD1⟩ := hB
  rw [ht] at hP1
  have hdis' : ∀ i ∈ isR, i ∉ isC := fun i hi hc => by
    have h1 := List.all_eq_true.mp hdis i hi
    rw [List.contains_iff_mem.mpr hc] at h1
    exact absurd h1 (by decide)
  obtain ⟨hP2, hD2⟩ := va_join hP hD isC isR hC hR hn hdis' hk hF hP1 hD1
  exact kk r u H1 locs1 hw hP2 hD2 hS1 hz
theorem kEq {S : Type} {post : Option Nat → S → Prop} {W' : S → va_W} (G : GV l p s m args meth c y0 cc nL r0 g D sl A0) (hr : va_Run p l e R s m args below meth c H locs cells slots mc ms (F0 m pc ls st) rest (va_Qq post (QW D (va_A wc H.size) W') (va_A wc H.size) a) (va_A wc H.size)) (hP : va_P D CL ws H) (hD : va_D A0 ws) (hS : va_S A0 s.heap H locs) (isC isR : List Nat) (hC : isC.map (fun i => ws[i]?) = wc.map some) (hR : isR.map (fun i => ws[i]?) = wr.map some) (hn : va_nd isR = true) (hdis : isR.all (fun i => !isC.contains i) = true)
    (kk : ∀ (r : Option Nat) (u : S) (H1 : Heap) (locs1 : List Loc), post r u → va_P D CL (wr ++ W' u) H1 → va_D A0 (wr ++ W' u) → va_S A0 s.heap H1 locs1 → H.size ≤ H1.size → W p l e R s m args below meth c H1 locs1 (cells + mc) (slots + ms) Q (F0 m (pc + 3) ls (va_rf r :: rest))) : W p l e R s m args below meth c H locs cells slots Q (F0 m pc ls st) := by
  have hF := va_free hD hS G.2.2.2.2.2.2.2.2.2.2.2 isC hC
  refine va_callq hr hS (fun q _ h => hF q h) hF (fun r u t H1 locs1 ht hvm hw hB hz hk hS1 => ?_)
  obtain ⟨hP1, hD1⟩ := hB
  rw [ht] at hP1
  have hdis' : ∀ i ∈ isR, i ∉ isC := fun i hi hc => by
    have h1 := List.all_eq_true.mp hdis i hi
    rw [List.contains_iff_mem.mpr hc] at h1
    exact absurd h1 (by decide)
  obtain ⟨hP2, hD2⟩ := va_join hP hD isC isR hC hR hn hdis' hk hF hP1 hD1
  exact kk r u H1 locs1 hw hP2 hD2 hS1 hz
end KE
/-! Arrays of a known class -/
section KA
variable {p : Program} {l : Launch} {e : Env} {R : Room} {s : State} {m : MethodId} {args : Array Value} {below : List Frame} {meth : Method} {c : Code} {H : Heap} {locs : List Loc} {cells slots : Nat} {Q : State → Prop}
variable {cc : ByteArray} {pc : Nat} {ls : Array Slot} {rest : List Value} {A0 : Nat → Prop} {D : va_G} {ws : va_W} {y0 : MethodName} {nL : Nat} {r0 : Option FieldType} {g : Nat → ClassId} {sl : List SL}
theorem kNew {atype : ArrayType} {ty : FieldType} {cA : ClassId} (G : GV l p s m args meth c y0 cc nL r0 g D sl A0) (harr : Cond.arrayClass ty ∈ lw_ok) (hty : newarray.typeOf atype = ty) (hra : ∀ x : ClassId, va_RA s x ty → s.vm.findClass ("[" ++ ty.toString) = some x) (t0 : Nat) (ht0 : (TY g)[t0]? = some (cA, ty)) (hP : va_P D CL ws H) (hD : va_D A0 ws) (hS : va_S A0 s.heap H locs)
    {n : Int32} {N' : Nat} {a0 : vp_A} (ha : ∀ x : ClassId, vp_cell x a0 = arrV x N' (fun _ => defaultValue ty)) (hn : ¬ n < 0) (hN : n.toNatClampNeg = N') (hbytes : N' * componentBytes ty ≤ 536870912) (hcells : cells + 1 ≤ R.cells) (hslots : slots + N' ≤ R.slots) (hdg : decode cc pc = .ok (.newarray atype, 2))
    (kk : ∀ (q : Nat) (H1 : Heap), va_P D CL (ws ++ [(q, .inl (cA, a0))]) H1 → va_D A0 (ws ++ [(q, .inl (cA, a0))]) → va_S A0 s.heap H1 locs →
      W p l e R s m args below meth c H1 locs (cells + 1) (slots + N') Q (F0 m (pc + 2) ls (.ref q :: rest))) : W p l e R s m args below meth c H locs cells slots Q (F0 m pc ls (.int n :: rest)) := by
  obtain ⟨hx, hb, hml, hr, hlk, ht, hown, hin, hK, hNB, hX, hA⟩ := G
  refine va_newa hx hb (by rw [hty]; exact ht _ harr) hty hK hP hD hS hA ha hn hN hbytes hcells hslots hdg (fun q x H1 hK1 hP1 hD1 hS1 => ?_)
  have h1 := hra _ (hK1.2 (TY g).length (x, ty) (by simp)).2
  have h2 := hra _ (hK.2 t0 (cA, ty) ht0).2
  have h3 : x = cA := Option.some.inj (h1.symm.trans h2)
  subst h3
  exact kk q H1 hP1 hD1 hS1
theorem kNewq {C : String} {index : Nat} {cA : ClassId} (G : GV l p s m args meth c y0 cc nL r0 g D sl A0) (hcl : Cond.classLink y0.cls index C ∈ lw_ok) (hov : C ∈ lw_over) (t0 : Nat) (ht0 : (TY g)[t0]? = some (cA, .object C)) (hP : va_P D CL ws H) (hD : va_D A0 ws) (hS : va_S A0 s.heap H locs)
    {n : Int32} {N' : Nat} (hn : ¬ n < 0) (hN : n.toNatClampNeg = N') (hbytes : N' * 4 ≤ 536870912) (hcells : cells + 1 ≤ R.cells) (hslots : slots + N' ≤ R.slots) (hdg : decode cc pc = .ok (.anewarray index, 3))
    (kk : ∀ (q : Nat) (H1 : Heap), va_P D CL (ws ++ [(q, .inl (cA, N', .inr (.inr (.inr (.inr (fun _ => none))))))]) H1 → va_D A0 (ws ++ [(q, .inl (cA, N', .inr (.inr (.inr (.inr (fun _ => none))))))]) → va_S A0 s.heap H1 locs →
      W p l e R s m args below meth c H1 locs (cells + 1) (slots + N') Q (F0 m (pc + 3) ls (.ref q :: rest))) : W p l e R s m args below meth c H locs cells slots Q (F0 m pc ls (.int n :: rest)) := by
  obtain ⟨hx, hb, hml, hr, hlk, ht, hown, hin, hK, hNB, hX, hA⟩ := G
  refine va_newq hx hb hown (ht _ hcl) (hNB.2 C hov) hK hP hD hS hA hn hN hbytes hcells hslots hdg (fun q x H1 hK1 hP1 hD1 hS1 => ?_)
  obtain ⟨_, _, _, _, _, h1⟩ := (hK1.2 (TY g).length (x, .object C) (by simp)).2
  obtain ⟨_, _, _, _, _, h2⟩ := (hK.2 t0 (cA, .object C) ht0).2
  have h3 : x = cA := Option.some.inj (h1.symm.trans h2)
  subst h3
  exact kk q H1 hP1 hD1 hS1
end KA
/-! Numbers -/
section KN
variable {p : Program} {l : Launch} {e : Env} {R : Room} {s : State} {m : MethodId} {args : Array Value} {below : List Frame} {meth : Method} {c : Code} {H : Heap} {locs : List Loc} {cells slots : Nat} {Q : State → Prop} {pc : Nat} {ls : Array Slot} {rest : List Value}
theorem tpi {v w : Int32} (h : v = w) (k : W p l e R s m args below meth c H locs cells slots Q (F0 m pc ls (.int w :: rest))) : W p l e R s m args below meth c H locs cells slots Q (F0 m pc ls (.int v :: rest)) := by rw [h]; exact k
theorem tpl {v w : Int64} (h : v = w) (k : W p l e R s m args below meth c H locs cells slots Q (F0 m pc ls (.long w :: rest))) : W p l e R s m args below meth c H locs cells slots Q (F0 m pc ls (.long v :: rest)) := by rw [h]; exact k
theorem tpst {v w : List Value} (h : v = w) (k : W p l e R s m args below meth c H locs cells slots Q (F0 m pc ls w)) : W p l e R s m args below meth c H locs cells slots Q (F0 m pc ls v) := by rw [h]; exact k
end KN
theorem nI_inn {a n : Nat} (h : a < n) (hn : n < 2 ^ 31) : vp_in (nI a) n := nI_in h hn

/-! Fields and rows, in one row each -/
section KF
variable {p : Program} {l : Launch} {e : Env} {R : Room} {s : State} {m : MethodId} {args : Array Value} {below : List Frame} {meth : Method} {c : Code} {H : Heap} {locs : List Loc} {cells slots : Nat} {Q : State → Prop}
variable {cc : ByteArray} {pc : Nat} {ls : Array Slot} {rest : List Value} {A0 : Nat → Prop} {D : va_G} {ws : va_W} {y0 : MethodName} {nL : Nat} {r0 : Option FieldType} {g : Nat → ClassId} {sl : List SL} {a : Nat}
theorem kg {C ref : String} {T : u_T} {N ci index : Nat} (G : GV l p s m args meth c y0 cc nL r0 g D sl A0) (hin : ∀ w ∈ u_ws C T N, w ∈ lw_ok) (hP : va_P D CL ws H) (q0 : Nat) {fs : List Value} (he : ws[q0]? = some (a, .inr (ci, fs))) (hc : CL[ci]? = some (C, T, N)) (k : Nat) (hk : k < N) (hlink : Cond.fieldLink y0.cls index ref (T k).2.1 (T k).2.2.1 ∈ lw_ok) (hsame : (T k).1 = ref) {v : Value} (hv : fs[k]? = some v) (hdg : decode cc pc = .ok (.getfield index, 3))
    (kk : W p l e R s m args below meth c H locs cells slots Q (F0 m (pc + 3) ls (v :: rest))) : W p l e R s m args below meth c H locs cells slots Q (F0 m pc ls (.ref a :: rest)) :=
  va_get G.1 G.2.1 G.2.2.2.2.2.1 hin G.2.2.2.2.2.2.1 G.2.2.2.2.2.2.2.2.1 hP q0 he hc k hk (G.2.2.2.2.2.1 _ hlink) (fun x h => by rw [← hsame]; exact h) hv hdg kk
theorem kgN {C ref host : String} {T : u_T} {N ci index : Nat} (G : GV l p s m args meth c y0 cc nL r0 g D sl A0) (hin : ∀ w ∈ u_ws C T N, w ∈ lw_ok) (hP : va_P D CL ws H) (q0 : Nat) {fs : List Value} (he : ws[q0]? = some (a, .inr (ci, fs))) (hc : CL[ci]? = some (C, T, N)) (k : Nat) (hk : k < N) (hlink : Cond.fieldLinkNest y0.cls index ref (T k).2.1 (T k).2.2.1 host ∈ lw_nest) (hsame : (T k).1 = ref) {v : Value} (hv : fs[k]? = some v) (hdg : decode cc pc = .ok (.getfield index, 3))
    (kk : W p l e R s m args below meth c H locs cells slots Q (F0 m (pc + 3) ls (v :: rest))) : W p l e R s m args below meth c H locs cells slots Q (F0 m pc ls (.ref a :: rest)) :=
  va_getN G.1 G.2.1 G.2.2.2.2.2.1 hin G.2.2.2.2.2.2.1 G.2.2.2.2.2.2.2.2.1 hP q0 he hc k hk (NB.use G.2.2.2.2.2.2.2.2.2.1 hlink rfl) (fun x h => by rw [← hsame]; exact h) hv hdg kk
theorem kp {C ref : String} {T : u_T} {N ci index : Nat} (G : GV l p s m args meth c y0 cc nL r0 g D sl A0) (hin : ∀ w ∈ u_ws C T N, w ∈ lw_ok) (ty0 : Nat → FieldType) (hty : ∀ k, k < N → parseFieldDescriptor (T k).2.2.1 = some (ty0 k)) (hnm : ∀ a, a < N → ∀ b, b < N → a ≠ b → (T a).2.1 ≠ (T b).2.1) (hP : va_P D CL ws H) (hD : va_D A0 ws) (hS : va_S A0 s.heap H locs) (q0 : Nat) {fs : List Value} (he : ws[q0]? = some (a, .inr (ci, fs))) (hc : CL[ci]? = some (C, T, N)) (k : Nat) (hk : k < N) (hlink : Cond.fieldLink y0.cls index ref (T k).2.1 (T k).2.2.1 ∈ lw_ok) (hsame : (T k).1 = ref) (hfin : (T k).2.2.2 = false) {v : Value} (hn : narrow (ty0 k) v = v) (hfit : fits (ty0 k) v = true) (hl : k < fs.length)
    (hdg : decode cc pc = .ok (.putfield index, 3)) (kk : ∀ (H1 : Heap) (locs1 : List Loc), va_P D CL (ws.set q0 (a, .inr (ci, fs.set k v))) H1 → va_D A0 (ws.set q0 (a, .inr (ci, fs.set k v))) → va_S A0 s.heap H1 locs1 → W p l e R s m args below meth c H1 locs1 cells slots Q (F0 m (pc + 3) ls rest)) : W p l e R s m args below meth c H locs cells slots Q (F0 m pc ls (v :: .ref a :: rest)) :=
  va_put G.1 G.2.1 G.2.2.2.2.2.1 hin ty0 hty hnm G.2.2.2.2.2.2.1 G.2.2.2.2.2.2.2.2.1 hP hD hS q0 he hc k hk (G.2.2.2.2.2.1 _ hlink) (fun x h => by rw [← hsame]; exact h) hfin (hty k hk) hn hfit hl hdg kk
theorem kpF {C ref : String} {T : u_T} {N ci index : Nat} (G : GV l p s m args meth c y0 cc nL r0 g D sl A0) (hin : ∀ w ∈ u_ws C T N, w ∈ lw_ok) (ty0 : Nat → FieldType) (hty : ∀ k, k < N → parseFieldDescriptor (T k).2.2.1 = some (ty0 k)) (hnm : ∀ a, a < N → ∀ b, b < N → a ≠ b → (T a).2.1 ≠ (T b).2.1) (hP : va_P D CL ws H) (hD : va_D A0 ws) (hS : va_S A0 s.heap H locs) (q0 : Nat) {fs : List Value} (he : ws[q0]? = some (a, .inr (ci, fs))) (hc : CL[ci]? = some (C, T, N)) (k : Nat) (hk : k < N) (hlink : Cond.fieldLink y0.cls index ref (T k).2.1 (T k).2.2.1 ∈ lw_ok) (hsame : (T k).1 = ref) (hfin : (T k).2.2.2 = true) (hin2 : y0.name = "<init>") (hown : (T k).1 = y0.cls) {v : Value} (hn : narrow (ty0 k) v = v) (hfit : fits (ty0 k) v = true) (hl : k < fs.length)
    (hdg : decode cc pc = .ok (.putfield index, 3)) (kk : ∀ (H1 : Heap) (locs1 : List Loc), va_P D CL (ws.set q0 (a, .inr (ci, fs.set k v))) H1 → va_D A0 (ws.set q0 (a, .inr (ci, fs.set k v))) → va_S A0 s.heap H1 locs1 → W p l e R s m args below meth c H1 locs1 cells slots Q (F0 m (pc + 3) ls rest)) : W p l e R s m args below meth c H locs cells slots Q (F0 m pc ls (v :: .ref a :: rest)) :=
  va_putF G.1 G.2.1 G.2.2.2.2.2.1 hin ty0 hty hnm G.2.2.2.2.2.2.1 G.2.2.2.2.2.2.2.2.1 hP hD hS q0 he hc k hk (G.2.2.2.2.2.1 _ hlink) (fun x h => by rw [← hsame]; exact h) hfin (G.2.2.2.2.2.2.2.1.trans hin2) hown (hty k hk) hn hfit hl hdg kk
theorem kpN {C ref host : String} {T : u_T} {N ci index : Nat} (G : GV l p s m args meth c y0 cc nL r0 g D sl A0) (hin : ∀ w ∈ u_ws C T N, w ∈ lw_ok) (ty0 : Nat → FieldType) (hty : ∀ k, k < N → parseFieldDescriptor (T k).2.2.1 = some (ty0 k)) (hnm : ∀ a, a < N → ∀ b, b < N → a ≠ b → (T a).2.1 ≠ (T b).2.1) (hP : va_P D CL ws H) (hD : va_D A0 ws) (hS : va_S A0 s.heap H locs) (q0 : Nat) {fs : List Value} (he : ws[q0]? = some (a, .inr (ci, fs))) (hc : CL[ci]? = some (C, T, N)) (k : Nat) (hk : k < N) (hlink : Cond.fieldLinkNest y0.cls index ref (T k).2.1 (T k).2.2.1 host ∈ lw_nest) (hsame : (T k).1 = ref) (hfin : (T k).2.2.2 = false) {v : Value} (hn : narrow (ty0 k) v = v) (hfit : fits (ty0 k) v = true) (hl : k < fs.length)
    (hdg : decode cc pc = .ok (.putfield index, 3)) (kk : ∀ (H1 : Heap) (locs1 : List Loc), va_P D CL (ws.set q0 (a, .inr (ci, fs.set k v))) H1 → va_D A0 (ws.set q0 (a, .inr (ci, fs.set k v))) → va_S A0 s.heap H1 locs1 → W p l e R s m args below meth c H1 locs1 cells slots Q (F0 m (pc + 3) ls rest)) : W p l e R s m args below meth c H locs cells slots Q (F0 m pc ls (v :: .ref a :: rest)) :=
  va_putN G.1 G.2.1 G.2.2.2.2.2.1 hin ty0 hty hnm G.2.2.2.2.2.2.1 G.2.2.2.2.2.2.2.2.1 hP hD hS q0 he hc k hk (NB.use G.2.2.2.2.2.2.2.2.2.1 hlink rfl) (fun x h => by rw [← hsame]; exact h) hfin (hty k hk) hn hfit hl hdg kk
theorem kiald {cA : ClassId} {n i : Nat} {f : Nat → Int32} (G : GV l p s m args meth c y0 cc nL r0 g D sl A0) (hP : va_P D CL ws H) (q0 t0 : Nat) (ha : ws[q0]? = some (a, .inl (cA, n, .inl f))) (ht : (TY g)[t0]? = some (cA, .int)) (hi : i < n) (hn : n < 2 ^ 31) (hdg : decode cc pc = .ok (.iaload, 1))
    (kk : W p l e R s m args below meth c H locs cells slots Q (F0 m (pc + 1) ls (.int (f i) :: rest))) : W p l e R s m args below meth c H locs cells slots Q (F0 m pc ls (.int (nI i) :: .ref a :: rest)) := by
  refine va_iald G.1 G.2.1 G.2.2.2.2.2.2.2.2.1 hP q0 t0 ha ht (nI_inn hi hn) hdg ?_
  rw [nI_clamp (by omega)]
  exact kk
theorem kbald {cA : ClassId} {n i : Nat} {f : Nat → Int32} (G : GV l p s m args meth c y0 cc nL r0 g D sl A0) (hP : va_P D CL ws H) (q0 t0 : Nat) (ha : ws[q0]? = some (a, .inl (cA, n, .inl f))) (ht : (TY g)[t0]? = some (cA, .byte)) (hi : i < n) (hn : n < 2 ^ 31) (hdg : decode cc pc = .ok (.baload, 1))
    (kk : W p l e R s m args below meth c H locs cells slots Q (F0 m (pc + 1) ls (.int (f i) :: rest))) : W p l e R s m args below meth c H locs cells slots Q (F0 m pc ls (.int (nI i) :: .ref a :: rest)) := by
  refine va_bald G.1 G.2.1 G.2.2.2.2.2.2.2.2.1 hP q0 t0 ha ht (nI_inn hi hn) hdg ?_
  rw [nI_clamp (by omega)]
  exact kk
theorem kzald {cA : ClassId} {n i : Nat} {f : Nat → Int32} (G : GV l p s m args meth c y0 cc nL r0 g D sl A0) (hP : va_P D CL ws H) (q0 t0 : Nat) (ha : ws[q0]? = some (a, .inl (cA, n, .inl f))) (ht : (TY g)[t0]? = some (cA, .boolean)) (hi : i < n) (hn : n < 2 ^ 31) (hdg : decode cc pc = .ok (.baload, 1))
    (kk : W p l e R s m args below meth c H locs cells slots Q (F0 m (pc + 1) ls (.int (f i) :: rest))) : W p l e R s m args below meth c H locs cells slots Q (F0 m pc ls (.int (nI i) :: .ref a :: rest)) := by
  refine va_zald G.1 G.2.1 G.2.2.2.2.2.2.2.2.1 hP q0 t0 ha ht (nI_inn hi hn) hdg ?_
  rw [nI_clamp (by omega)]
  exact kk
theorem klald {cA : ClassId} {n i : Nat} {f : Nat → Int64} (G : GV l p s m args meth c y0 cc nL r0 g D sl A0) (hP : va_P D CL ws H) (q0 t0 : Nat) (ha : ws[q0]? = some (a, .inl (cA, n, .inr (.inl f)))) (ht : (TY g)[t0]? = some (cA, .long)) (hi : i < n) (hn : n < 2 ^ 31) (hdg : decode cc pc = .ok (.laload, 1))
    (kk : W p l e R s m args below meth c H locs cells slots Q (F0 m (pc + 1) ls (.long (f i) :: rest))) : W p l e R s m args below meth c H locs cells slots Q (F0 m pc ls (.int (nI i) :: .ref a :: rest)) := by
  refine va_lald G.1 G.2.1 G.2.2.2.2.2.2.2.2.1 hP q0 t0 ha ht (nI_inn hi hn) hdg ?_
  rw [nI_clamp (by omega)]
  exact kk
theorem kqald {cA : ClassId} {C : String} {n i : Nat} {f : Nat → Option Nat} (G : GV l p s m args meth c y0 cc nL r0 g D sl A0) (hP : va_P D CL ws H) (q0 t0 : Nat) (ha : ws[q0]? = some (a, .inl (cA, n, .inr (.inr (.inr (.inr f)))))) (ht : (TY g)[t0]? = some (cA, .object C)) (hi : i < n) (hn : n < 2 ^ 31) (hdg : decode cc pc = .ok (.aaload, 1))
    (kk : W p l e R s m args below meth c H locs cells slots Q (F0 m (pc + 1) ls (va_rf (f i) :: rest))) : W p l e R s m args below meth c H locs cells slots Q (F0 m pc ls (.int (nI i) :: .ref a :: rest)) := by
  refine va_aldq G.1 G.2.1 G.2.2.2.2.2.2.2.2.1 hP q0 t0 ha ht (nI_inn hi hn) hdg ?_
  rw [nI_clamp (by omega)]
  exact kk
theorem kiast {cA : ClassId} {n i : Nat} {f : Nat → Int32} {x : Int32} (G : GV l p s m args meth c y0 cc nL r0 g D sl A0) (hP : va_P D CL ws H) (hD : va_D A0 ws) (hS : va_S A0 s.heap H locs) (q0 t0 : Nat) (ha : ws[q0]? = some (a, .inl (cA, n, .inl f))) (ht : (TY g)[t0]? = some (cA, .int)) (hi : i < n) (hn : n < 2 ^ 31) (hdg : decode cc pc = .ok (.iastore, 1))
    (kk : ∀ (H1 : Heap) (locs1 : List Loc), va_P D CL (ws.set q0 (a, .inl (cA, n, .inl (upd f i x)))) H1 → va_D A0 (ws.set q0 (a, .inl (cA, n, .inl (upd f i x)))) → va_S A0 s.heap H1 locs1 → W p l e R s m args below meth c H1 locs1 cells slots Q (F0 m (pc + 1) ls rest)) : W p l e R s m args below meth c H locs cells slots Q (F0 m pc ls (.int x :: .int (nI i) :: .ref a :: rest)) := by
  refine va_iast G.1 G.2.1 G.2.2.2.2.2.2.2.2.1 hP hD hS q0 t0 ha ht (nI_inn hi hn) hdg ?_
  rw [nI_clamp (by omega)]
  exact kk
theorem kbast {cA : ClassId} {n i : Nat} {f : Nat → Int32} {x : Int32} (G : GV l p s m args meth c y0 cc nL r0 g D sl A0) (hP : va_P D CL ws H) (hD : va_D A0 ws) (hS : va_S A0 s.heap H locs) (q0 t0 : Nat) (ha : ws[q0]? = some (a, .inl (cA, n, .inl f))) (ht : (TY g)[t0]? = some (cA, .byte)) (hi : i < n) (hn : n < 2 ^ 31) (hdg : decode cc pc = .ok (.bastore, 1))
    (kk : ∀ (H1 : Heap) (locs1 : List Loc), va_P D CL (ws.set q0 (a, .inl (cA, n, .inl (upd f i (vp_nar .byte x))))) H1 → va_D A0 (ws.set q0 (a, .inl (cA, n, .inl (upd f i (vp_nar .byte x))))) → va_S A0 s.heap H1 locs1 → W p l e R s m args below meth c H1 locs1 cells slots Q (F0 m (pc + 1) ls rest)) : W p l e R s m args below meth c H locs cells slots Q (F0 m pc ls (.int x :: .int (nI i) :: .ref a :: rest)) := by
  refine va_bast G.1 G.2.1 G.2.2.2.2.2.2.2.2.1 hP hD hS q0 t0 ha ht (nI_inn hi hn) hdg ?_
  rw [nI_clamp (by omega)]
  exact kk
theorem kzast {cA : ClassId} {n i : Nat} {f : Nat → Int32} {x : Int32} (G : GV l p s m args meth c y0 cc nL r0 g D sl A0) (hP : va_P D CL ws H) (hD : va_D A0 ws) (hS : va_S A0 s.heap H locs) (q0 t0 : Nat) (ha : ws[q0]? = some (a, .inl (cA, n, .inl f))) (ht : (TY g)[t0]? = some (cA, .boolean)) (hi : i < n) (hn : n < 2 ^ 31) (hdg : decode cc pc = .ok (.bastore, 1))
    (kk : ∀ (H1 : Heap) (locs1 : List Loc), va_P D CL (ws.set q0 (a, .inl (cA, n, .inl (upd f i (vp_nar .boolean x))))) H1 → va_D A0 (ws.set q0 (a, .inl (cA, n, .inl (upd f i (vp_nar .boolean x))))) → va_S A0 s.heap H1 locs1 → W p l e R s m args below meth c H1 locs1 cells slots Q (F0 m (pc + 1) ls rest)) : W p l e R s m args below meth c H locs cells slots Q (F0 m pc ls (.int x :: .int (nI i) :: .ref a :: rest)) := by
  refine va_zast G.1 G.2.1 G.2.2.2.2.2.2.2.2.1 hP hD hS q0 t0 ha ht (nI_inn hi hn) hdg ?_
  rw [nI_clamp (by omega)]
  exact kk
theorem klast {cA : ClassId} {n i : Nat} {f : Nat → Int64} {x : Int64} (G : GV l p s m args meth c y0 cc nL r0 g D sl A0) (hP : va_P D CL ws H) (hD : va_D A0 ws) (hS : va_S A0 s.heap H locs) (q0 t0 : Nat) (ha : ws[q0]? = some (a, .inl (cA, n, .inr (.inl f)))) (ht : (TY g)[t0]? = some (cA, .long)) (hi : i < n) (hn : n < 2 ^ 31) (hdg : decode cc pc = .ok (.lastore, 1))
    (kk : ∀ (H1 : Heap) (locs1 : List Loc), va_P D CL (ws.set q0 (a, .inl (cA, n, .inr (.inl (vp_updL f i x))))) H1 → va_D A0 (ws.set q0 (a, .inl (cA, n, .inr (.inl (vp_updL f i x))))) → va_S A0 s.heap H1 locs1 → W p l e R s m args below meth c H1 locs1 cells slots Q (F0 m (pc + 1) ls rest)) : W p l e R s m args below meth c H locs cells slots Q (F0 m pc ls (.long x :: .int (nI i) :: .ref a :: rest)) := by
  refine va_last G.1 G.2.1 G.2.2.2.2.2.2.2.2.1 hP hD hS q0 t0 ha ht (nI_inn hi hn) hdg ?_
  rw [nI_clamp (by omega)]
  exact kk
theorem kqast {cA : ClassId} {r : vw_C} {n i v ci : Nat} {vs : List Value} {f : Nat → Option Nat} (G : GV l p s m args meth c y0 cc nL r0 g D sl A0) (hP : va_P D CL ws H) (hD : va_D A0 ws) (hS : va_S A0 s.heap H locs) (q0 t0 qk : Nat) (ha : ws[q0]? = some (a, .inl (cA, n, .inr (.inr (.inr (.inr f)))))) (hc : CL[ci]? = some r) (ht : (TY g)[t0]? = some (cA, .object r.1)) (hv : ws[qk]? = some (v, .inr (ci, vs))) (hi : i < n) (hn : n < 2 ^ 31) (hdg : decode cc pc = .ok (.aastore, 1))
    (kk : ∀ (H1 : Heap) (locs1 : List Loc), va_P D CL (ws.set q0 (a, .inl (cA, n, .inr (.inr (.inr (.inr (va_up f i (some v)))))))) H1 → va_D A0 (ws.set q0 (a, .inl (cA, n, .inr (.inr (.inr (.inr (va_up f i (some v)))))))) → va_S A0 s.heap H1 locs1 → W p l e R s m args below meth c H1 locs1 cells slots Q (F0 m (pc + 1) ls rest)) : W p l e R s m args below meth c H locs cells slots Q (F0 m pc ls (.ref v :: .int (nI i) :: .ref a :: rest)) := by
  refine va_astq G.1 G.2.1 G.2.2.2.2.2.2.2.2.1 hP hD hS q0 t0 qk ci ha ht hv hc (nI_inn hi hn) hdg ?_
  rw [nI_clamp (by omega)]
  exact kk
theorem kalen {cA : ClassId} {x : vp_A} {ty : FieldType} (G : GV l p s m args meth c y0 cc nL r0 g D sl A0) (hP : va_P D CL ws H) (q0 t0 : Nat) (ha : ws[q0]? = some (a, .inl (cA, x))) (ht : (TY g)[t0]? = some (cA, ty)) (hdg : decode cc pc = .ok (.arraylength, 1))
    (kk : W p l e R s m args below meth c H locs cells slots Q (F0 m (pc + 1) ls (.int (nI x.1) :: rest))) : W p l e R s m args below meth c H locs cells slots Q (F0 m pc ls (.ref a :: rest)) :=
  va_alen G.1 G.2.1 G.2.2.2.2.2.2.2.2.1 hP q0 t0 ha ht rfl hdg kk
theorem knew {C : String} {T : u_T} {N ci index : Nat} (G : GV l p s m args meth c y0 cc nL r0 g D sl A0) (hin : ∀ w ∈ u_ws C T N, w ∈ lw_ok) (ty : Nat → FieldType) (hty : ∀ k, k < N → parseFieldDescriptor (T k).2.2.1 = some (ty k)) (hcl : Cond.classLink y0.cls index C ∈ lw_ok) (hinst : Cond.instantiable C N ∈ lw_ok) (hini : Cond.initialized C ∈ lw_ok) (hP : va_P D CL ws H) (hD : va_D A0 ws) (hS : va_S A0 s.heap H locs) (hc : CL[ci]? = some (C, T, N)) {fs : List Value} (hfs : fs = (List.range N).map (fun j => defaultValue (ty j))) (hcells : cells + 1 ≤ R.cells) (hslots : slots + N ≤ R.slots) (hdg : decode cc pc = .ok (.new index, 3))
    (kk : ∀ (q : Nat) (H1 : Heap), va_P D CL (ws ++ [(q, .inr (ci, fs))]) H1 → va_D A0 (ws ++ [(q, .inr (ci, fs))]) → va_S A0 s.heap H1 locs → W p l e R s m args below meth c H1 locs (cells + 1) (slots + N) Q (F0 m (pc + 3) ls (.ref q :: rest))) : W p l e R s m args below meth c H locs cells slots Q (F0 m pc ls rest) :=
  va_new G.1 G.2.1 G.2.2.2.2.2.1 hin ty hty G.2.2.2.2.2.2.1 (G.2.2.2.2.2.1 _ hcl) (G.2.2.2.2.2.1 _ hinst) (G.2.2.2.2.2.1 _ hini) G.2.2.2.2.2.2.2.2.1 hP hD hS G.2.2.2.2.2.2.2.2.2.2.2 hc (fs := fs) (fun j hj => by rw [hfs]; simp [vp_V, List.getD, hj]) hcells hslots hdg kk
theorem kobj {idx : Nat} (G : GV l p s m args meth c y0 cc nL r0 g D sl A0) (hl : Cond.methodLink y0.cls idx Lib.objectInit ∈ lw_ok) (hi : Cond.instanceMethod Lib.objectInit ∈ lw_ok) (hcd : Cond.code Lib.objectInit ⟨#[0xb1]⟩ 1 none ∈ lw_ok) (hsz : ls.size = nL) (hdg : decode cc pc = .ok (.invokespecial idx, 3)) (hfr : 1 ≤ R.frames) (hlo : (rest.map fun v => v.category).sum + 12 ≤ R.locals)
    (kk : W p l e R s m args below meth c H locs cells slots Q (F0 m (pc + 3) ls rest)) : W p l e R s m args below meth c H locs cells slots Q (F0 m pc ls (.ref a :: rest)) :=
  W.objInit G.1 G.2.1 G.2.2.2.2.2.2.1 (G.2.2.2.2.2.1 _ hl) (G.2.2.2.2.2.1 _ hi) (G.2.2.2.2.2.1 _ hcd) rfl (by show ls.size = _; rw [hsz]; exact G.2.2.1.symm) rfl hdg hfr (by show 2 * 0 + _ + 12 ≤ _; omega) kk
end KF
theorem nI_z_eq {a : Nat} (h : a < 2 ^ 31) : nI a = 0 ↔ a = 0 := by rw [← nI_0]; exact nI_eq h (by decide)
theorem nI_z_gt {a : Nat} (h : a < 2 ^ 31) : 0 < nI a ↔ 0 < a := by rw [← nI_0]; exact nI_ltI (by decide) h
theorem nI_z_le {a : Nat} (h : a < 2 ^ 31) : nI a ≤ 0 ↔ a = 0 := by rw [← nI_0]; exact (nI_leI h (by decide)).trans (by omega)
