/-! Room that is told behind a call: what a method has made, not the most that it could make -/
def us (H : Heap) : Nat := H.foldl (fun n c => n + c.slots.size) 0
section US
variable {p : Program} {l : Launch} {e : Env} {R : Room} {s : State} {m : MethodId} {args : Array Value} {below : List Frame} {meth : Method} {c : Code} {H : Heap} {locs : List Loc} {cells slots : Nat} {Q : State → Prop}
theorem us_stand {T : State} (X : Stand p l e R s m args below meth c T locs cells slots) : us T.heap = us s.heap + ((T.heap.toList.drop s.heap.size).map (·.slots.size)).sum := by
  have h1 : T.slotsTrue = true := X.book
  have h0 : s.slotsTrue = true := by
    have h := X.room
    simp only [State.hasRoom, Bool.and_eq_true] at h
    exact h.2
  have e1 : T.slotsUsed = us T.heap := eq_of_beq h1
  have e0 : s.slotsUsed = us s.heap := eq_of_beq h0
  have h2 : T.slotsUsed = s.slotsUsed + ((T.heap.toList.drop s.heap.size).map (·.slots.size)).sum := X.same.2.2.2.1
  rw [← e1, ← e0]
  exact h2
theorem us_le {T : State} (X : Stand p l e R s m args below meth c T locs cells slots) : us T.heap ≤ us s.heap + slots := by
  rw [us_stand X]
  exact Nat.add_le_add_left X.same.2.2.2.2.1 _
/-- the counts told anew, out of the heap itself -/
theorem W.tight {g : JFrame} {k n : Nat} (h1 : H.size ≤ s.heap.size + k) (h2 : us H ≤ us s.heap + n) (kk : W p l e R s m args below meth c H locs k n Q g) : W p l e R s m args below meth c H locs cells slots Q g := by
  intro T hT X
  refine kk T hT { X with same := ?_ }
  obtain ⟨x1, x2, x3, x4, x5, x6⟩ := X.same
  refine ⟨x1, x2, ?_, x4, ?_, x6⟩
  · show T.heap.size ≤ s.heap.size + k
    rw [hT]; exact h1
  · have h3 := us_stand X
    show ((T.heap.toList.drop s.heap.size).map (·.slots.size)).sum ≤ n
    rw [hT] at h3 ⊢
    omega
/-- what has been made so far -/
theorem W.grown {g : JFrame} (kk : H.size ≤ s.heap.size + cells → us H ≤ us s.heap + slots → W p l e R s m args below meth c H locs cells slots Q g) : W p l e R s m args below meth c H locs cells slots Q g := by
  intro T hT X
  have h1 := X.heapSize
  have h2 := us_le X
  rw [hT] at h1 h2
  exact kk h1 h2 T hT X
end US
def PCu (g : Nat → ClassId) (D : va_G) (sl : List SL) (av : List Value) (sz uz : Nat) (ws : va_W) : Array Value → State → Prop :=
  va_Pc av (fun U => (U.heap.size = sz ∧ va_P D CL ws U.heap ∧ va_K D CL (TY g) U ∧ va_D (fun _ => True) ws ∧ NB U ∧ SX sl (va_A ws sz) U U.heap) ∧ us U.heap = uz)
theorem PCu.blind {g : Nat → ClassId} {D : va_G} {sl : List SL} {av : List Value} {sz uz : Nat} {ws : va_W} : FrameBlind (PCu g D sl av sz uz ws) := by
  intro a U gf mk q
  obtain ⟨q0, ⟨q1, qP, qK, qD, qN, qX⟩, qU⟩ := q
  exact ⟨q0, ⟨q1, qP, va_K.moved (u := U) (U := U.calling gf mk a) (Vm.Alike.refl U.vm) qK, qD, NB.same (u := U) (U := U.calling gf mk a) rfl qN, SX.same (s := U) (U := U.calling gf mk a) rfl qX⟩, qU⟩
theorem PCu.give {g : Nat → ClassId} {D : va_G} {sl sl' : List SL} {As : List Value} {s : State} {H : Heap} {locs : List Loc} {A : Nat → Prop} {ws wc : va_W} (hK : va_K D CL (TY g) s) (hN : NB s) (hX : SX sl A s s.heap) (hsl : ∀ x ∈ sl', x ∈ sl) (hP : va_P D CL ws H) (hD : va_D A ws) (hS : va_S A s.heap H locs) (hA : ∀ q, s.heap.size ≤ q → A q) (isC : List Nat) (hC : isC.map (fun i => ws[i]?) = wc.map some) (hnd : va_nd isC = true) :
    ∀ U : State, U.heap = H → s.WarmedH U.vm → PCu g D sl' As H.size (us H) wc As.toArray U := fun U hU hW =>
  have h := PC.give (As := As) hK hN hX hsl hP hD hS hA isC hC hnd U hU hW
  ⟨h.1, h.2, by rw [hU]⟩
/-- the world behind a method, and how much it has made: dc cells of ds slots -/
def QU {S : Type} (D : va_G) (A : Nat → Prop) (W' : S → va_W) (sz uz : Nat) (dc ds : S → Nat) : S → State → Prop := fun u t => (va_P D CL (W' u) t.heap ∧ va_D A (W' u)) ∧ t.heap.size ≤ sz + dc u ∧ us t.heap ≤ uz + ds u
theorem ofGu {l : Launch} {y : MethodName} {b : ByteArray} {nL : Nat} {r : Option FieldType} {rm : Room} {g : Nat → ClassId} {D : va_G} {sl : List SL} {av : List Value} {sz uz : Nat} {ws : va_W} {Qc : Array Value → State → Outcome → State → Prop} {mc ms : Nat} (hy : plainName y.cls = true) (hn : (lg_sl av).length ≤ nL)
    (body : ∀ (p : Program) (e : Env) (s : State) (m : MethodId) (args : Array Value) (below : List Frame) (meth : Method) (c : Code) (ls : Array Slot), p.tables.exec = Jvm.exec → c.code = b → c.maxLocals = nL → meth.sig.returnType = r → meth.locks = false → (∀ w ∈ lw_ok, w.before args s = true) → s.vm.findClass y.cls = some m.cls → meth.name = y.name → s.heap.size = sz → us s.heap = uz → va_K D CL (TY g) s → NB s → SX sl (va_A ws sz) s s.heap → va_P D CL ws s.heap → va_D (va_A ws sz) ws → lv_has ls nL (lv_args 0 av) →
      W p l e rm s m args below meth c s.heap [] 0 0 (MQ below Qc args s mc ms (va_A ws sz)) (F0 m 0 ls [])) :
    Met l y (mw y b nL r) rm (PCu g D sl av sz uz ws) Qc mc ms (va_A ws sz) := by
  refine Met.ofW (cc := b) (maxL := nL) (ret := r) hy rfl ?_
  intro p e s m args below meth c s₁ B hml hv
  obtain ⟨hargs, ⟨hsz, hP, hK, hD, hN, hX⟩, huz⟩ := hv
  have hts := atoms_spec (ws := mw y b nL r) B.pre
  have hent : entryFrame m args nL = F0 m 0 ((lg_sl av ++ List.replicate (nL - (lg_sl av).length) Slot.unset).toArray) [] := by
    rw [hargs]; exact lg_entry_eq m av nL
  rw [hent]
  exact body p e s m args below meth c _ B.exec B.bytes hml B.returns B.notSynchronized (fun w hw => hts w (List.mem_cons_of_mem _ hw)) (findClass_of_methodNamed B.named) (name_of_methodNamed B.named B.method).1 hsz huz hK hN hX hP hD.self (lv_entry av hn)
theorem ofIu {S : Type} {l : Launch} {y : MethodName} {b : ByteArray} {nL : Nat} {rm : Room} {g : Nat → ClassId} {D : va_G} {sl : List SL} {av : List Value} {sz uz : Nat} {ws : va_W} {post : Int32 → S → Prop} {W' : S → va_W} {dc ds : S → Nat} {mc ms : Nat} (hy : plainName y.cls = true) (hn : (lg_sl av).length ≤ nL)
    (body : ∀ (p : Program) (e : Env) (s : State) (m : MethodId) (args : Array Value) (below : List Frame) (meth : Method) (c : Code) (A : Nat → Prop) (Q : State → Prop) (ls : Array Slot) (H : Heap) (locs : List Loc), GV l p s m args meth c y b nL (some .int) g D sl A → s.heap.size = sz → va_P D CL ws H → va_D A ws → va_S A s.heap H locs → lv_has ls nL (lv_args 0 av) →
      (∀ (v : Int32) (u : S) (H : Heap) (locs : List Loc) (k n pc : Nat) (ls : Array Slot), post v u → va_P D CL (W' u) H → va_D A (W' u) → va_S A s.heap H locs → k ≤ dc u → n ≤ ds u → dc u ≤ mc → ds u ≤ ms → decode b pc = .ok (.ireturn, 1) → W p l e rm s m args below meth c H locs k n Q (F0 m pc ls [.int v])) →
      W p l e rm s m args below meth c H locs 0 0 Q (F0 m 0 ls [])) :
    Met l y (mw y b nL (some .int)) rm (PCu g D sl av sz uz ws) (va_Qi post (QU D (va_A ws sz) W' sz uz dc ds) (va_A ws sz)) mc ms (va_A ws sz) := by
  refine ofGu hy hn ?_
  intro p e s m args below meth c ls hx hb hml hr hlk ht hown hin hsz huz hK hN hX hP hD hl
  refine body p e s m args below meth c (va_A ws sz) _ ls s.heap [] ⟨hx, hb, hml, hr, hlk, ht, hown, hin, hK, hN, hX, fun q h => Or.inr (by rw [← hsz]; exact h)⟩ hsz hP hD va_S.rf hl ?_
  intro v u H locs k n pc ls hpost hP1 hD1 hS1 hk hn1 hmc hms hdg
  refine W.widen hk hn1 ?_
  refine W.grown (fun e1 e2 => ?_)
  refine W.widen hmc hms ?_
  exact W.iret hx hb hr (fun t ht hW => ⟨⟨v, u, rfl, hpost, ⟨by rw [ht]; exact hP1, hD1⟩, by rw [ht, ← hsz]; exact e1, by rw [ht, ← huz]; exact e2⟩, hS1.F ht⟩) hS1.2.2 hdg hlk
theorem ofZu {S : Type} {l : Launch} {y : MethodName} {b : ByteArray} {nL : Nat} {rm : Room} {g : Nat → ClassId} {D : va_G} {sl : List SL} {av : List Value} {sz uz : Nat} {ws : va_W} {post : Int32 → S → Prop} {W' : S → va_W} {dc ds : S → Nat} {mc ms : Nat} {ty : FieldType} (hy : plainName y.cls = true) (hn : (lg_sl av).length ≤ nL)
    (body : ∀ (p : Program) (e : Env) (s : State) (m : MethodId) (args : Array Value) (below : List Frame) (meth : Method) (c : Code) (A : Nat → Prop) (Q : State → Prop) (ls : Array Slot) (H : Heap) (locs : List Loc), GV l p s m args meth c y b nL (some ty) g D sl A → s.heap.size = sz → va_P D CL ws H → va_D A ws → va_S A s.heap H locs → lv_has ls nL (lv_args 0 av) →
      (∀ (v : Int32) (u : S) (H : Heap) (locs : List Loc) (k n pc : Nat) (ls : Array Slot), narrow ty (.int v) = .int v → post v u → va_P D CL (W' u) H → va_D A (W' u) → va_S A s.heap H locs → k ≤ dc u → n ≤ ds u → dc u ≤ mc → ds u ≤ ms → decode b pc = .ok (.ireturn, 1) → W p l e rm s m args below meth c H locs k n Q (F0 m pc ls [.int v])) →
      W p l e rm s m args below meth c H locs 0 0 Q (F0 m 0 ls [])) :
    Met l y (mw y b nL (some ty)) rm (PCu g D sl av sz uz ws) (va_Qi post (QU D (va_A ws sz) W' sz uz dc ds) (va_A ws sz)) mc ms (va_A ws sz) := by
  refine ofGu hy hn ?_
  intro p e s m args below meth c ls hx hb hml hr hlk ht hown hin hsz huz hK hN hX hP hD hl
  refine body p e s m args below meth c (va_A ws sz) _ ls s.heap [] ⟨hx, hb, hml, hr, hlk, ht, hown, hin, hK, hN, hX, fun q h => Or.inr (by rw [← hsz]; exact h)⟩ hsz hP hD va_S.rf hl ?_
  intro v u H locs k n pc ls hv9 hpost hP1 hD1 hS1 hk hn1 hmc hms hdg
  refine W.widen hk hn1 ?_
  refine W.grown (fun e1 e2 => ?_)
  refine W.widen hmc hms ?_
  exact W.zret hx hb hr hv9 (fun t ht hW => ⟨⟨v, u, rfl, hpost, ⟨by rw [ht]; exact hP1, hD1⟩, by rw [ht, ← hsz]; exact e1, by rw [ht, ← huz]; exact e2⟩, hS1.F ht⟩) hS1.2.2 hdg hlk
theorem ofVu {S : Type} {l : Launch} {y : MethodName} {b : ByteArray} {nL : Nat} {rm : Room} {g : Nat → ClassId} {D : va_G} {sl : List SL} {av : List Value} {sz uz : Nat} {ws : va_W} {post : S → Prop} {W' : S → va_W} {dc ds : S → Nat} {mc ms : Nat} (hy : plainName y.cls = true) (hn : (lg_sl av).length ≤ nL)
    (body : ∀ (p : Program) (e : Env) (s : State) (m : MethodId) (args : Array Value) (below : List Frame) (meth : Method) (c : Code) (A : Nat → Prop) (Q : State → Prop) (ls : Array Slot) (H : Heap) (locs : List Loc), GV l p s m args meth c y b nL none g D sl A → s.heap.size = sz → va_P D CL ws H → va_D A ws → va_S A s.heap H locs → lv_has ls nL (lv_args 0 av) →
      (∀ (u : S) (H : Heap) (locs : List Loc) (k n pc : Nat) (ls : Array Slot), post u → va_P D CL (W' u) H → va_D A (W' u) → va_S A s.heap H locs → k ≤ dc u → n ≤ ds u → dc u ≤ mc → ds u ≤ ms → decode b pc = .ok (.return_, 1) → W p l e rm s m args below meth c H locs k n Q (F0 m pc ls [])) →
      W p l e rm s m args below meth c H locs 0 0 Q (F0 m 0 ls [])) :
    Met l y (mw y b nL none) rm (PCu g D sl av sz uz ws) (va_Qv post (QU D (va_A ws sz) W' sz uz dc ds) (va_A ws sz)) mc ms (va_A ws sz) := by
  refine ofGu hy hn ?_
  intro p e s m args below meth c ls hx hb hml hr hlk ht hown hin hsz huz hK hN hX hP hD hl
  refine body p e s m args below meth c (va_A ws sz) _ ls s.heap [] ⟨hx, hb, hml, hr, hlk, ht, hown, hin, hK, hN, hX, fun q h => Or.inr (by rw [← hsz]; exact h)⟩ hsz hP hD va_S.rf hl ?_
  intro u H locs k n pc ls hpost hP1 hD1 hS1 hk hn1 hmc hms hdg
  refine W.widen hk hn1 ?_
  refine W.grown (fun e1 e2 => ?_)
  refine W.widen hmc hms ?_
  exact W.vret hx hb hr (fun t ht hW => ⟨⟨u, rfl, hpost, ⟨by rw [ht]; exact hP1, hD1⟩, by rw [ht, ← hsz]; exact e1, by rw [ht, ← huz]; exact e2⟩, hS1.F ht⟩) hS1.2.2 hdg hlk
theorem ofLu {S : Type} {l : Launch} {y : MethodName} {b : ByteArray} {nL : Nat} {rm : Room} {g : Nat → ClassId} {D : va_G} {sl : List SL} {av : List Value} {sz uz : Nat} {ws : va_W} {post : Int64 → S → Prop} {W' : S → va_W} {dc ds : S → Nat} {mc ms : Nat} (hy : plainName y.cls = true) (hn : (lg_sl av).length ≤ nL)
    (body : ∀ (p : Program) (e : Env) (s : State) (m : MethodId) (args : Array Value) (below : List Frame) (meth : Method) (c : Code) (A : Nat → Prop) (Q : State → Prop) (ls : Array Slot) (H : Heap) (locs : List Loc), GV l p s m args meth c y b nL (some .long) g D sl A → s.heap.size = sz → va_P D CL ws H → va_D A ws → va_S A s.heap H locs → lv_has ls nL (lv_args 0 av) →
      (∀ (v : Int64) (u : S) (H : Heap) (locs : List Loc) (k n pc : Nat) (ls : Array Slot), post v u → va_P D CL (W' u) H → va_D A (W' u) → va_S A s.heap H locs → k ≤ dc u → n ≤ ds u → dc u ≤ mc → ds u ≤ ms → decode b pc = .ok (.lreturn, 1) → W p l e rm s m args below meth c H locs k n Q (F0 m pc ls [.long v])) →
      W p l e rm s m args below meth c H locs 0 0 Q (F0 m 0 ls [])) :
    Met l y (mw y b nL (some .long)) rm (PCu g D sl av sz uz ws) (va_Ql post (QU D (va_A ws sz) W' sz uz dc ds) (va_A ws sz)) mc ms (va_A ws sz) := by
  refine ofGu hy hn ?_
  intro p e s m args below meth c ls hx hb hml hr hlk ht hown hin hsz huz hK hN hX hP hD hl
  refine body p e s m args below meth c (va_A ws sz) _ ls s.heap [] ⟨hx, hb, hml, hr, hlk, ht, hown, hin, hK, hN, hX, fun q h => Or.inr (by rw [← hsz]; exact h)⟩ hsz hP hD va_S.rf hl ?_
  intro v u H locs k n pc ls hpost hP1 hD1 hS1 hk hn1 hmc hms hdg
  refine W.widen hk hn1 ?_
  refine W.grown (fun e1 e2 => ?_)
  refine W.widen hmc hms ?_
  exact W.lret hx hb hr (fun t ht hW => ⟨⟨v, u, rfl, hpost, ⟨by rw [ht]; exact hP1, hD1⟩, by rw [ht, ← hsz]; exact e1, by rw [ht, ← huz]; exact e2⟩, hS1.F ht⟩) hS1.2.2 hdg hlk
section KUC
variable {p : Program} {l : Launch} {e : Env} {R : Room} {s : State} {m : MethodId} {args : Array Value} {below : List Frame} {meth : Method} {c : Code} {H : Heap} {locs : List Loc} {cells slots : Nat} {Q : State → Prop}
variable {cc : ByteArray} {pc nL : Nat} {ls : Array Slot} {rest st : List Value} {A0 : Nat → Prop} {y y0 : MethodName} {bytes : ByteArray} {maxL index mc ms : Nat} {ret r0 : Option FieldType} {rm : Room} {g : Nat → ClassId} {D : va_G} {sl sl' : List SL} {b : Nat} {As : List Value} {ws wc wr : va_W} {own C : String} {Qc : Array Value → State → Outcome → State → Prop}
theorem kVu {n : Nat} (G : GV l p s m args meth c y0 cc nL r0 g D sl A0) (hP : va_P D CL ws H) (hD : va_D A0 ws) (hS : va_S A0 s.heap H locs) (isC : List Nat) (hC : isC.map (fun i => ws[i]?) = wc.map some) (hnd : va_nd isC = true)
    (hM : Met l y (mw y bytes maxL ret) rm (PCu g D sl' (.ref b :: As) H.size (us H) wc) Qc mc ms (va_A wc H.size)) (w : CWv y bytes maxL ret n ∧ Cond.instanceMethod y ∈ lw_ok ∧ Cond.selects y.cls y y ∈ lw_ok) (hl : Cond.methodLink y0.cls index y ∈ lw_ok) (hrc : rm.cells = mc) (hrs : rm.slots = ms) (hR : rm.frames + 1 ≤ R.frames ∧ 8 + (maxL + 11) + rm.locals ≤ R.locals) (hsl : ∀ x ∈ sl', x ∈ sl)
    (q0 : Nat) {ci : Nat} {q : vw_C} {fs : List Value} (hc : CL[ci]? = some q) (hqc : q.1 = y.cls) (he : ws[q0]? = some (b, .inr (ci, fs))) (hsz : ls.size = nL) (hst : st = As.reverse ++ .ref b :: rest) (hroom : (rest.map fun v => v.category).sum ≤ 8) (hn : As.length = n) (hf : cells + mc ≤ R.cells ∧ slots + ms ≤ R.slots) (hdg : decode cc pc = .ok (.invokevirtual index, 3)) :
    va_Run p l e R s m args below meth c H locs cells slots mc ms (F0 m pc ls st) rest (Qc (Value.ref b :: As).toArray) (va_A wc H.size) := by
  obtain ⟨hx, hb, hml, hr, hlk, ht, hown, hin, hK, hN, hX, hA⟩ := G
  refine va_runV (C := y.cls) ⟨hx, hb, hml, hown, ht⟩ hM ⟨w.1.B ht hl hrc hrs hR, ht _ w.2.1, ht _ w.2.2⟩ ⟨PCu.blind, ?_, PCu.give hK hN hX hsl hP hD hS hA isC hC hnd⟩ rfl hn hsz hst (lv_room hroom) hdg hf
  rw [← hqc]; exact va_recv hK hP hc he
theorem kSu {n : Nat} (G : GV l p s m args meth c y0 cc nL r0 g D sl A0) (hP : va_P D CL ws H) (hD : va_D A0 ws) (hS : va_S A0 s.heap H locs) (isC : List Nat) (hC : isC.map (fun i => ws[i]?) = wc.map some) (hnd : va_nd isC = true)
    (hM : Met l y (mw y bytes maxL ret) rm (PCu g D sl' As H.size (us H) wc) Qc mc ms (va_A wc H.size)) (w : CWv y bytes maxL ret n ∧ Cond.static y ∈ lw_ok) (hl : Cond.methodLink y0.cls index y ∈ lw_ok) (hrc : rm.cells = mc) (hrs : rm.slots = ms) (hR : rm.frames + 1 ≤ R.frames ∧ 8 + (maxL + 11) + rm.locals ≤ R.locals) (hsl : ∀ x ∈ sl', x ∈ sl)
    (hsz : ls.size = nL) (hst : st = As.reverse ++ rest) (hroom : (rest.map fun v => v.category).sum ≤ 8) (hn : As.length = n) (hf : cells + mc ≤ R.cells ∧ slots + ms ≤ R.slots) (hdg : decode cc pc = .ok (.invokestatic index, 3)) :
    va_Run p l e R s m args below meth c H locs cells slots mc ms (F0 m pc ls st) rest (Qc As.toArray) (va_A wc H.size) := by
  obtain ⟨hx, hb, hml, hr, hlk, ht, hown, hin, hK, hN, hX, hA⟩ := G
  exact va_runS ⟨hx, hb, hml, hown, ht⟩ hM ⟨w.1.B ht hl hrc hrs hR, ht _ w.2⟩ ⟨PCu.blind, PCu.give hK hN hX hsl hP hD hS hA isC hC hnd⟩ rfl hn hsz hst (lv_room hroom) hdg hf
end KUC
section KUE
variable {p : Program} {l : Launch} {e : Env} {R : Room} {s : State} {m : MethodId} {args : Array Value} {below : List Frame} {meth : Method} {c : Code} {H : Heap} {locs : List Loc} {cells slots : Nat} {Q : State → Prop}
variable {pc : Nat} {ls : Array Slot} {rest st : List Value} {A0 : Nat → Prop} {mc ms : Nat} {D : va_G} {ws wc wr : va_W} {a : Array Value} {y0 : MethodName} {cc : ByteArray} {nL : Nat} {r0 : Option FieldType} {g : Nat → ClassId} {sl : List SL}
theorem kEiu {S : Type} {post : Int32 → S → Prop} {W' : S → va_W} {dc ds : S → Nat} (G : GV l p s m args meth c y0 cc nL r0 g D sl A0) (hr : va_Run p l e R s m args below meth c H locs cells slots mc ms (F0 m pc ls st) rest (va_Qi post (QU D (va_A wc H.size) W' H.size (us H) dc ds) (va_A wc H.size) a) (va_A wc H.size)) (hP : va_P D CL ws H) (hD : va_D A0 ws) (hS : va_S A0 s.heap H locs) (isC isR : List Nat) (hC : isC.map (fun i => ws[i]?) = wc.map some) (hR : isR.map (fun i => ws[i]?) = wr.map some) (hn : va_nd isR = true) (hdis : isR.all (fun i => !isC.contains i) = true)
    (kk : ∀ (r : Int32) (u : S) (H1 : Heap) (locs1 : List Loc), post r u → va_P D CL (wr ++ W' u) H1 → va_D A0 (wr ++ W' u) → va_S A0 s.heap H1 locs1 → H.size ≤ H1.size → W p l e R s m args below meth c H1 locs1 (cells + dc u) (slots + ds u) Q (F0 m (pc + 3) ls (.int r :: rest))) : W p l e R s m args below meth c H locs cells slots Q (F0 m pc ls st) := by
  have hF := va_free hD hS G.2.2.2.2.2.2.2.2.2.2.2 isC hC
  refine W.grown (fun e1 e2 => ?_)
  refine va_calli hr hS (fun q _ h => hF q h) hF (fun r u t H1 locs1 ht hvm hw hB hz hk hS1 => ?_)
  obtain ⟨⟨hP1, hD1⟩, hg1, hg2⟩ := hB
  rw [ht] at hP1 hg1 hg2
  have hdis' : ∀ i ∈ isR, i ∉ isC := fun i hi hc => by
    have h1 := List.all_eq_true.mp hdis i hi
    rw [List.contains_iff_mem.mpr hc] at h1
    exact absurd h1 (by decide)
  obtain ⟨hP2, hD2⟩ := va_join hP hD isC isR hC hR hn hdis' hk hF hP1 hD1
  refine W.tight (k := cells + dc u) (n := slots + ds u) (by omega) (by omega) ?_
  exact kk r u H1 locs1 hw hP2 hD2 hS1 hz
theorem kEvu {S : Type} {post : S → Prop} {W' : S → va_W} {dc ds : S → Nat} (G : GV l p s m args meth c y0 cc nL r0 g D sl A0) (hr : va_Run p l e R s m args below meth c H locs cells slots mc ms (F0 m pc ls st) rest (va_Qv post (QU D (va_A wc H.size) W' H.size (us H) dc ds) (va_A wc H.size) a) (va_A wc H.size)) (hP : va_P D CL ws H) (hD : va_D A0 ws) (hS : va_S A0 s.heap H locs) (isC isR : List Nat) (hC : isC.map (fun i => ws[i]?) = wc.map some) (hR : isR.map (fun i => ws[i]?) = wr.map some) (hn : va_nd isR = true) (hdis : isR.all (fun i => !isC.contains i) = true)
    (kk : ∀ (u : S) (H1 : Heap) (locs1 : List Loc), post u → va_P D CL (wr ++ W' u) H1 → va_D A0 (wr ++ W' u) → va_S A0 s.heap H1 locs1 → H.size ≤ H1.size → W p l e R s m args below meth c H1 locs1 (cells + dc u) (slots + ds u) Q (F0 m (pc + 3) ls (rest))) : W p l e R s m args below meth c H locs cells slots Q (F0 m pc ls st) := by
  have hF := va_free hD hS G.2.2.2.2.2.2.2.2.2.2.2 isC hC
  refine W.grown (fun e1 e2 => ?_)
  refine va_callv hr hS (fun q _ h => hF q h) hF (fun u t H1 locs1 ht hvm hw hB hz hk hS1 => ?_)
  obtain ⟨⟨hP1, hD1⟩, hg1, hg2⟩ := hB
  rw [ht] at hP1 hg1 hg2
  have hdis' : ∀ i ∈ isR, i ∉ isC := fun i hi hc => by
    have h1 := List.all_eq_true.mp hdis i hi
    rw [List.contains_iff_mem.mpr hc] at h1
    exact absurd h1 (by decide)
  obtain ⟨hP2, hD2⟩ := va_join hP hD isC isR hC hR hn hdis' hk hF hP1 hD1
  refine W.tight (k := cells + dc u) (n := slots + ds u) (by omega) (by omega) ?_
  exact kk u H1 locs1 hw hP2 hD2 hS1 hz
theorem kElu {S : Type} {post : Int64 → S → Prop} {W' : S → va_W} {dc ds : S → Nat} (G : GV l p s m args meth c y0 cc nL r0 g D sl A0) (hr : va_Run p l e R s m args below meth c H locs cells slots mc ms (F0 m pc ls st) rest (va_Ql post (QU D (va_A wc H.size) W' H.size (us H) dc ds) (va_A wc H.size) a) (va_A wc H.size)) (hP : va_P D CL ws H) (hD : va_D A0 ws) (hS : va_S A0 s.heap H locs) (isC isR : List Nat) (hC : isC.map (fun i => ws[i]?) = wc.map some) (hR : isR.map (fun i => ws[i]?) = wr.map some) (hn : va_nd isR = true) (hdis : isR.all (fun i => !isC.contains i) = true)
    (kk : ∀ (r : Int64) (u : S) (H1 : Heap) (locs1 : List Loc), post r u → va_P D CL (wr ++ W' u) H1 → va_D A0 (wr ++ W' u) → va_S A0 s.heap H1 locs1 → H.size ≤ H1.size → W p l e R s m args below meth c H1 locs1 (cells + dc u) (slots + ds u) Q (F0 m (pc + 3) ls (.long r :: rest))) : W p l e R s m args below meth c H locs cells slots Q (F0 m pc ls st) := by
  have hF := va_free hD hS G.2.2.2.2.2.2.2.2.2.2.2 isC hC
  refine W.grown (fun e1 e2 => ?_)
  refine va_calll hr hS (fun q _ h => hF q h) hF (fun r u t H1 locs1 ht hvm hw hB hz hk hS1 => ?_)
  obtain ⟨⟨hP1, hD1⟩, hg1, hg2⟩ := hB
  rw [ht] at hP1 hg1 hg2
  have hdis' : ∀ i ∈ isR, i ∉ isC := fun i hi hc => by
    have h1 := List.all_eq_true.mp hdis i hi
    rw [List.contains_iff_mem.mpr hc] at h1
    exact absurd h1 (by decide)
  obtain ⟨hP2, hD2⟩ := va_join hP hD isC isR hC hR hn hdis' hk hF hP1 hD1
  refine W.tight (k := cells + dc u) (n := slots + ds u) (by omega) (by omega) ?_
  exact kk r u H1 locs1 hw hP2 hD2 hS1 hz
end KUE

def y_Ja_copyOf : MethodName := ⟨"java/util/Arrays", "copyOf", "([II)[I"⟩
abbrev b_Ja_copyOf : ByteArray := prog_27_method_123_code
theorem q483 : Cond.methodLink "java/util/Arrays" 304 Lib.Math.min.name ∈ lw_ok := lw_okmem (List.mem_of_getElem? (i := 483) (by decide +kernel)) rfl
theorem q484 : Cond.static Lib.Math.min.name ∈ lw_ok := lw_okmem (List.mem_of_getElem? (i := 484) (by decide +kernel)) rfl
theorem q337 : Cond.initialized "java/lang/Math" ∈ lw_ok := lw_okmem (List.mem_of_getElem? (i := 337) (by decide +kernel)) rfl
theorem q485 : Cond.code Lib.Math.min.name Lib.Math.min.code 2 (some .int) ∈ lw_ok := lw_okmem (List.mem_of_getElem? (i := 485) (by decide +kernel)) rfl
theorem q486 : Cond.methodLink "java/util/Arrays" 150 arraycopyName ∈ lw_ok := lw_okmem (List.mem_of_getElem? (i := 486) (by decide +kernel)) rfl
theorem q488 : Cond.native arraycopyName ∈ lw_ok := lw_okmem (List.mem_of_getElem? (i := 488) (by decide +kernel)) rfl
theorem q487 : Cond.static arraycopyName ∈ lw_ok := lw_okmem (List.mem_of_getElem? (i := 487) (by decide +kernel)) rfl
theorem q338 : Cond.initialized "java/lang/System" ∈ lw_ok := lw_okmem (List.mem_of_getElem? (i := 338) (by decide +kernel)) rfl
theorem d_Ja_copyOf_0 : decode b_Ja_copyOf 0 = .ok (.iload_n 1, 1) := by decide +kernel
theorem d_Ja_copyOf_1 : decode b_Ja_copyOf 1 = .ok (.aload_n 0, 1) := by decide +kernel
theorem d_Ja_copyOf_2 : decode b_Ja_copyOf 2 = .ok (.arraylength, 1) := by decide +kernel
theorem d_Ja_copyOf_3 : decode b_Ja_copyOf 3 = .ok (.if_icmp .ne 11, 3) := by decide +kernel
theorem d_Ja_copyOf_14 : decode b_Ja_copyOf 14 = .ok (.iload_n 1, 1) := by decide +kernel
theorem d_Ja_copyOf_15 : decode b_Ja_copyOf 15 = .ok (.newarray .int, 2) := by decide +kernel
theorem d_Ja_copyOf_17 : decode b_Ja_copyOf 17 = .ok (.astore_n 2, 1) := by decide +kernel
theorem d_Ja_copyOf_18 : decode b_Ja_copyOf 18 = .ok (.aload_n 0, 1) := by decide +kernel
theorem d_Ja_copyOf_19 : decode b_Ja_copyOf 19 = .ok (.iconst 0, 1) := by decide +kernel
theorem d_Ja_copyOf_20 : decode b_Ja_copyOf 20 = .ok (.aload_n 2, 1) := by decide +kernel
theorem d_Ja_copyOf_21 : decode b_Ja_copyOf 21 = .ok (.iconst 0, 1) := by decide +kernel
theorem d_Ja_copyOf_22 : decode b_Ja_copyOf 22 = .ok (.aload_n 0, 1) := by decide +kernel
theorem d_Ja_copyOf_23 : decode b_Ja_copyOf 23 = .ok (.arraylength, 1) := by decide +kernel
theorem d_Ja_copyOf_24 : decode b_Ja_copyOf 24 = .ok (.iload_n 1, 1) := by decide +kernel
theorem d_Ja_copyOf_25 : decode b_Ja_copyOf 25 = .ok (.invokestatic 304, 3) := by decide +kernel
theorem d_Ja_copyOf_28 : decode b_Ja_copyOf 28 = .ok (.invokestatic 150, 3) := by decide +kernel
theorem d_Ja_copyOf_31 : decode b_Ja_copyOf 31 = .ok (.aload_n 2, 1) := by decide +kernel
theorem d_Ja_copyOf_32 : decode b_Ja_copyOf 32 = .ok (.areturn, 1) := by decide +kernel
abbrev rm_Ja_copyOf (t : Nat) : Room := { frames := 1, cells := 1, slots := t, locals := 120 }
set_option maxHeartbeats 4000000 in
set_option maxRecDepth 100000 in
/-- copyOf to a larger row -/
theorem c_Ja_copyOf (l : Launch) (D : va_G) (g : Nat → ClassId) (q n t : Nat) (f : Nat → Int32) (sz : Nat) (hn : n < t) (ht : t < 2 ^ 27) : Met l y_Ja_copyOf (mw y_Ja_copyOf b_Ja_copyOf 3 (some ((.array .int)))) (rm_Ja_copyOf t) (PC g D [] [.ref q, .int (nI t)] sz [(q, .inl (g 0, n, .inl f))]) (va_Qq (fun (r : Option Nat) (u : Nat) => r = some u) (QW D (va_A [(q, .inl (g 0, n, .inl f))] sz) (fun u : Nat => [(q, .inl (g 0, n, .inl f)), (u, .inl (g 0, t, .inl (va_cpy f (fun _ => nI 0) 0 0 n)))])) (va_A [(q, .inl (g 0, n, .inl f))] sz)) 1 t (va_A [(q, .inl (g 0, n, .inl f))] sz) := by
  refine ofQ (Or.inr ⟨_, rfl⟩) (by decide +kernel) (Nat.le_of_ble_eq_true rfl) ?_
  intro p e s m args below meth c A Q ls H locs G hsz hP hD hS hl hret
  subst hsz
  have hl : lv_has ls 3 [(0, .ref q), (1, .int (nI t))] := hl
  refine lv_iload_n G.1 G.2.1 d_Ja_copyOf_0 rfl (lv_at hl 1 rfl) ?_
  refine lv_aload_n G.1 G.2.1 d_Ja_copyOf_1 rfl (lv_at hl 0 rfl) ?_
  refine kalen G hP 0 0 rfl rfl d_Ja_copyOf_2 ?_
  refine tpi (w := nI n) rfl ?_
  refine lv_icmp_ne (tgt := 14) G.1 G.2.1 d_Ja_copyOf_3 (by decide) (fun c3 => ?_) (fun c3 => absurd c3 (fun h => absurd ((nI_eq (by omega) (by omega)).mp h) (by omega)))
  have c3 : ¬ (t = n) := fun h => c3 ((nI_eq (by omega) (by omega)).mpr h)
  refine lv_iload_n G.1 G.2.1 d_Ja_copyOf_14 rfl (lv_at hl 1 rfl) ?_
  refine kNew (ty := .int) (N' := t) (a0 := (t, .inl (fun _ => nI 0))) G q404 rfl (fun _ h => h) 0 rfl hP hD hS (fun _ => rfl) (nI_pos (by omega)) (nI_clamp (by omega)) (by show _ * 4 ≤ _; omega) (Nat.le_of_ble_eq_true rfl) (by show _ ≤ t; omega) d_Ja_copyOf_15 (fun q_1 H hP hD hS => ?_)
  have hP : va_P D CL [(q, .inl (g 0, n, .inl f)), (q_1, .inl (g 0, t, .inl (fun _ => nI 0)))] H := hP
  have hD : va_D A [(q, .inl (g 0, n, .inl f)), (q_1, .inl (g 0, t, .inl (fun _ => nI 0)))] := hD
  refine W.widen (k := 1) (n := t) (by omega) (by omega) ?_
  refine lv_astore_n (lv' := [(2, .ref q_1), (0, .ref q), (1, .int (nI t))]) G.1 G.2.1 d_Ja_copyOf_17 rfl hl (by decide) rfl (fun ls hl => ?_)
  refine lv_aload_n G.1 G.2.1 d_Ja_copyOf_18 rfl (lv_at hl 1 rfl) ?_
  refine lv_iconst (v := nI 0) G.1 G.2.1 d_Ja_copyOf_19 (by decide) ?_
  refine lv_aload_n G.1 G.2.1 d_Ja_copyOf_20 rfl (lv_at hl 0 rfl) ?_
  refine lv_iconst (v := nI 0) G.1 G.2.1 d_Ja_copyOf_21 (by decide) ?_
  refine W.eq (g2 := F0 m 22 ls [.int (nI 0), .ref q_1, .int (nI 0), .ref q]) rfl ?_
  refine lv_aload_n G.1 G.2.1 d_Ja_copyOf_22 rfl (lv_at hl 1 rfl) ?_
  refine kalen G hP 0 0 rfl rfl d_Ja_copyOf_23 ?_
  refine tpi (w := nI n) rfl ?_
  refine lv_iload_n G.1 G.2.1 d_Ja_copyOf_24 rfl (lv_at hl 2 rfl) ?_
  refine va_mmin G.1 G.2.1 (G.2.2.1.trans hl.1.symm) G.2.2.2.2.2.2.1 (G.2.2.2.2.2.1 _ q483) (G.2.2.2.2.2.1 _ q484) (G.2.2.2.2.2.1 _ q337) (G.2.2.2.2.2.1 _ q485) (Nat.le_of_ble_eq_true rfl) (Nat.le_of_ble_eq_true rfl) (Nat.le_of_ble_eq_true rfl) (by show _ ≤ t; omega) d_Ja_copyOf_25 ?_
  refine tpi (w := nI n) (if_neg (fun h => absurd ((nI_ltI (by omega) (by omega)).mp h) (by omega))) ?_
  refine va_copyi (ty := .int) G.1 G.2.1 (G.2.2.1.trans hl.1.symm) G.2.2.2.2.2.2.1 (G.2.2.2.2.2.1 _ q486) (G.2.2.2.2.2.1 _ q488) (G.2.2.2.2.2.1 _ q487) (G.2.2.2.2.2.1 _ q338) G.2.2.2.2.2.2.2.2.1 hP hD hS 0 1 0 0 rfl rfl rfl rfl rfl (nI_pos (by omega)) (nI_pos (by omega)) (nI_pos (by omega)) (by first | (rw [nI_clamp (by omega), nI_clamp (by omega)]; omega) | (rw [nI_clamp (by omega)]; omega)) (by first | (rw [nI_clamp (by omega), nI_clamp (by omega)]; omega) | (rw [nI_clamp (by omega)]; omega)) (fun _ _ => rfl) (Nat.le_of_ble_eq_true rfl) (Nat.le_of_ble_eq_true rfl) d_Ja_copyOf_28 (fun H locs hP hD hS => ?_)
  have hP : va_P D CL [(q, .inl (g 0, n, .inl f)), (q_1, .inl (g 0, t, .inl (va_cpy f (fun _ => nI 0) (nI 0).toNatClampNeg (nI 0).toNatClampNeg (nI n).toNatClampNeg)))] H := hP
  have hD : va_D A [(q, .inl (g 0, n, .inl f)), (q_1, .inl (g 0, t, .inl (va_cpy f (fun _ => nI 0) (nI 0).toNatClampNeg (nI 0).toNatClampNeg (nI n).toNatClampNeg)))] := hD
  rw [nI_clamp (n := 0) (by decide), nI_clamp (n := n) (by omega)] at hP hD
  have hP : va_P D CL [(q, .inl (g 0, n, .inl f)), (q_1, .inl (g 0, t, .inl (va_cpy f (fun _ => nI 0) 0 0 n)))] H := hP
  have hD : va_D A [(q, .inl (g 0, n, .inl f)), (q_1, .inl (g 0, t, .inl (va_cpy f (fun _ => nI 0) 0 0 n)))] := hD
  refine lv_aload_n G.1 G.2.1 d_Ja_copyOf_31 rfl (lv_at hl 0 rfl) ?_
  refine hret (some q_1) q_1 _ _ _ _ _ ls (show (some q_1) = some q_1 from rfl) (hP.sub [0, 1] rfl) (hD.sub [0, 1] (by decide) rfl) hS (Nat.le_of_ble_eq_true rfl) (by show _ ≤ t; omega) d_Ja_copyOf_32
theorem q475 : Cond.code y_Ja_copyOf b_Ja_copyOf 3 (some ((.array .int))) ∈ lw_ok := lw_okmem (List.mem_of_getElem? (i := 475) (by decide +kernel)) rfl
theorem q332 : Cond.initialized "java/util/Arrays" ∈ lw_ok := lw_okmem (List.mem_of_getElem? (i := 332) (by decide +kernel)) rfl
theorem q474 : Cond.static y_Ja_copyOf ∈ lw_ok := lw_okmem (List.mem_of_getElem? (i := 474) (by decide +kernel)) rfl
theorem w_Ja_copyOf : CWv y_Ja_copyOf b_Ja_copyOf 3 (some ((.array .int))) 2 ∧ Cond.static y_Ja_copyOf ∈ lw_ok := ⟨⟨q475, q332, by decide +kernel, by decide +kernel, by decide +kernel⟩, q474⟩
theorem q473 : Cond.methodLink "ClassWorks$Ints" 17 y_Ja_copyOf ∈ lw_ok := lw_okmem (List.mem_of_getElem? (i := 473) (by decide +kernel)) rfl
theorem d_In_add_12 : decode b_In_add 12 = .ok (.aload_n 0, 1) := by decide +kernel
theorem d_In_add_13 : decode b_In_add 13 = .ok (.aload_n 0, 1) := by decide +kernel
theorem d_In_add_14 : decode b_In_add 14 = .ok (.getfield 13, 3) := by decide +kernel
theorem d_In_add_17 : decode b_In_add 17 = .ok (.iconst 2, 1) := by decide +kernel
theorem d_In_add_18 : decode b_In_add 18 = .ok (.aload_n 0, 1) := by decide +kernel
theorem d_In_add_19 : decode b_In_add 19 = .ok (.getfield 7, 3) := by decide +kernel
theorem d_In_add_22 : decode b_In_add 22 = .ok (.imul, 1) := by decide +kernel
theorem d_In_add_23 : decode b_In_add 23 = .ok (.bipush 8, 2) := by decide +kernel
theorem d_In_add_25 : decode b_In_add 25 = .ok (.iadd, 1) := by decide +kernel
theorem d_In_add_26 : decode b_In_add 26 = .ok (.invokestatic 17, 3) := by decide +kernel
theorem d_In_add_29 : decode b_In_add 29 = .ok (.putfield 13, 3) := by decide +kernel
abbrev rm_In_add_u (k : Nat) : Room := { frames := 2, cells := 1, slots := 2 * k + 8, locals := 142 }
set_option maxHeartbeats 4000000 in
set_option maxRecDepth 100000 in
/-- add(v), also where the row is full -/
theorem c_In_add_u (l : Launch) (D : va_G) (g : Nat → ClassId) (h0 q n k : Nat) (f : Nat → Int32) (v : Int32) (sz uz : Nat) (hk : k ≤ n) (hn : n < 2 ^ 25) : Met l y_In_add (mw y_In_add b_In_add 2 (some .int)) (rm_In_add_u k) (PCu g D [] [.ref h0, .int v] sz uz [(h0, .inr (3, [.ref q, .int (nI k)])), (q, .inl (g 0, n, .inl f))]) (va_Qi (fun (r : Int32) (u : Nat × Nat × (Nat → Int32)) => r = nI k ∧ k + 1 ≤ u.2.1 ∧ u.2.2 k = v ∧ (∀ i, i < k → u.2.2 i = f i) ∧ ((k < n ∧ u.2.1 = n) ∨ (¬ k < n ∧ u.2.1 = 2 * k + 8))) (QU D (va_A [(h0, .inr (3, [.ref q, .int (nI k)])), (q, .inl (g 0, n, .inl f))] sz) (fun u : Nat × Nat × (Nat → Int32) => [(h0, .inr (3, [.ref u.1, .int (nI (k + 1))])), (u.1, .inl (g 0, u.2.1, .inl u.2.2))]) sz uz (fun _ => if k < n then 0 else 1) (fun _ => if k < n then 0 else 2 * k + 8)) (va_A [(h0, .inr (3, [.ref q, .int (nI k)])), (q, .inl (g 0, n, .inl f))] sz)) 1 (2 * k + 8) (va_A [(h0, .inr (3, [.ref q, .int (nI k)])), (q, .inl (g 0, n, .inl f))] sz) := by
  refine ofIu (by decide +kernel) (Nat.le_of_ble_eq_true rfl) ?_
  intro p e s m args below meth c A Q ls H locs G hsz hP hD hS hl hret
  subst hsz
  have hl : lv_has ls 2 [(0, .ref h0), (1, .int v)] := hl
  refine lv_aload_n G.1 G.2.1 d_In_add_0 rfl (lv_at hl 0 rfl) ?_
  refine kg (ci := 3) G iIn hP 0 rfl rfl 1 (by decide) q389 rfl rfl d_In_add_1 ?_
  refine lv_aload_n G.1 G.2.1 d_In_add_4 rfl (lv_at hl 0 rfl) ?_
  refine kg (ci := 3) G iIn hP 0 rfl rfl 0 (by decide) q379 rfl rfl d_In_add_5 ?_
  refine kalen G hP 1 0 rfl rfl d_In_add_8 ?_
  refine tpi (w := nI n) rfl ?_
  refine lv_icmp_ne (tgt := 32) G.1 G.2.1 d_In_add_9 (by decide) (fun c9 => ?_) (fun c9 => ?_)
  · skip
    have c9 : ¬ (k = n) := fun h => c9 ((nI_eq (by omega) (by omega)).mpr h)
    refine lv_aload_n G.1 G.2.1 d_In_add_32 rfl (lv_at hl 0 rfl) ?_
    refine kg (ci := 3) G iIn hP 0 rfl rfl 0 (by decide) q379 rfl rfl d_In_add_33 ?_
    refine lv_aload_n G.1 G.2.1 d_In_add_36 rfl (lv_at hl 0 rfl) ?_
    refine kg (ci := 3) G iIn hP 0 rfl rfl 1 (by decide) q389 rfl rfl d_In_add_37 ?_
    refine lv_iload_n G.1 G.2.1 d_In_add_40 rfl (lv_at hl 1 rfl) ?_
    refine W.eq (g2 := F0 m 41 ls [.int v, .int (nI k), .ref q]) rfl ?_
    refine kiast G hP hD hS 1 0 rfl rfl (by omega) (by omega) d_In_add_41 (fun H locs hP hD hS => ?_)
    have hP : va_P D CL [(h0, .inr (3, [.ref q, .int (nI k)])), (q, .inl (g 0, n, .inl (upd f k v)))] H := hP
    have hD : va_D A [(h0, .inr (3, [.ref q, .int (nI k)])), (q, .inl (g 0, n, .inl (upd f k v)))] := hD
    refine lv_aload_n G.1 G.2.1 d_In_add_42 rfl (lv_at hl 0 rfl) ?_
    refine lv_dup G.1 G.2.1 d_In_add_43 rfl ?_
    refine kg (ci := 3) G iIn hP 0 rfl rfl 1 (by decide) q389 rfl rfl d_In_add_44 ?_
    refine lv_iconst (v := nI 1) G.1 G.2.1 d_In_add_47 (by decide) ?_
    refine lv_iadd G.1 G.2.1 d_In_add_48 ?_
    refine tpi (w := nI (k + 1)) (nI_add _ _) ?_
    refine kp (ci := 3) G iIn tIn tIn_ok nIn hP hD hS 0 rfl rfl 1 (by decide) q389 rfl rfl rfl rfl (Nat.le_of_ble_eq_true rfl) d_In_add_49 (fun H locs hP hD hS => ?_)
    have hP : va_P D CL [(h0, .inr (3, [.ref q, .int (nI (k + 1))])), (q, .inl (g 0, n, .inl (upd f k v)))] H := hP
    have hD : va_D A [(h0, .inr (3, [.ref q, .int (nI (k + 1))])), (q, .inl (g 0, n, .inl (upd f k v)))] := hD
    refine lv_aload_n G.1 G.2.1 d_In_add_52 rfl (lv_at hl 0 rfl) ?_
    refine kg (ci := 3) G iIn hP 0 rfl rfl 1 (by decide) q389 rfl rfl d_In_add_53 ?_
    refine lv_iconst (v := nI 1) G.1 G.2.1 d_In_add_56 (by decide) ?_
    refine lv_isub G.1 G.2.1 d_In_add_57 ?_
    refine tpi (w := nI k) ((pk_sub (by omega)).trans (congrArg nI (by omega))) ?_
    refine hret (nI k) (q, n, upd f k v) _ _ _ _ _ ls (show (nI k) = nI k ∧ k + 1 ≤ n ∧ (upd f k v) k = v ∧ (∀ i, i < k → (upd f k v) i = f i) ∧ ((k < n ∧ n = n) ∨ (¬ k < n ∧ n = 2 * k + 8)) from ⟨rfl, by omega, by simp [upd], fun i hi => by simp [upd, show ¬ i = k by omega], Or.inl ⟨by omega, rfl⟩⟩) (hP.sub [0, 1] rfl) (hD.sub [0, 1] (by decide) rfl) hS (Nat.zero_le _) (Nat.zero_le _) (by show (if k < n then 0 else 1) ≤ 1; split <;> omega) (by show (if k < n then 0 else 2 * k + 8) ≤ 2 * k + 8; split <;> omega) d_In_add_58
  · skip
    have c9 : k = n := (nI_eq (by omega) (by omega)).mp c9
    refine lv_aload_n G.1 G.2.1 d_In_add_12 rfl (lv_at hl 0 rfl) ?_
    refine lv_aload_n G.1 G.2.1 d_In_add_13 rfl (lv_at hl 0 rfl) ?_
    refine kg (ci := 3) G iIn hP 0 rfl rfl 0 (by decide) q379 rfl rfl d_In_add_14 ?_
    refine lv_iconst (v := nI 2) G.1 G.2.1 d_In_add_17 (by decide) ?_
    refine lv_aload_n G.1 G.2.1 d_In_add_18 rfl (lv_at hl 0 rfl) ?_
    refine W.eq (g2 := F0 m 19 ls [.ref h0, .int (nI 2), .ref q, .ref h0]) rfl ?_
    refine kg (ci := 3) G iIn hP 0 rfl rfl 1 (by decide) q389 rfl rfl d_In_add_19 ?_
    refine lv_imul G.1 G.2.1 d_In_add_22 ?_
    refine tpi (w := nI (2 * k)) (pk_mul _ _) ?_
    refine lv_bipush (v := nI 8) G.1 G.2.1 d_In_add_23 (by decide) ?_
    refine lv_iadd G.1 G.2.1 d_In_add_25 ?_
    refine tpi (w := nI (2 * k + 8)) (nI_add _ _) ?_
    refine kEq (wr := [(h0, .inr (3, [.ref q, .int (nI k)]))]) G (kS (As := [.ref q, .int (nI (2 * k + 8))]) (rest := [.ref h0]) G hP hD hS [1] rfl rfl (c_Ja_copyOf l D g q n (2 * k + 8) f H.size (by omega) (by omega)) w_Ja_copyOf q473 rfl rfl ⟨Nat.le_of_ble_eq_true rfl, Nat.le_of_ble_eq_true rfl⟩ (fun _ h => absurd h List.not_mem_nil) hl.1 rfl (Nat.le_of_ble_eq_true rfl) rfl ⟨Nat.le_of_ble_eq_true rfl, (by show _ ≤ 2 * k + 8; omega)⟩ d_In_add_26) hP hD hS [1] [0] rfl rfl rfl rfl (fun r_1 u_2 H locs hw hP hD hS hzH => ?_)
    obtain ⟨x_3, rfl⟩ : ∃ z, z = u_2 := ⟨_, rfl⟩
    have hw : r_1 = some x_3 := hw
    have hP : va_P D CL [(h0, .inr (3, [.ref q, .int (nI k)])), (q, .inl (g 0, n, .inl f)), (x_3, .inl (g 0, (2 * k + 8), .inl (va_cpy f (fun _ => nI 0) 0 0 n)))] H := hP
    have hD : va_D A [(h0, .inr (3, [.ref q, .int (nI k)])), (q, .inl (g 0, n, .inl f)), (x_3, .inl (g 0, (2 * k + 8), .inl (va_cpy f (fun _ => nI 0) 0 0 n)))] := hD
    refine W.widen (k := 1) (n := (2 * k + 8)) (by omega) (by omega) ?_
    subst hw
    refine tpst (w := [.ref x_3, .ref h0]) rfl ?_
    refine kp (ci := 3) G iIn tIn tIn_ok nIn hP hD hS 0 rfl rfl 0 (by decide) q379 rfl rfl rfl rfl (Nat.le_of_ble_eq_true rfl) d_In_add_29 (fun H locs hP hD hS => ?_)
    have hP : va_P D CL [(h0, .inr (3, [.ref x_3, .int (nI k)])), (q, .inl (g 0, n, .inl f)), (x_3, .inl (g 0, (2 * k + 8), .inl (va_cpy f (fun _ => nI 0) 0 0 n)))] H := hP
    have hD : va_D A [(h0, .inr (3, [.ref x_3, .int (nI k)])), (q, .inl (g 0, n, .inl f)), (x_3, .inl (g 0, (2 * k + 8), .inl (va_cpy f (fun _ => nI 0) 0 0 n)))] := hD
    refine lv_aload_n G.1 G.2.1 d_In_add_32 rfl (lv_at hl 0 rfl) ?_
    refine kg (ci := 3) G iIn hP 0 rfl rfl 0 (by decide) q379 rfl rfl d_In_add_33 ?_
    refine lv_aload_n G.1 G.2.1 d_In_add_36 rfl (lv_at hl 0 rfl) ?_
    refine kg (ci := 3) G iIn hP 0 rfl rfl 1 (by decide) q389 rfl rfl d_In_add_37 ?_
    refine lv_iload_n G.1 G.2.1 d_In_add_40 rfl (lv_at hl 1 rfl) ?_
    refine kiast G hP hD hS 2 0 rfl rfl (by omega) (by omega) d_In_add_41 (fun H locs hP hD hS => ?_)
    have hP : va_P D CL [(h0, .inr (3, [.ref x_3, .int (nI k)])), (q, .inl (g 0, n, .inl f)), (x_3, .inl (g 0, (2 * k + 8), .inl (upd (va_cpy f (fun _ => nI 0) 0 0 n) k v)))] H := hP
    have hD : va_D A [(h0, .inr (3, [.ref x_3, .int (nI k)])), (q, .inl (g 0, n, .inl f)), (x_3, .inl (g 0, (2 * k + 8), .inl (upd (va_cpy f (fun _ => nI 0) 0 0 n) k v)))] := hD
    refine W.eq (g2 := F0 m 42 ls []) rfl ?_
    refine lv_aload_n G.1 G.2.1 d_In_add_42 rfl (lv_at hl 0 rfl) ?_
    refine lv_dup G.1 G.2.1 d_In_add_43 rfl ?_
    refine kg (ci := 3) G iIn hP 0 rfl rfl 1 (by decide) q389 rfl rfl d_In_add_44 ?_
    refine lv_iconst (v := nI 1) G.1 G.2.1 d_In_add_47 (by decide) ?_
    refine lv_iadd G.1 G.2.1 d_In_add_48 ?_
    refine tpi (w := nI (k + 1)) (nI_add _ _) ?_
    refine kp (ci := 3) G iIn tIn tIn_ok nIn hP hD hS 0 rfl rfl 1 (by decide) q389 rfl rfl rfl rfl (Nat.le_of_ble_eq_true rfl) d_In_add_49 (fun H locs hP hD hS => ?_)
    have hP : va_P D CL [(h0, .inr (3, [.ref x_3, .int (nI (k + 1))])), (q, .inl (g 0, n, .inl f)), (x_3, .inl (g 0, (2 * k + 8), .inl (upd (va_cpy f (fun _ => nI 0) 0 0 n) k v)))] H := hP
    have hD : va_D A [(h0, .inr (3, [.ref x_3, .int (nI (k + 1))])), (q, .inl (g 0, n, .inl f)), (x_3, .inl (g 0, (2 * k + 8), .inl (upd (va_cpy f (fun _ => nI 0) 0 0 n) k v)))] := hD
    refine lv_aload_n G.1 G.2.1 d_In_add_52 rfl (lv_at hl 0 rfl) ?_
    refine kg (ci := 3) G iIn hP 0 rfl rfl 1 (by decide) q389 rfl rfl d_In_add_53 ?_
    refine lv_iconst (v := nI 1) G.1 G.2.1 d_In_add_56 (by decide) ?_
    refine lv_isub G.1 G.2.1 d_In_add_57 ?_
    refine tpi (w := nI k) ((pk_sub (by omega)).trans (congrArg nI (by omega))) ?_
    refine hret (nI k) (x_3, 2 * k + 8, upd (va_cpy f (fun _ => nI 0) 0 0 n) k v) _ _ _ _ _ ls (show (nI k) = nI k ∧ k + 1 ≤ (2 * k + 8) ∧ (upd (va_cpy f (fun _ => nI 0) 0 0 n) k v) k = v ∧ (∀ i, i < k → (upd (va_cpy f (fun _ => nI 0) 0 0 n) k v) i = f i) ∧ ((k < n ∧ (2 * k + 8) = n) ∨ (¬ k < n ∧ (2 * k + 8) = 2 * k + 8)) from ⟨rfl, by omega, by simp [upd], fun i hi => by simp [upd, show ¬ i = k by omega, va_cpy, show i < n by omega], Or.inr ⟨by omega, rfl⟩⟩) (hP.sub [0, 2] rfl) (hD.sub [0, 2] (by decide) rfl) hS (Nat.le_of_eq (if_neg (by omega)).symm) (Nat.le_of_eq (if_neg (by omega)).symm) (by show (if k < n then 0 else 1) ≤ 1; split <;> omega) (by show (if k < n then 0 else 2 * k + 8) ≤ 2 * k + 8; split <;> omega) d_In_add_58
